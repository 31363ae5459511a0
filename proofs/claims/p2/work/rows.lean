section
-- ===== PART A: goes FIRST, ahead of the names: the tables' words, and 'selects' of the private methods out of them =====
/-- a private method of a class that the tables say can be made, by its rows of tables_1 -/
def lw_okq (q : MethodName × Nat) : Prop := (q.1.cls ≠ "java/lang/invoke/MethodHandle" ∧ q.1.cls ≠ "java/lang/invoke/VarHandle") ∧ Cond.instantiable q.1.cls q.2 ∈ tables_1 ∧ Cond.privateMethod q.1 ∈ tables_1 ∧ Cond.instanceMethod q.1 ∈ tables_1
theorem lw_p0 : lw_okq (⟨"PathFinder$Graph", "put", "(III)I"⟩, 2) := ⟨⟨by decide +kernel, by decide +kernel⟩, List.mem_of_getElem? (i := 19) (by decide +kernel), List.mem_of_getElem? (i := 145) (by decide +kernel), List.mem_of_getElem? (i := 146) (by decide +kernel)⟩
theorem lw_p1 : lw_okq (⟨"PathFinder", "forget", "()V"⟩, 4) := ⟨⟨by decide +kernel, by decide +kernel⟩, List.mem_of_getElem? (i := 11) (by decide +kernel), List.mem_of_getElem? (i := 164) (by decide +kernel), List.mem_of_getElem? (i := 165) (by decide +kernel)⟩
theorem lw_p2 : lw_okq (⟨"PathFinder$Graph", "remove", "(III)I"⟩, 2) := ⟨⟨by decide +kernel, by decide +kernel⟩, List.mem_of_getElem? (i := 19) (by decide +kernel), List.mem_of_getElem? (i := 172) (by decide +kernel), List.mem_of_getElem? (i := 173) (by decide +kernel)⟩
theorem lw_p3 : lw_okq (⟨"PathFinder$Path", "append", "(I)I"⟩, 7) := ⟨⟨by decide +kernel, by decide +kernel⟩, List.mem_of_getElem? (i := 38) (by decide +kernel), List.mem_of_getElem? (i := 185) (by decide +kernel), List.mem_of_getElem? (i := 186) (by decide +kernel)⟩
theorem lw_p4 : lw_okq (⟨"PathFinder$Path", "readWords", "()V"⟩, 7) := ⟨⟨by decide +kernel, by decide +kernel⟩, List.mem_of_getElem? (i := 38) (by decide +kernel), List.mem_of_getElem? (i := 189) (by decide +kernel), List.mem_of_getElem? (i := 190) (by decide +kernel)⟩
theorem lw_p5 : lw_okq (⟨"PathFinder$Path", "readPart", "(II)I"⟩, 7) := ⟨⟨by decide +kernel, by decide +kernel⟩, List.mem_of_getElem? (i := 38) (by decide +kernel), List.mem_of_getElem? (i := 193) (by decide +kernel), List.mem_of_getElem? (i := 194) (by decide +kernel)⟩
theorem lw_p6 : lw_okq (⟨"PathFinder$Path", "isWithin", "(III)Z"⟩, 7) := ⟨⟨by decide +kernel, by decide +kernel⟩, List.mem_of_getElem? (i := 38) (by decide +kernel), List.mem_of_getElem? (i := 197) (by decide +kernel), List.mem_of_getElem? (i := 198) (by decide +kernel)⟩
theorem lw_p7 : lw_okq (⟨"PathFinder$Path", "readLabels", "(II)I"⟩, 7) := ⟨⟨by decide +kernel, by decide +kernel⟩, List.mem_of_getElem? (i := 38) (by decide +kernel), List.mem_of_getElem? (i := 204) (by decide +kernel), List.mem_of_getElem? (i := 205) (by decide +kernel)⟩
theorem lw_p8 : lw_okq (⟨"PathFinder$Path", "empty", "()I"⟩, 7) := ⟨⟨by decide +kernel, by decide +kernel⟩, List.mem_of_getElem? (i := 38) (by decide +kernel), List.mem_of_getElem? (i := 212) (by decide +kernel), List.mem_of_getElem? (i := 213) (by decide +kernel)⟩
theorem lw_p9 : lw_okq (⟨"PathFinder$Path", "isJust", "()Z"⟩, 7) := ⟨⟨by decide +kernel, by decide +kernel⟩, List.mem_of_getElem? (i := 38) (by decide +kernel), List.mem_of_getElem? (i := 226) (by decide +kernel), List.mem_of_getElem? (i := 227) (by decide +kernel)⟩
theorem lw_p10 : lw_okq (⟨"PathFinder$Counts", "from", "(I)[J"⟩, 7) := ⟨⟨by decide +kernel, by decide +kernel⟩, List.mem_of_getElem? (i := 98) (by decide +kernel), List.mem_of_getElem? (i := 231) (by decide +kernel), List.mem_of_getElem? (i := 232) (by decide +kernel)⟩
theorem lw_p11 : lw_okq (⟨"PathFinder$Relations", "ofPath", "()[J"⟩, 4) := ⟨⟨by decide +kernel, by decide +kernel⟩, List.mem_of_getElem? (i := 76) (by decide +kernel), List.mem_of_getElem? (i := 236) (by decide +kernel), List.mem_of_getElem? (i := 237) (by decide +kernel)⟩
theorem lw_p12 : lw_okq (⟨"PathFinder$Relations", "fill", "(I)V"⟩, 4) := ⟨⟨by decide +kernel, by decide +kernel⟩, List.mem_of_getElem? (i := 76) (by decide +kernel), List.mem_of_getElem? (i := 240) (by decide +kernel), List.mem_of_getElem? (i := 241) (by decide +kernel)⟩
theorem lw_p13 : lw_okq (⟨"PathFinder$Relations", "addEdges", "([JI)V"⟩, 4) := ⟨⟨by decide +kernel, by decide +kernel⟩, List.mem_of_getElem? (i := 76) (by decide +kernel), List.mem_of_getElem? (i := 247) (by decide +kernel), List.mem_of_getElem? (i := 248) (by decide +kernel)⟩
theorem lw_p14 : lw_okq (⟨"PathFinder$Counts", "carry", "(IZI[J[J)V"⟩, 7) := ⟨⟨by decide +kernel, by decide +kernel⟩, List.mem_of_getElem? (i := 98) (by decide +kernel), List.mem_of_getElem? (i := 279) (by decide +kernel), List.mem_of_getElem? (i := 280) (by decide +kernel)⟩
theorem lw_p15 : lw_okq (⟨"PathFinder$Counts", "carryOverEdges", "(IZ[J[J)V"⟩, 7) := ⟨⟨by decide +kernel, by decide +kernel⟩, List.mem_of_getElem? (i := 98) (by decide +kernel), List.mem_of_getElem? (i := 283) (by decide +kernel), List.mem_of_getElem? (i := 284) (by decide +kernel)⟩
def lw_privs_1 : List (MethodName × Nat) := [(⟨"PathFinder$Graph", "put", "(III)I"⟩, 2), (⟨"PathFinder", "forget", "()V"⟩, 4), (⟨"PathFinder$Graph", "remove", "(III)I"⟩, 2), (⟨"PathFinder$Path", "append", "(I)I"⟩, 7), (⟨"PathFinder$Path", "readWords", "()V"⟩, 7), (⟨"PathFinder$Path", "readPart", "(II)I"⟩, 7), (⟨"PathFinder$Path", "isWithin", "(III)Z"⟩, 7), (⟨"PathFinder$Path", "readLabels", "(II)I"⟩, 7), (⟨"PathFinder$Path", "empty", "()I"⟩, 7), (⟨"PathFinder$Path", "isJust", "()Z"⟩, 7), (⟨"PathFinder$Counts", "from", "(I)[J"⟩, 7), (⟨"PathFinder$Relations", "ofPath", "()[J"⟩, 4), (⟨"PathFinder$Relations", "fill", "(I)V"⟩, 4), (⟨"PathFinder$Relations", "addEdges", "([JI)V"⟩, 4), (⟨"PathFinder$Counts", "carry", "(IZI[J[J)V"⟩, 7), (⟨"PathFinder$Counts", "carryOverEdges", "(IZ[J[J)V"⟩, 7)]
theorem lw_r1 : ∀ q ∈ lw_privs_1, lw_okq q := List.forall_mem_cons.mpr ⟨lw_p0, List.forall_mem_cons.mpr ⟨lw_p1, List.forall_mem_cons.mpr ⟨lw_p2, List.forall_mem_cons.mpr ⟨lw_p3, List.forall_mem_cons.mpr ⟨lw_p4, List.forall_mem_cons.mpr ⟨lw_p5, List.forall_mem_cons.mpr ⟨lw_p6, List.forall_mem_cons.mpr ⟨lw_p7, List.forall_mem_cons.mpr ⟨lw_p8, List.forall_mem_cons.mpr ⟨lw_p9, List.forall_mem_cons.mpr ⟨lw_p10, List.forall_mem_cons.mpr ⟨lw_p11, List.forall_mem_cons.mpr ⟨lw_p12, List.forall_mem_cons.mpr ⟨lw_p13, List.forall_mem_cons.mpr ⟨lw_p14, List.forall_mem_cons.mpr ⟨lw_p15, fun _ h => absurd h List.not_mem_nil⟩⟩⟩⟩⟩⟩⟩⟩⟩⟩⟩⟩⟩⟩⟩⟩
theorem lw_p16 : lw_okq (⟨"PathFinder$Counts", "carryOverBoth", "(IZI[J[J)V"⟩, 7) := ⟨⟨by decide +kernel, by decide +kernel⟩, List.mem_of_getElem? (i := 98) (by decide +kernel), List.mem_of_getElem? (i := 302) (by decide +kernel), List.mem_of_getElem? (i := 303) (by decide +kernel)⟩
theorem lw_p17 : lw_okq (⟨"PathFinderModel", "reckon", "()Z"⟩, 10) := ⟨⟨by decide +kernel, by decide +kernel⟩, List.mem_of_getElem? (i := 336) (by decide +kernel), List.mem_of_getElem? (i := 417) (by decide +kernel), List.mem_of_getElem? (i := 418) (by decide +kernel)⟩
theorem lw_p18 : lw_okq (⟨"PathFinderModel", "edgesOf", "(II)V"⟩, 10) := ⟨⟨by decide +kernel, by decide +kernel⟩, List.mem_of_getElem? (i := 336) (by decide +kernel), List.mem_of_getElem? (i := 422) (by decide +kernel), List.mem_of_getElem? (i := 423) (by decide +kernel)⟩
theorem lw_p19 : lw_okq (⟨"PathFinderModel", "turn", "(I)V"⟩, 10) := ⟨⟨by decide +kernel, by decide +kernel⟩, List.mem_of_getElem? (i := 336) (by decide +kernel), List.mem_of_getElem? (i := 426) (by decide +kernel), List.mem_of_getElem? (i := 427) (by decide +kernel)⟩
theorem lw_p20 : lw_okq (⟨"PathFinderModel", "chain", "(II)V"⟩, 10) := ⟨⟨by decide +kernel, by decide +kernel⟩, List.mem_of_getElem? (i := 336) (by decide +kernel), List.mem_of_getElem? (i := 430) (by decide +kernel), List.mem_of_getElem? (i := 431) (by decide +kernel)⟩
theorem lw_p21 : lw_okq (⟨"PathFinderModel", "fall", "(I)V"⟩, 10) := ⟨⟨by decide +kernel, by decide +kernel⟩, List.mem_of_getElem? (i := 336) (by decide +kernel), List.mem_of_getElem? (i := 441) (by decide +kernel), List.mem_of_getElem? (i := 442) (by decide +kernel)⟩
theorem lw_p22 : lw_okq (⟨"PathFinderModel", "mark", "(IZ)V"⟩, 10) := ⟨⟨by decide +kernel, by decide +kernel⟩, List.mem_of_getElem? (i := 336) (by decide +kernel), List.mem_of_getElem? (i := 445) (by decide +kernel), List.mem_of_getElem? (i := 446) (by decide +kernel)⟩
theorem lw_p23 : lw_okq (⟨"PathFinderModel", "close", "(IZ)V"⟩, 10) := ⟨⟨by decide +kernel, by decide +kernel⟩, List.mem_of_getElem? (i := 336) (by decide +kernel), List.mem_of_getElem? (i := 449) (by decide +kernel), List.mem_of_getElem? (i := 450) (by decide +kernel)⟩
def lw_privs_2 : List (MethodName × Nat) := [(⟨"PathFinder$Counts", "carryOverBoth", "(IZI[J[J)V"⟩, 7), (⟨"PathFinderModel", "reckon", "()Z"⟩, 10), (⟨"PathFinderModel", "edgesOf", "(II)V"⟩, 10), (⟨"PathFinderModel", "turn", "(I)V"⟩, 10), (⟨"PathFinderModel", "chain", "(II)V"⟩, 10), (⟨"PathFinderModel", "fall", "(I)V"⟩, 10), (⟨"PathFinderModel", "mark", "(IZ)V"⟩, 10), (⟨"PathFinderModel", "close", "(IZ)V"⟩, 10)]
theorem lw_r2 : ∀ q ∈ lw_privs_2, lw_okq q := List.forall_mem_cons.mpr ⟨lw_p16, List.forall_mem_cons.mpr ⟨lw_p17, List.forall_mem_cons.mpr ⟨lw_p18, List.forall_mem_cons.mpr ⟨lw_p19, List.forall_mem_cons.mpr ⟨lw_p20, List.forall_mem_cons.mpr ⟨lw_p21, List.forall_mem_cons.mpr ⟨lw_p22, List.forall_mem_cons.mpr ⟨lw_p23, fun _ h => absurd h List.not_mem_nil⟩⟩⟩⟩⟩⟩⟩⟩
def lw_privs : List (MethodName × Nat) := lw_privs_1 ++ (lw_privs_2)
def lw_tbl : List Cond := k2_sels lw_privs ++ tables_1
theorem lw_privs_ok : ∀ q ∈ lw_privs, lw_okq q := by
  show ∀ q ∈ lw_privs_1 ++ (lw_privs_2), lw_okq q
  exact List.forall_mem_append.mpr ⟨lw_r1, lw_r2⟩

/-! NAMES, by program out of the Statement -/
def pw_all : List Cond := lw_tbl.filter goodWord
theorem pw_good : GoodIn lw_tbl pw_all := fun w h => ⟨(List.mem_filter.mp h).1, good_of_word (List.mem_filter.mp h).2⟩
theorem pw_in {w : Cond} (h : w ∈ lw_tbl) (g : goodWord w = true) : w ∈ pw_all := List.mem_filter.mpr ⟨h, g⟩
def R_CN : String := "PathFinder$Counts"
def T_CN : u_T := fun k => match k with
  | 0 => ("PathFinder$Counts", "graph", "LPathFinder$Graph;", true)
  | 1 => ("PathFinder$Counts", "path", "LPathFinder$Path;", true)
  | 2 => ("PathFinder$Counts", "relations", "LPathFinder$Relations;", true)
  | 3 => ("PathFinder$Counts", "before", "[J", true)
  | 4 => ("PathFinder$Counts", "after", "[J", true)
  | 5 => ("PathFinder$Counts", "between", "[[J", true)
  | _ => ("PathFinder$Counts", "start", "I", false)
def t_CN : Nat → FieldType := fun k => match k with
  | 0 => (.object "PathFinder$Graph")
  | 1 => (.object "PathFinder$Path")
  | 2 => (.object "PathFinder$Relations")
  | 3 => (.array .long)
  | 4 => (.array .long)
  | 5 => (.array (.array .long))
  | _ => .int
theorem n_CN : ∀ a, a < 7 → ∀ b, b < 7 → a ≠ b → (T_CN a).2.1 ≠ (T_CN b).2.1 := by decide +kernel
theorem tk_CN : ∀ k, k < 7 → parseFieldDescriptor (T_CN k).2.2.1 = some (t_CN k) := by decide +kernel
def R_GR : String := "PathFinder$Graph"
def T_GR : u_T := fun k => match k with
  | 0 => ("PathFinder$Graph", "targets", "[[J", true)
  | _ => ("PathFinder$Graph", "size", "I", false)
def t_GR : Nat → FieldType := fun k => match k with
  | 0 => (.array (.array .long))
  | _ => .int
theorem n_GR : ∀ a, a < 2 → ∀ b, b < 2 → a ≠ b → (T_GR a).2.1 ≠ (T_GR b).2.1 := by decide +kernel
theorem tk_GR : ∀ k, k < 2 → parseFieldDescriptor (T_GR k).2.2.1 = some (t_GR k) := by decide +kernel
def R_PA : String := "PathFinder$Path"
def T_PA : u_T := fun k => match k with
  | 0 => ("PathFinder$Path", "words", "[I", true)
  | 1 => ("PathFinder$Path", "kinds", "[I", true)
  | 2 => ("PathFinder$Path", "labelSets", "[I", true)
  | 3 => ("PathFinder$Path", "seconds", "[I", true)
  | 4 => ("PathFinder$Path", "size", "I", false)
  | 5 => ("PathFinder$Path", "parts", "I", false)
  | _ => ("PathFinder$Path", "fault", "I", false)
def t_PA : Nat → FieldType := fun k => match k with
  | 0 => (.array .int)
  | 1 => (.array .int)
  | 2 => (.array .int)
  | 3 => (.array .int)
  | 4 => .int
  | 5 => .int
  | _ => .int
theorem n_PA : ∀ a, a < 7 → ∀ b, b < 7 → a ≠ b → (T_PA a).2.1 ≠ (T_PA b).2.1 := by decide +kernel
theorem tk_PA : ∀ k, k < 7 → parseFieldDescriptor (T_PA k).2.2.1 = some (t_PA k) := by decide +kernel
def R_RE : String := "PathFinder$Relations"
def T_RE : u_T := fun k => match k with
  | 0 => ("PathFinder$Relations", "graph", "LPathFinder$Graph;", true)
  | 1 => ("PathFinder$Relations", "path", "LPathFinder$Path;", true)
  | 2 => ("PathFinder$Relations", "partRows", "[[J", true)
  | _ => ("PathFinder$Relations", "ready", "Z", false)
def t_RE : Nat → FieldType := fun k => match k with
  | 0 => (.object "PathFinder$Graph")
  | 1 => (.object "PathFinder$Path")
  | 2 => (.array (.array .long))
  | _ => .boolean
theorem n_RE : ∀ a, a < 4 → ∀ b, b < 4 → a ≠ b → (T_RE a).2.1 ≠ (T_RE b).2.1 := by decide +kernel
theorem tk_RE : ∀ k, k < 4 → parseFieldDescriptor (T_RE k).2.2.1 = some (t_RE k) := by decide +kernel
def R_PF : String := "PathFinder"
def T_PF : u_T := fun k => match k with
  | 0 => ("PathFinder", "graph", "LPathFinder$Graph;", true)
  | 1 => ("PathFinder", "path", "LPathFinder$Path;", true)
  | 2 => ("PathFinder", "relations", "LPathFinder$Relations;", true)
  | _ => ("PathFinder", "counts", "LPathFinder$Counts;", true)
def t_PF : Nat → FieldType := fun k => match k with
  | 0 => (.object "PathFinder$Graph")
  | 1 => (.object "PathFinder$Path")
  | 2 => (.object "PathFinder$Relations")
  | _ => (.object "PathFinder$Counts")
theorem n_PF : ∀ a, a < 4 → ∀ b, b < 4 → a ≠ b → (T_PF a).2.1 ≠ (T_PF b).2.1 := by decide +kernel
theorem tk_PF : ∀ k, k < 4 → parseFieldDescriptor (T_PF k).2.2.1 = some (t_PF k) := by decide +kernel
def R_MO : String := "PathFinderModel"
def T_MO : u_T := fun k => match k with
  | 0 => ("PathFinderModel", "there", "[Z", true)
  | 1 => ("PathFinderModel", "count", "I", false)
  | 2 => ("PathFinderModel", "words", "[I", true)
  | 3 => ("PathFinderModel", "size", "I", false)
  | 4 => ("PathFinderModel", "starts", "[I", true)
  | 5 => ("PathFinderModel", "parts", "I", false)
  | 6 => ("PathFinderModel", "lacks", "[I", true)
  | 7 => ("PathFinderModel", "tables", "[J", true)
  | 8 => ("PathFinderModel", "reckoned", "Z", false)
  | _ => ("PathFinderModel", "spare", "[J", true)
def t_MO : Nat → FieldType := fun k => match k with
  | 0 => (.array .boolean)
  | 1 => .int
  | 2 => (.array .int)
  | 3 => .int
  | 4 => (.array .int)
  | 5 => .int
  | 6 => (.array .int)
  | 7 => (.array .long)
  | 8 => .boolean
  | _ => (.array .long)
theorem n_MO : ∀ a, a < 10 → ∀ b, b < 10 → a ≠ b → (T_MO a).2.1 ≠ (T_MO b).2.1 := by decide +kernel
theorem tk_MO : ∀ k, k < 10 → parseFieldDescriptor (T_MO k).2.2.1 = some (t_MO k) := by decide +kernel
abbrev vwCl : List vw_C := [(R_CN, T_CN, 7), (R_GR, T_GR, 2), (R_PA, T_PA, 7), (R_RE, T_RE, 4), (R_PF, T_PF, 4), (R_MO, T_MO, 10)]
abbrev c_PF_init : ByteArray := prog_1_method_1_code
def y_PF_init : MethodName := ⟨"PathFinder", "<init>", "()V"⟩
abbrev c_GR_init : ByteArray := prog_3_method_1_code
def y_GR_init : MethodName := ⟨"PathFinder$Graph", "<init>", "()V"⟩
abbrev c_PA_init : ByteArray := prog_4_method_1_code
def y_PA_init : MethodName := ⟨"PathFinder$Path", "<init>", "()V"⟩
abbrev c_RE_init : ByteArray := prog_5_method_1_code
def y_RE_init : MethodName := ⟨"PathFinder$Relations", "<init>", "(LPathFinder$Graph;LPathFinder$Path;)V"⟩
abbrev c_CN_init : ByteArray := prog_2_method_1_code
def y_CN_init : MethodName := ⟨"PathFinder$Counts", "<init>", "(LPathFinder$Graph;LPathFinder$Path;LPathFinder$Relations;)V"⟩
abbrev c_PF_edge : ByteArray := prog_1_method_2_code
def y_PF_edge : MethodName := ⟨"PathFinder", "edge", "(III)I"⟩
abbrev c_GR_put : ByteArray := prog_3_method_2_code
def y_GR_put : MethodName := ⟨"PathFinder$Graph", "put", "(III)I"⟩
abbrev c_GR_isEdge : ByteArray := prog_3_method_4_code
def y_GR_isEdge : MethodName := ⟨"PathFinder$Graph", "isEdge", "(III)Z"⟩
abbrev c_PF_isPoint : ByteArray := prog_1_method_15_code
def y_PF_isPoint : MethodName := ⟨"PathFinder", "isPoint", "(I)Z"⟩
abbrev c_PF_isLabel : ByteArray := prog_1_method_16_code
def y_PF_isLabel : MethodName := ⟨"PathFinder", "isLabel", "(I)Z"⟩
abbrev c_PF_holds : ByteArray := prog_1_method_18_code
def y_PF_holds : MethodName := ⟨"PathFinder", "holds", "(JI)Z"⟩
abbrev c_PF_bit : ByteArray := prog_1_method_17_code
def y_PF_bit : MethodName := ⟨"PathFinder", "bit", "(I)J"⟩
abbrev c_PF_forget : ByteArray := prog_1_method_14_code
def y_PF_forget : MethodName := ⟨"PathFinder", "forget", "()V"⟩
abbrev c_PF_drop : ByteArray := prog_1_method_3_code
def y_PF_drop : MethodName := ⟨"PathFinder", "drop", "(III)I"⟩
abbrev c_GR_remove : ByteArray := prog_3_method_3_code
def y_GR_remove : MethodName := ⟨"PathFinder$Graph", "remove", "(III)I"⟩
abbrev c_PF_edges : ByteArray := prog_1_method_4_code
def y_PF_edges : MethodName := ⟨"PathFinder", "edges", "()I"⟩
abbrev c_PF_word : ByteArray := prog_1_method_5_code
def y_PF_word : MethodName := ⟨"PathFinder", "word", "(I)I"⟩
abbrev c_PA_append : ByteArray := prog_4_method_2_code
def y_PA_append : MethodName := ⟨"PathFinder$Path", "append", "(I)I"⟩
abbrev c_PA_readWords : ByteArray := prog_4_method_5_code
def y_PA_readWords : MethodName := ⟨"PathFinder$Path", "readWords", "()V"⟩
abbrev c_PA_readPart : ByteArray := prog_4_method_6_code
def y_PA_readPart : MethodName := ⟨"PathFinder$Path", "readPart", "(II)I"⟩
abbrev c_PA_isWithin : ByteArray := prog_4_method_8_code
def y_PA_isWithin : MethodName := ⟨"PathFinder$Path", "isWithin", "(III)Z"⟩
abbrev c_PA_faultAt : ByteArray := prog_4_method_9_code
def y_PA_faultAt : MethodName := ⟨"PathFinder$Path", "faultAt", "(I)I"⟩
abbrev c_PA_readLabels : ByteArray := prog_4_method_7_code
def y_PA_readLabels : MethodName := ⟨"PathFinder$Path", "readLabels", "(II)I"⟩
abbrev c_PF_clear : ByteArray := prog_1_method_6_code
def y_PF_clear : MethodName := ⟨"PathFinder", "clear", "()I"⟩
abbrev c_PA_empty : ByteArray := prog_4_method_3_code
def y_PA_empty : MethodName := ⟨"PathFinder$Path", "empty", "()I"⟩
abbrev c_PF_look : ByteArray := prog_1_method_7_code
def y_PF_look : MethodName := ⟨"PathFinder", "look", "()I"⟩
abbrev c_PF_times : ByteArray := prog_1_method_8_code
def y_PF_times : MethodName := ⟨"PathFinder", "times", "(II)J"⟩
abbrev c_PA_isJust : ByteArray := prog_4_method_4_code
def y_PA_isJust : MethodName := ⟨"PathFinder$Path", "isJust", "()Z"⟩
abbrev c_CN_from : ByteArray := prog_2_method_2_code
def y_CN_from : MethodName := ⟨"PathFinder$Counts", "from", "(I)[J"⟩
abbrev c_RE_ofPath : ByteArray := prog_5_method_2_code
def y_RE_ofPath : MethodName := ⟨"PathFinder$Relations", "ofPath", "()[J"⟩
abbrev c_RE_fill : ByteArray := prog_5_method_3_code
def y_RE_fill : MethodName := ⟨"PathFinder$Relations", "fill", "(I)V"⟩
abbrev c_AR_fill : ByteArray := prog_10_method_101_code
def y_AR_fill : MethodName := ⟨"java/util/Arrays", "fill", "([JJ)V"⟩
abbrev c_RE_addEdges : ByteArray := prog_5_method_5_code
def y_RE_addEdges : MethodName := ⟨"PathFinder$Relations", "addEdges", "([JI)V"⟩
abbrev c_RE_add : ByteArray := prog_5_method_6_code
def y_RE_add : MethodName := ⟨"PathFinder$Relations", "add", "([J[J)V"⟩
abbrev c_RE_fillFrom : ByteArray := prog_5_method_4_code
def y_RE_fillFrom : MethodName := ⟨"PathFinder$Relations", "fillFrom", "([JI[J[J)V"⟩
abbrev c_RE_addTurned : ByteArray := prog_5_method_8_code
def y_RE_addTurned : MethodName := ⟨"PathFinder$Relations", "addTurned", "([J[J)V"⟩
abbrev c_LO_ntz : ByteArray := prog_9_method_49_code
def y_LO_ntz : MethodName := ⟨"java/lang/Long", "numberOfTrailingZeros", "(J)I"⟩
abbrev c_IN_ntz : ByteArray := prog_8_method_48_code
def y_IN_ntz : MethodName := ⟨"java/lang/Integer", "numberOfTrailingZeros", "(I)I"⟩
abbrev c_RE_addJoined : ByteArray := prog_5_method_9_code
def y_RE_addJoined : MethodName := ⟨"PathFinder$Relations", "addJoined", "([J[J[J)V"⟩
abbrev c_RE_addStaying : ByteArray := prog_5_method_7_code
def y_RE_addStaying : MethodName := ⟨"PathFinder$Relations", "addStaying", "([J)V"⟩
abbrev c_RE_close : ByteArray := prog_5_method_10_code
def y_RE_close : MethodName := ⟨"PathFinder$Relations", "close", "([J)V"⟩
abbrev c_CN_carry : ByteArray := prog_2_method_3_code
def y_CN_carry : MethodName := ⟨"PathFinder$Counts", "carry", "(IZI[J[J)V"⟩
abbrev c_CN_carryOverEdges : ByteArray := prog_2_method_5_code
def y_CN_carryOverEdges : MethodName := ⟨"PathFinder$Counts", "carryOverEdges", "(IZ[J[J)V"⟩
abbrev c_CN_carryOver : ByteArray := prog_2_method_6_code
def y_CN_carryOver : MethodName := ⟨"PathFinder$Counts", "carryOver", "([JZ[J[J)V"⟩
abbrev c_CN_gather : ByteArray := prog_2_method_7_code
def y_CN_gather : MethodName := ⟨"PathFinder$Counts", "gather", "(J[J)J"⟩
abbrev c_PF_sumOf : ByteArray := prog_1_method_19_code
def y_PF_sumOf : MethodName := ⟨"PathFinder", "sumOf", "(JJ)J"⟩
abbrev c_CN_spread : ByteArray := prog_2_method_8_code
def y_CN_spread : MethodName := ⟨"PathFinder$Counts", "spread", "(JJ[J)V"⟩
abbrev c_CN_carryOverBoth : ByteArray := prog_2_method_4_code
def y_CN_carryOverBoth : MethodName := ⟨"PathFinder$Counts", "carryOverBoth", "(IZI[J[J)V"⟩
abbrev c_PF_ends : ByteArray := prog_1_method_9_code
def y_PF_ends : MethodName := ⟨"PathFinder", "ends", "(I)I"⟩
abbrev c_LO_bc : ByteArray := prog_9_method_50_code
def y_LO_bc : MethodName := ⟨"java/lang/Long", "bitCount", "(J)I"⟩
abbrev c_PF_reached : ByteArray := prog_1_method_10_code
def y_PF_reached : MethodName := ⟨"PathFinder", "reached", "(I)J"⟩
abbrev c_PF_all : ByteArray := prog_1_method_11_code
def y_PF_all : MethodName := ⟨"PathFinder", "all", "(I)J"⟩
abbrev c_PF_reaching : ByteArray := prog_1_method_12_code
def y_PF_reaching : MethodName := ⟨"PathFinder", "reaching", "(I)J"⟩
abbrev c_PF_pairs : ByteArray := prog_1_method_13_code
def y_PF_pairs : MethodName := ⟨"PathFinder", "pairs", "()I"⟩
abbrev c_MO_init : ByteArray := prog_7_method_1_code
def y_MO_init : MethodName := ⟨"PathFinderModel", "<init>", "()V"⟩
abbrev c_MO_edge : ByteArray := prog_7_method_5_code
def y_MO_edge : MethodName := ⟨"PathFinderModel", "edge", "(III)I"⟩
abbrev c_MO_isEdge : ByteArray := prog_7_method_3_code
def y_MO_isEdge : MethodName := ⟨"PathFinderModel", "isEdge", "(III)Z"⟩
abbrev c_MO_isPoint : ByteArray := prog_7_method_2_code
def y_MO_isPoint : MethodName := ⟨"PathFinderModel", "isPoint", "(I)Z"⟩
abbrev c_MO_place : ByteArray := prog_7_method_4_code
def y_MO_place : MethodName := ⟨"PathFinderModel", "place", "(III)I"⟩
abbrev c_MO_drop : ByteArray := prog_7_method_6_code
def y_MO_drop : MethodName := ⟨"PathFinderModel", "drop", "(III)I"⟩
abbrev c_MO_edges : ByteArray := prog_7_method_7_code
def y_MO_edges : MethodName := ⟨"PathFinderModel", "edges", "()I"⟩
abbrev c_MO_word : ByteArray := prog_7_method_8_code
def y_MO_word : MethodName := ⟨"PathFinderModel", "word", "(I)I"⟩
abbrev c_MO_clear : ByteArray := prog_7_method_9_code
def y_MO_clear : MethodName := ⟨"PathFinderModel", "clear", "()I"⟩
abbrev c_MO_look : ByteArray := prog_7_method_11_code
def y_MO_look : MethodName := ⟨"PathFinderModel", "look", "()I"⟩
abbrev c_MO_children : ByteArray := prog_7_method_10_code
def y_MO_children : MethodName := ⟨"PathFinderModel", "children", "(I)I"⟩
abbrev c_MO_times : ByteArray := prog_7_method_21_code
def y_MO_times : MethodName := ⟨"PathFinderModel", "times", "(II)J"⟩
abbrev c_MO_reckon : ByteArray := prog_7_method_19_code
def y_MO_reckon : MethodName := ⟨"PathFinderModel", "reckon", "()Z"⟩
abbrev c_MO_edgesOf : ByteArray := prog_7_method_14_code
def y_MO_edgesOf : MethodName := ⟨"PathFinderModel", "edgesOf", "(II)V"⟩
abbrev c_MO_turn : ByteArray := prog_7_method_15_code
def y_MO_turn : MethodName := ⟨"PathFinderModel", "turn", "(I)V"⟩
abbrev c_MO_chain : ByteArray := prog_7_method_16_code
def y_MO_chain : MethodName := ⟨"PathFinderModel", "chain", "(II)V"⟩
abbrev c_MO_product : ByteArray := prog_7_method_13_code
def y_MO_product : MethodName := ⟨"PathFinderModel", "product", "(JJ)J"⟩
abbrev c_MO_least : ByteArray := prog_7_method_12_code
def y_MO_least : MethodName := ⟨"PathFinderModel", "least", "(J)J"⟩
abbrev c_MO_fall : ByteArray := prog_7_method_20_code
def y_MO_fall : MethodName := ⟨"PathFinderModel", "fall", "(I)V"⟩
abbrev c_MO_mark : ByteArray := prog_7_method_17_code
def y_MO_mark : MethodName := ⟨"PathFinderModel", "mark", "(IZ)V"⟩
abbrev c_MO_close : ByteArray := prog_7_method_18_code
def y_MO_close : MethodName := ⟨"PathFinderModel", "close", "(IZ)V"⟩
abbrev c_MO_ends : ByteArray := prog_7_method_22_code
def y_MO_ends : MethodName := ⟨"PathFinderModel", "ends", "(I)I"⟩
abbrev c_MO_reached : ByteArray := prog_7_method_23_code
def y_MO_reached : MethodName := ⟨"PathFinderModel", "reached", "(I)J"⟩
abbrev c_MO_all : ByteArray := prog_7_method_24_code
def y_MO_all : MethodName := ⟨"PathFinderModel", "all", "(I)J"⟩
abbrev c_MO_reaching : ByteArray := prog_7_method_25_code
def y_MO_reaching : MethodName := ⟨"PathFinderModel", "reaching", "(I)J"⟩
abbrev c_MO_pairs : ByteArray := prog_7_method_26_code
def y_MO_pairs : MethodName := ⟨"PathFinderModel", "pairs", "()I"⟩
abbrev c_LA_law : ByteArray := code
end
section
/-! WORDS of the tables, by their places -/
theorem W_0 : (Cond.initialized "PathFinderLaw") ∈ pw_all := pw_in (List.mem_of_getElem? (i := 24) (by decide +kernel)) (by decide +kernel)
theorem W_1 : (Cond.initialized "PathFinder") ∈ pw_all := pw_in (List.mem_of_getElem? (i := 25) (by decide +kernel)) (by decide +kernel)
theorem W_2 : (Cond.initialized "PathFinder$Graph") ∈ pw_all := pw_in (List.mem_of_getElem? (i := 26) (by decide +kernel)) (by decide +kernel)
theorem W_3 : (Cond.initialized "PathFinder$Path") ∈ pw_all := pw_in (List.mem_of_getElem? (i := 27) (by decide +kernel)) (by decide +kernel)
theorem W_4 : (Cond.initialized "PathFinder$Relations") ∈ pw_all := pw_in (List.mem_of_getElem? (i := 28) (by decide +kernel)) (by decide +kernel)
theorem W_5 : (Cond.initialized "PathFinder$Counts") ∈ pw_all := pw_in (List.mem_of_getElem? (i := 29) (by decide +kernel)) (by decide +kernel)
theorem W_6 : (Cond.initialized "PathFinderModel") ∈ pw_all := pw_in (List.mem_of_getElem? (i := 30) (by decide +kernel)) (by decide +kernel)
theorem W_7 : (Cond.initialized "java/util/Arrays") ∈ pw_all := pw_in (List.mem_of_getElem? (i := 31) (by decide +kernel)) (by decide +kernel)
theorem W_8 : (Cond.initialized "java/lang/Long") ∈ pw_all := pw_in (List.mem_of_getElem? (i := 32) (by decide +kernel)) (by decide +kernel)
theorem W_9 : (Cond.initialized "java/lang/Integer") ∈ pw_all := pw_in (List.mem_of_getElem? (i := 33) (by decide +kernel)) (by decide +kernel)
theorem W_10 : (Cond.classLink "PathFinderLaw" (7 : Nat) "PathFinder") ∈ pw_all := pw_in (List.mem_of_getElem? (i := 34) (by decide +kernel)) (by decide +kernel)
theorem W_11 : (Cond.instantiable "PathFinder" (4 : Nat)) ∈ pw_all := pw_in (List.mem_of_getElem? (i := 35) (by decide +kernel)) (by decide +kernel)
theorem W_12 : (Cond.methodLink "PathFinderLaw" (9 : Nat) ({ cls := "PathFinder", name := "<init>", desc := "()V" } : MethodName)) ∈ pw_all := pw_in (List.mem_of_getElem? (i := 36) (by decide +kernel)) (by decide +kernel)
theorem W_13 : (Cond.instanceMethod ({ cls := "PathFinder", name := "<init>", desc := "()V" } : MethodName)) ∈ pw_all := pw_in (List.mem_of_getElem? (i := 37) (by decide +kernel)) (by decide +kernel)
theorem W_14 : (Cond.code ({ cls := "PathFinder", name := "<init>", desc := "()V" } : MethodName) prog_1_method_1_code (1 : Nat) (Option.none : Option Jvm.ClassFile.FieldType)) ∈ pw_all := pw_in (List.mem_of_getElem? (i := 38) (by decide +kernel)) (by decide +kernel)
theorem W_15 : (Cond.methodLink "PathFinder" (1 : Nat) ({ cls := "java/lang/Object", name := "<init>", desc := "()V" } : MethodName)) ∈ pw_all := pw_in (List.mem_of_getElem? (i := 39) (by decide +kernel)) (by decide +kernel)
theorem W_16 : (Cond.instanceMethod ({ cls := "java/lang/Object", name := "<init>", desc := "()V" } : MethodName)) ∈ pw_all := pw_in (List.mem_of_getElem? (i := 40) (by decide +kernel)) (by decide +kernel)
theorem W_17 : (Cond.code ({ cls := "java/lang/Object", name := "<init>", desc := "()V" } : MethodName) object_method_1_code (1 : Nat) (Option.none : Option Jvm.ClassFile.FieldType)) ∈ pw_all := pw_in (List.mem_of_getElem? (i := 41) (by decide +kernel)) (by decide +kernel)
theorem W_18 : (Cond.classLink "PathFinder" (7 : Nat) "PathFinder$Graph") ∈ pw_all := pw_in (List.mem_of_getElem? (i := 42) (by decide +kernel)) (by decide +kernel)
theorem W_19 : (Cond.instantiable "PathFinder$Graph" (2 : Nat)) ∈ pw_all := pw_in (List.mem_of_getElem? (i := 43) (by decide +kernel)) (by decide +kernel)
theorem W_21 : (Cond.instanceMethod ({ cls := "PathFinder$Graph", name := "<init>", desc := "()V" } : MethodName)) ∈ pw_all := pw_in (List.mem_of_getElem? (i := 45) (by decide +kernel)) (by decide +kernel)
theorem W_22 : (Cond.code ({ cls := "PathFinder$Graph", name := "<init>", desc := "()V" } : MethodName) prog_3_method_1_code (1 : Nat) (Option.none : Option Jvm.ClassFile.FieldType)) ∈ pw_all := pw_in (List.mem_of_getElem? (i := 46) (by decide +kernel)) (by decide +kernel)
theorem W_23 : (Cond.methodLink "PathFinder$Graph" (3 : Nat) ({ cls := "java/lang/Object", name := "<init>", desc := "()V" } : MethodName)) ∈ pw_all := pw_in (List.mem_of_getElem? (i := 47) (by decide +kernel)) (by decide +kernel)
theorem W_24 : (Cond.classLink "PathFinder$Graph" (9 : Nat) "[[J") ∈ pw_all := pw_in (List.mem_of_getElem? (i := 48) (by decide +kernel)) (by decide +kernel)
theorem W_26 : (Cond.fieldLink "PathFinder$Graph" (11 : Nat) "PathFinder$Graph" "targets" "[[J") ∈ pw_all := pw_in (List.mem_of_getElem? (i := 50) (by decide +kernel)) (by decide +kernel)
theorem W_29 : (Cond.fieldLink "PathFinder$Graph" (28 : Nat) "PathFinder$Graph" "size" "I") ∈ pw_all := pw_in (List.mem_of_getElem? (i := 53) (by decide +kernel)) (by decide +kernel)
theorem W_31 : (Cond.laysFinal "PathFinder$Graph" "PathFinder$Graph" "targets" "[[J") ∈ pw_all := pw_in (List.mem_of_getElem? (i := 55) (by decide +kernel)) (by decide +kernel)
theorem W_33 : (Cond.lays "PathFinder$Graph" "PathFinder$Graph" "size" "I") ∈ pw_all := pw_in (List.mem_of_getElem? (i := 57) (by decide +kernel)) (by decide +kernel)
theorem W_36 : (Cond.arrayClass FieldType.long) ∈ pw_all := pw_in (List.mem_of_getElem? (i := 60) (by decide +kernel)) (by decide +kernel)
theorem W_37 : (Cond.classLink "PathFinder" (16 : Nat) "PathFinder$Path") ∈ pw_all := pw_in (List.mem_of_getElem? (i := 61) (by decide +kernel)) (by decide +kernel)
theorem W_38 : (Cond.instantiable "PathFinder$Path" (7 : Nat)) ∈ pw_all := pw_in (List.mem_of_getElem? (i := 62) (by decide +kernel)) (by decide +kernel)
theorem W_40 : (Cond.instanceMethod ({ cls := "PathFinder$Path", name := "<init>", desc := "()V" } : MethodName)) ∈ pw_all := pw_in (List.mem_of_getElem? (i := 64) (by decide +kernel)) (by decide +kernel)
theorem W_41 : (Cond.code ({ cls := "PathFinder$Path", name := "<init>", desc := "()V" } : MethodName) prog_4_method_1_code (1 : Nat) (Option.none : Option Jvm.ClassFile.FieldType)) ∈ pw_all := pw_in (List.mem_of_getElem? (i := 65) (by decide +kernel)) (by decide +kernel)
theorem W_42 : (Cond.methodLink "PathFinder$Path" (3 : Nat) ({ cls := "java/lang/Object", name := "<init>", desc := "()V" } : MethodName)) ∈ pw_all := pw_in (List.mem_of_getElem? (i := 66) (by decide +kernel)) (by decide +kernel)
theorem W_43 : (Cond.fieldLink "PathFinder$Path" (9 : Nat) "PathFinder$Path" "words" "[I") ∈ pw_all := pw_in (List.mem_of_getElem? (i := 67) (by decide +kernel)) (by decide +kernel)
theorem W_44 : (Cond.fieldLink "PathFinder$Path" (15 : Nat) "PathFinder$Path" "kinds" "[I") ∈ pw_all := pw_in (List.mem_of_getElem? (i := 68) (by decide +kernel)) (by decide +kernel)
theorem W_47 : (Cond.fieldLink "PathFinder$Path" (18 : Nat) "PathFinder$Path" "labelSets" "[I") ∈ pw_all := pw_in (List.mem_of_getElem? (i := 71) (by decide +kernel)) (by decide +kernel)
theorem W_50 : (Cond.fieldLink "PathFinder$Path" (21 : Nat) "PathFinder$Path" "seconds" "[I") ∈ pw_all := pw_in (List.mem_of_getElem? (i := 74) (by decide +kernel)) (by decide +kernel)
theorem W_53 : (Cond.fieldLink "PathFinder$Path" (28 : Nat) "PathFinder$Path" "size" "I") ∈ pw_all := pw_in (List.mem_of_getElem? (i := 77) (by decide +kernel)) (by decide +kernel)
theorem W_56 : (Cond.fieldLink "PathFinder$Path" (34 : Nat) "PathFinder$Path" "parts" "I") ∈ pw_all := pw_in (List.mem_of_getElem? (i := 80) (by decide +kernel)) (by decide +kernel)
theorem W_57 : (Cond.fieldLink "PathFinder$Path" (24 : Nat) "PathFinder$Path" "fault" "I") ∈ pw_all := pw_in (List.mem_of_getElem? (i := 81) (by decide +kernel)) (by decide +kernel)
theorem W_59 : (Cond.laysFinal "PathFinder$Path" "PathFinder$Path" "words" "[I") ∈ pw_all := pw_in (List.mem_of_getElem? (i := 83) (by decide +kernel)) (by decide +kernel)
theorem W_61 : (Cond.laysFinal "PathFinder$Path" "PathFinder$Path" "kinds" "[I") ∈ pw_all := pw_in (List.mem_of_getElem? (i := 85) (by decide +kernel)) (by decide +kernel)
theorem W_63 : (Cond.laysFinal "PathFinder$Path" "PathFinder$Path" "labelSets" "[I") ∈ pw_all := pw_in (List.mem_of_getElem? (i := 87) (by decide +kernel)) (by decide +kernel)
theorem W_65 : (Cond.laysFinal "PathFinder$Path" "PathFinder$Path" "seconds" "[I") ∈ pw_all := pw_in (List.mem_of_getElem? (i := 89) (by decide +kernel)) (by decide +kernel)
theorem W_67 : (Cond.lays "PathFinder$Path" "PathFinder$Path" "size" "I") ∈ pw_all := pw_in (List.mem_of_getElem? (i := 91) (by decide +kernel)) (by decide +kernel)
theorem W_69 : (Cond.lays "PathFinder$Path" "PathFinder$Path" "parts" "I") ∈ pw_all := pw_in (List.mem_of_getElem? (i := 93) (by decide +kernel)) (by decide +kernel)
theorem W_71 : (Cond.lays "PathFinder$Path" "PathFinder$Path" "fault" "I") ∈ pw_all := pw_in (List.mem_of_getElem? (i := 95) (by decide +kernel)) (by decide +kernel)
theorem W_74 : (Cond.arrayClass FieldType.int) ∈ pw_all := pw_in (List.mem_of_getElem? (i := 98) (by decide +kernel)) (by decide +kernel)
theorem W_75 : (Cond.classLink "PathFinder" (23 : Nat) "PathFinder$Relations") ∈ pw_all := pw_in (List.mem_of_getElem? (i := 99) (by decide +kernel)) (by decide +kernel)
theorem W_76 : (Cond.instantiable "PathFinder$Relations" (4 : Nat)) ∈ pw_all := pw_in (List.mem_of_getElem? (i := 100) (by decide +kernel)) (by decide +kernel)
theorem W_78 : (Cond.instanceMethod ({ cls := "PathFinder$Relations", name := "<init>", desc := "(LPathFinder$Graph;LPathFinder$Path;)V" } : MethodName)) ∈ pw_all := pw_in (List.mem_of_getElem? (i := 102) (by decide +kernel)) (by decide +kernel)
theorem W_79 : (Cond.code ({ cls := "PathFinder$Relations", name := "<init>", desc := "(LPathFinder$Graph;LPathFinder$Path;)V" } : MethodName) prog_5_method_1_code (3 : Nat) (Option.none : Option Jvm.ClassFile.FieldType)) ∈ pw_all := pw_in (List.mem_of_getElem? (i := 103) (by decide +kernel)) (by decide +kernel)
theorem W_80 : (Cond.methodLink "PathFinder$Relations" (3 : Nat) ({ cls := "java/lang/Object", name := "<init>", desc := "()V" } : MethodName)) ∈ pw_all := pw_in (List.mem_of_getElem? (i := 104) (by decide +kernel)) (by decide +kernel)
theorem W_81 : (Cond.classLink "PathFinder$Relations" (9 : Nat) "[[J") ∈ pw_all := pw_in (List.mem_of_getElem? (i := 105) (by decide +kernel)) (by decide +kernel)
theorem W_82 : (Cond.fieldLink "PathFinder$Relations" (16 : Nat) "PathFinder$Relations" "graph" "LPathFinder$Graph;") ∈ pw_all := pw_in (List.mem_of_getElem? (i := 106) (by decide +kernel)) (by decide +kernel)
theorem W_83 : (Cond.fieldLink "PathFinder$Relations" (20 : Nat) "PathFinder$Relations" "path" "LPathFinder$Path;") ∈ pw_all := pw_in (List.mem_of_getElem? (i := 107) (by decide +kernel)) (by decide +kernel)
theorem W_84 : (Cond.fieldLink "PathFinder$Relations" (11 : Nat) "PathFinder$Relations" "partRows" "[[J") ∈ pw_all := pw_in (List.mem_of_getElem? (i := 108) (by decide +kernel)) (by decide +kernel)
theorem W_86 : (Cond.fieldLink "PathFinder$Relations" (24 : Nat) "PathFinder$Relations" "ready" "Z") ∈ pw_all := pw_in (List.mem_of_getElem? (i := 110) (by decide +kernel)) (by decide +kernel)
theorem W_88 : (Cond.laysFinal "PathFinder$Relations" "PathFinder$Relations" "graph" "LPathFinder$Graph;") ∈ pw_all := pw_in (List.mem_of_getElem? (i := 112) (by decide +kernel)) (by decide +kernel)
theorem W_90 : (Cond.laysFinal "PathFinder$Relations" "PathFinder$Relations" "path" "LPathFinder$Path;") ∈ pw_all := pw_in (List.mem_of_getElem? (i := 114) (by decide +kernel)) (by decide +kernel)
theorem W_92 : (Cond.laysFinal "PathFinder$Relations" "PathFinder$Relations" "partRows" "[[J") ∈ pw_all := pw_in (List.mem_of_getElem? (i := 116) (by decide +kernel)) (by decide +kernel)
theorem W_94 : (Cond.lays "PathFinder$Relations" "PathFinder$Relations" "ready" "Z") ∈ pw_all := pw_in (List.mem_of_getElem? (i := 118) (by decide +kernel)) (by decide +kernel)
theorem W_97 : (Cond.classLink "PathFinder" (32 : Nat) "PathFinder$Counts") ∈ pw_all := pw_in (List.mem_of_getElem? (i := 121) (by decide +kernel)) (by decide +kernel)
theorem W_98 : (Cond.instantiable "PathFinder$Counts" (7 : Nat)) ∈ pw_all := pw_in (List.mem_of_getElem? (i := 122) (by decide +kernel)) (by decide +kernel)
theorem W_100 : (Cond.instanceMethod ({ cls := "PathFinder$Counts", name := "<init>", desc := "(LPathFinder$Graph;LPathFinder$Path;LPathFinder$Relations;)V" } : MethodName)) ∈ pw_all := pw_in (List.mem_of_getElem? (i := 124) (by decide +kernel)) (by decide +kernel)
theorem W_101 : (Cond.code ({ cls := "PathFinder$Counts", name := "<init>", desc := "(LPathFinder$Graph;LPathFinder$Path;LPathFinder$Relations;)V" } : MethodName) prog_2_method_1_code (4 : Nat) (Option.none : Option Jvm.ClassFile.FieldType)) ∈ pw_all := pw_in (List.mem_of_getElem? (i := 125) (by decide +kernel)) (by decide +kernel)
theorem W_102 : (Cond.methodLink "PathFinder$Counts" (3 : Nat) ({ cls := "java/lang/Object", name := "<init>", desc := "()V" } : MethodName)) ∈ pw_all := pw_in (List.mem_of_getElem? (i := 126) (by decide +kernel)) (by decide +kernel)
theorem W_103 : (Cond.classLink "PathFinder$Counts" (18 : Nat) "[[J") ∈ pw_all := pw_in (List.mem_of_getElem? (i := 127) (by decide +kernel)) (by decide +kernel)
theorem W_104 : (Cond.fieldLink "PathFinder$Counts" (27 : Nat) "PathFinder$Counts" "graph" "LPathFinder$Graph;") ∈ pw_all := pw_in (List.mem_of_getElem? (i := 128) (by decide +kernel)) (by decide +kernel)
theorem W_105 : (Cond.fieldLink "PathFinder$Counts" (31 : Nat) "PathFinder$Counts" "path" "LPathFinder$Path;") ∈ pw_all := pw_in (List.mem_of_getElem? (i := 129) (by decide +kernel)) (by decide +kernel)
theorem W_106 : (Cond.fieldLink "PathFinder$Counts" (35 : Nat) "PathFinder$Counts" "relations" "LPathFinder$Relations;") ∈ pw_all := pw_in (List.mem_of_getElem? (i := 130) (by decide +kernel)) (by decide +kernel)
theorem W_107 : (Cond.fieldLink "PathFinder$Counts" (9 : Nat) "PathFinder$Counts" "before" "[J") ∈ pw_all := pw_in (List.mem_of_getElem? (i := 131) (by decide +kernel)) (by decide +kernel)
theorem W_108 : (Cond.fieldLink "PathFinder$Counts" (15 : Nat) "PathFinder$Counts" "after" "[J") ∈ pw_all := pw_in (List.mem_of_getElem? (i := 132) (by decide +kernel)) (by decide +kernel)
theorem W_109 : (Cond.fieldLink "PathFinder$Counts" (20 : Nat) "PathFinder$Counts" "between" "[[J") ∈ pw_all := pw_in (List.mem_of_getElem? (i := 133) (by decide +kernel)) (by decide +kernel)
theorem W_110 : (Cond.fieldLink "PathFinder$Counts" (23 : Nat) "PathFinder$Counts" "start" "I") ∈ pw_all := pw_in (List.mem_of_getElem? (i := 134) (by decide +kernel)) (by decide +kernel)
theorem W_112 : (Cond.laysFinal "PathFinder$Counts" "PathFinder$Counts" "graph" "LPathFinder$Graph;") ∈ pw_all := pw_in (List.mem_of_getElem? (i := 136) (by decide +kernel)) (by decide +kernel)
theorem W_114 : (Cond.laysFinal "PathFinder$Counts" "PathFinder$Counts" "path" "LPathFinder$Path;") ∈ pw_all := pw_in (List.mem_of_getElem? (i := 138) (by decide +kernel)) (by decide +kernel)
theorem W_116 : (Cond.laysFinal "PathFinder$Counts" "PathFinder$Counts" "relations" "LPathFinder$Relations;") ∈ pw_all := pw_in (List.mem_of_getElem? (i := 140) (by decide +kernel)) (by decide +kernel)
theorem W_118 : (Cond.laysFinal "PathFinder$Counts" "PathFinder$Counts" "before" "[J") ∈ pw_all := pw_in (List.mem_of_getElem? (i := 142) (by decide +kernel)) (by decide +kernel)
theorem W_120 : (Cond.laysFinal "PathFinder$Counts" "PathFinder$Counts" "after" "[J") ∈ pw_all := pw_in (List.mem_of_getElem? (i := 144) (by decide +kernel)) (by decide +kernel)
theorem W_122 : (Cond.laysFinal "PathFinder$Counts" "PathFinder$Counts" "between" "[[J") ∈ pw_all := pw_in (List.mem_of_getElem? (i := 146) (by decide +kernel)) (by decide +kernel)
theorem W_124 : (Cond.lays "PathFinder$Counts" "PathFinder$Counts" "start" "I") ∈ pw_all := pw_in (List.mem_of_getElem? (i := 148) (by decide +kernel)) (by decide +kernel)
theorem W_127 : (Cond.fieldLink "PathFinder" (10 : Nat) "PathFinder" "graph" "LPathFinder$Graph;") ∈ pw_all := pw_in (List.mem_of_getElem? (i := 151) (by decide +kernel)) (by decide +kernel)
theorem W_128 : (Cond.fieldLink "PathFinder" (19 : Nat) "PathFinder" "path" "LPathFinder$Path;") ∈ pw_all := pw_in (List.mem_of_getElem? (i := 152) (by decide +kernel)) (by decide +kernel)
theorem W_129 : (Cond.fieldLink "PathFinder" (28 : Nat) "PathFinder" "relations" "LPathFinder$Relations;") ∈ pw_all := pw_in (List.mem_of_getElem? (i := 153) (by decide +kernel)) (by decide +kernel)
theorem W_130 : (Cond.fieldLink "PathFinder" (37 : Nat) "PathFinder" "counts" "LPathFinder$Counts;") ∈ pw_all := pw_in (List.mem_of_getElem? (i := 154) (by decide +kernel)) (by decide +kernel)
theorem W_131 : (Cond.laysFinal "PathFinder" "PathFinder" "graph" "LPathFinder$Graph;") ∈ pw_all := pw_in (List.mem_of_getElem? (i := 155) (by decide +kernel)) (by decide +kernel)
theorem W_133 : (Cond.laysFinal "PathFinder" "PathFinder" "path" "LPathFinder$Path;") ∈ pw_all := pw_in (List.mem_of_getElem? (i := 157) (by decide +kernel)) (by decide +kernel)
theorem W_135 : (Cond.laysFinal "PathFinder" "PathFinder" "relations" "LPathFinder$Relations;") ∈ pw_all := pw_in (List.mem_of_getElem? (i := 159) (by decide +kernel)) (by decide +kernel)
theorem W_137 : (Cond.laysFinal "PathFinder" "PathFinder" "counts" "LPathFinder$Counts;") ∈ pw_all := pw_in (List.mem_of_getElem? (i := 161) (by decide +kernel)) (by decide +kernel)
theorem W_140 : (Cond.methodLink "PathFinderLaw" (13 : Nat) ({ cls := "PathFinder", name := "edge", desc := "(III)I" } : MethodName)) ∈ pw_all := pw_in (List.mem_of_getElem? (i := 164) (by decide +kernel)) (by decide +kernel)
theorem W_141 : (Cond.instanceMethod ({ cls := "PathFinder", name := "edge", desc := "(III)I" } : MethodName)) ∈ pw_all := pw_in (List.mem_of_getElem? (i := 165) (by decide +kernel)) (by decide +kernel)
theorem W_142 : (Cond.selects "PathFinder" ({ cls := "PathFinder", name := "edge", desc := "(III)I" } : MethodName) ({ cls := "PathFinder", name := "edge", desc := "(III)I" } : MethodName)) ∈ pw_all := pw_in (List.mem_of_getElem? (i := 166) (by decide +kernel)) (by decide +kernel)
theorem W_143 : (Cond.code ({ cls := "PathFinder", name := "edge", desc := "(III)I" } : MethodName) prog_1_method_2_code (5 : Nat) (Option.some FieldType.int)) ∈ pw_all := pw_in (List.mem_of_getElem? (i := 167) (by decide +kernel)) (by decide +kernel)
theorem W_146 : (Cond.instanceMethod ({ cls := "PathFinder$Graph", name := "put", desc := "(III)I" } : MethodName)) ∈ pw_all := pw_in (List.mem_of_getElem? (i := 170) (by decide +kernel)) (by decide +kernel)
theorem W_147 : (Cond.code ({ cls := "PathFinder$Graph", name := "put", desc := "(III)I" } : MethodName) prog_3_method_2_code (4 : Nat) (Option.some FieldType.int)) ∈ pw_all := pw_in (List.mem_of_getElem? (i := 171) (by decide +kernel)) (by decide +kernel)
theorem W_148 : (Cond.methodLink "PathFinder$Graph" (16 : Nat) ({ cls := "PathFinder$Graph", name := "isEdge", desc := "(III)Z" } : MethodName)) ∈ pw_all := pw_in (List.mem_of_getElem? (i := 172) (by decide +kernel)) (by decide +kernel)
theorem W_149 : (Cond.static ({ cls := "PathFinder$Graph", name := "isEdge", desc := "(III)Z" } : MethodName)) ∈ pw_all := pw_in (List.mem_of_getElem? (i := 173) (by decide +kernel)) (by decide +kernel)
theorem W_150 : (Cond.code ({ cls := "PathFinder$Graph", name := "isEdge", desc := "(III)Z" } : MethodName) prog_3_method_4_code (3 : Nat) (Option.some FieldType.boolean)) ∈ pw_all := pw_in (List.mem_of_getElem? (i := 174) (by decide +kernel)) (by decide +kernel)
theorem W_152 : (Cond.static ({ cls := "PathFinder", name := "isPoint", desc := "(I)Z" } : MethodName)) ∈ pw_all := pw_in (List.mem_of_getElem? (i := 176) (by decide +kernel)) (by decide +kernel)
theorem W_153 : (Cond.code ({ cls := "PathFinder", name := "isPoint", desc := "(I)Z" } : MethodName) prog_1_method_15_code (1 : Nat) (Option.some FieldType.boolean)) ∈ pw_all := pw_in (List.mem_of_getElem? (i := 177) (by decide +kernel)) (by decide +kernel)
theorem W_155 : (Cond.static ({ cls := "PathFinder", name := "isLabel", desc := "(I)Z" } : MethodName)) ∈ pw_all := pw_in (List.mem_of_getElem? (i := 179) (by decide +kernel)) (by decide +kernel)
theorem W_156 : (Cond.code ({ cls := "PathFinder", name := "isLabel", desc := "(I)Z" } : MethodName) prog_1_method_16_code (1 : Nat) (Option.some FieldType.boolean)) ∈ pw_all := pw_in (List.mem_of_getElem? (i := 180) (by decide +kernel)) (by decide +kernel)
theorem W_158 : (Cond.static ({ cls := "PathFinder", name := "holds", desc := "(JI)Z" } : MethodName)) ∈ pw_all := pw_in (List.mem_of_getElem? (i := 182) (by decide +kernel)) (by decide +kernel)
theorem W_159 : (Cond.code ({ cls := "PathFinder", name := "holds", desc := "(JI)Z" } : MethodName) prog_1_method_18_code (3 : Nat) (Option.some FieldType.boolean)) ∈ pw_all := pw_in (List.mem_of_getElem? (i := 183) (by decide +kernel)) (by decide +kernel)
theorem W_161 : (Cond.static ({ cls := "PathFinder", name := "bit", desc := "(I)J" } : MethodName)) ∈ pw_all := pw_in (List.mem_of_getElem? (i := 185) (by decide +kernel)) (by decide +kernel)
theorem W_162 : (Cond.code ({ cls := "PathFinder", name := "bit", desc := "(I)J" } : MethodName) prog_1_method_17_code (1 : Nat) (Option.some FieldType.long)) ∈ pw_all := pw_in (List.mem_of_getElem? (i := 186) (by decide +kernel)) (by decide +kernel)
theorem W_163 : (Cond.methodLink "PathFinder" (45 : Nat) ({ cls := "PathFinder", name := "forget", desc := "()V" } : MethodName)) ∈ pw_all := pw_in (List.mem_of_getElem? (i := 187) (by decide +kernel)) (by decide +kernel)
theorem W_165 : (Cond.instanceMethod ({ cls := "PathFinder", name := "forget", desc := "()V" } : MethodName)) ∈ pw_all := pw_in (List.mem_of_getElem? (i := 189) (by decide +kernel)) (by decide +kernel)
theorem W_166 : (Cond.code ({ cls := "PathFinder", name := "forget", desc := "()V" } : MethodName) prog_1_method_14_code (1 : Nat) (Option.none : Option Jvm.ClassFile.FieldType)) ∈ pw_all := pw_in (List.mem_of_getElem? (i := 190) (by decide +kernel)) (by decide +kernel)
theorem W_167 : (Cond.methodLink "PathFinderLaw" (18 : Nat) ({ cls := "PathFinder", name := "drop", desc := "(III)I" } : MethodName)) ∈ pw_all := pw_in (List.mem_of_getElem? (i := 191) (by decide +kernel)) (by decide +kernel)
theorem W_168 : (Cond.instanceMethod ({ cls := "PathFinder", name := "drop", desc := "(III)I" } : MethodName)) ∈ pw_all := pw_in (List.mem_of_getElem? (i := 192) (by decide +kernel)) (by decide +kernel)
theorem W_169 : (Cond.selects "PathFinder" ({ cls := "PathFinder", name := "drop", desc := "(III)I" } : MethodName) ({ cls := "PathFinder", name := "drop", desc := "(III)I" } : MethodName)) ∈ pw_all := pw_in (List.mem_of_getElem? (i := 193) (by decide +kernel)) (by decide +kernel)
theorem W_170 : (Cond.code ({ cls := "PathFinder", name := "drop", desc := "(III)I" } : MethodName) prog_1_method_3_code (5 : Nat) (Option.some FieldType.int)) ∈ pw_all := pw_in (List.mem_of_getElem? (i := 194) (by decide +kernel)) (by decide +kernel)
theorem W_173 : (Cond.instanceMethod ({ cls := "PathFinder$Graph", name := "remove", desc := "(III)I" } : MethodName)) ∈ pw_all := pw_in (List.mem_of_getElem? (i := 197) (by decide +kernel)) (by decide +kernel)
theorem W_174 : (Cond.code ({ cls := "PathFinder$Graph", name := "remove", desc := "(III)I" } : MethodName) prog_3_method_3_code (4 : Nat) (Option.some FieldType.int)) ∈ pw_all := pw_in (List.mem_of_getElem? (i := 198) (by decide +kernel)) (by decide +kernel)
theorem W_175 : (Cond.constantLong "PathFinder$Graph" (32 : Nat) (-1 : Int64)) ∈ pw_all := pw_in (List.mem_of_getElem? (i := 199) (by decide +kernel)) (by decide +kernel)
theorem W_176 : (Cond.methodLink "PathFinderLaw" (22 : Nat) ({ cls := "PathFinder", name := "edges", desc := "()I" } : MethodName)) ∈ pw_all := pw_in (List.mem_of_getElem? (i := 200) (by decide +kernel)) (by decide +kernel)
theorem W_177 : (Cond.instanceMethod ({ cls := "PathFinder", name := "edges", desc := "()I" } : MethodName)) ∈ pw_all := pw_in (List.mem_of_getElem? (i := 201) (by decide +kernel)) (by decide +kernel)
theorem W_178 : (Cond.selects "PathFinder" ({ cls := "PathFinder", name := "edges", desc := "()I" } : MethodName) ({ cls := "PathFinder", name := "edges", desc := "()I" } : MethodName)) ∈ pw_all := pw_in (List.mem_of_getElem? (i := 202) (by decide +kernel)) (by decide +kernel)
theorem W_179 : (Cond.code ({ cls := "PathFinder", name := "edges", desc := "()I" } : MethodName) prog_1_method_4_code (1 : Nat) (Option.some FieldType.int)) ∈ pw_all := pw_in (List.mem_of_getElem? (i := 203) (by decide +kernel)) (by decide +kernel)
theorem W_180 : (Cond.methodLink "PathFinderLaw" (27 : Nat) ({ cls := "PathFinder", name := "word", desc := "(I)I" } : MethodName)) ∈ pw_all := pw_in (List.mem_of_getElem? (i := 204) (by decide +kernel)) (by decide +kernel)
theorem W_181 : (Cond.instanceMethod ({ cls := "PathFinder", name := "word", desc := "(I)I" } : MethodName)) ∈ pw_all := pw_in (List.mem_of_getElem? (i := 205) (by decide +kernel)) (by decide +kernel)
theorem W_182 : (Cond.selects "PathFinder" ({ cls := "PathFinder", name := "word", desc := "(I)I" } : MethodName) ({ cls := "PathFinder", name := "word", desc := "(I)I" } : MethodName)) ∈ pw_all := pw_in (List.mem_of_getElem? (i := 206) (by decide +kernel)) (by decide +kernel)
theorem W_183 : (Cond.code ({ cls := "PathFinder", name := "word", desc := "(I)I" } : MethodName) prog_1_method_5_code (3 : Nat) (Option.some FieldType.int)) ∈ pw_all := pw_in (List.mem_of_getElem? (i := 207) (by decide +kernel)) (by decide +kernel)
theorem W_186 : (Cond.instanceMethod ({ cls := "PathFinder$Path", name := "append", desc := "(I)I" } : MethodName)) ∈ pw_all := pw_in (List.mem_of_getElem? (i := 210) (by decide +kernel)) (by decide +kernel)
theorem W_187 : (Cond.code ({ cls := "PathFinder$Path", name := "append", desc := "(I)I" } : MethodName) prog_4_method_2_code (2 : Nat) (Option.some FieldType.int)) ∈ pw_all := pw_in (List.mem_of_getElem? (i := 211) (by decide +kernel)) (by decide +kernel)
theorem W_188 : (Cond.methodLink "PathFinder$Path" (31 : Nat) ({ cls := "PathFinder$Path", name := "readWords", desc := "()V" } : MethodName)) ∈ pw_all := pw_in (List.mem_of_getElem? (i := 212) (by decide +kernel)) (by decide +kernel)
theorem W_190 : (Cond.instanceMethod ({ cls := "PathFinder$Path", name := "readWords", desc := "()V" } : MethodName)) ∈ pw_all := pw_in (List.mem_of_getElem? (i := 214) (by decide +kernel)) (by decide +kernel)
theorem W_191 : (Cond.code ({ cls := "PathFinder$Path", name := "readWords", desc := "()V" } : MethodName) prog_4_method_5_code (2 : Nat) (Option.none : Option Jvm.ClassFile.FieldType)) ∈ pw_all := pw_in (List.mem_of_getElem? (i := 215) (by decide +kernel)) (by decide +kernel)
theorem W_192 : (Cond.methodLink "PathFinder$Path" (37 : Nat) ({ cls := "PathFinder$Path", name := "readPart", desc := "(II)I" } : MethodName)) ∈ pw_all := pw_in (List.mem_of_getElem? (i := 216) (by decide +kernel)) (by decide +kernel)
theorem W_194 : (Cond.instanceMethod ({ cls := "PathFinder$Path", name := "readPart", desc := "(II)I" } : MethodName)) ∈ pw_all := pw_in (List.mem_of_getElem? (i := 218) (by decide +kernel)) (by decide +kernel)
theorem W_195 : (Cond.code ({ cls := "PathFinder$Path", name := "readPart", desc := "(II)I" } : MethodName) prog_4_method_6_code (6 : Nat) (Option.some FieldType.int)) ∈ pw_all := pw_in (List.mem_of_getElem? (i := 219) (by decide +kernel)) (by decide +kernel)
theorem W_196 : (Cond.methodLink "PathFinder$Path" (45 : Nat) ({ cls := "PathFinder$Path", name := "isWithin", desc := "(III)Z" } : MethodName)) ∈ pw_all := pw_in (List.mem_of_getElem? (i := 220) (by decide +kernel)) (by decide +kernel)
theorem W_198 : (Cond.instanceMethod ({ cls := "PathFinder$Path", name := "isWithin", desc := "(III)Z" } : MethodName)) ∈ pw_all := pw_in (List.mem_of_getElem? (i := 222) (by decide +kernel)) (by decide +kernel)
theorem W_199 : (Cond.code ({ cls := "PathFinder$Path", name := "isWithin", desc := "(III)Z" } : MethodName) prog_4_method_8_code (4 : Nat) (Option.some FieldType.boolean)) ∈ pw_all := pw_in (List.mem_of_getElem? (i := 223) (by decide +kernel)) (by decide +kernel)
theorem W_200 : (Cond.methodLink "PathFinder$Path" (41 : Nat) ({ cls := "PathFinder$Path", name := "faultAt", desc := "(I)I" } : MethodName)) ∈ pw_all := pw_in (List.mem_of_getElem? (i := 224) (by decide +kernel)) (by decide +kernel)
theorem W_201 : (Cond.static ({ cls := "PathFinder$Path", name := "faultAt", desc := "(I)I" } : MethodName)) ∈ pw_all := pw_in (List.mem_of_getElem? (i := 225) (by decide +kernel)) (by decide +kernel)
theorem W_202 : (Cond.code ({ cls := "PathFinder$Path", name := "faultAt", desc := "(I)I" } : MethodName) prog_4_method_9_code (1 : Nat) (Option.some FieldType.int)) ∈ pw_all := pw_in (List.mem_of_getElem? (i := 226) (by decide +kernel)) (by decide +kernel)
theorem W_203 : (Cond.methodLink "PathFinder$Path" (49 : Nat) ({ cls := "PathFinder$Path", name := "readLabels", desc := "(II)I" } : MethodName)) ∈ pw_all := pw_in (List.mem_of_getElem? (i := 227) (by decide +kernel)) (by decide +kernel)
theorem W_205 : (Cond.instanceMethod ({ cls := "PathFinder$Path", name := "readLabels", desc := "(II)I" } : MethodName)) ∈ pw_all := pw_in (List.mem_of_getElem? (i := 229) (by decide +kernel)) (by decide +kernel)
theorem W_206 : (Cond.code ({ cls := "PathFinder$Path", name := "readLabels", desc := "(II)I" } : MethodName) prog_4_method_7_code (5 : Nat) (Option.some FieldType.int)) ∈ pw_all := pw_in (List.mem_of_getElem? (i := 230) (by decide +kernel)) (by decide +kernel)
theorem W_207 : (Cond.methodLink "PathFinderLaw" (32 : Nat) ({ cls := "PathFinder", name := "clear", desc := "()I" } : MethodName)) ∈ pw_all := pw_in (List.mem_of_getElem? (i := 231) (by decide +kernel)) (by decide +kernel)
theorem W_208 : (Cond.instanceMethod ({ cls := "PathFinder", name := "clear", desc := "()I" } : MethodName)) ∈ pw_all := pw_in (List.mem_of_getElem? (i := 232) (by decide +kernel)) (by decide +kernel)
theorem W_209 : (Cond.selects "PathFinder" ({ cls := "PathFinder", name := "clear", desc := "()I" } : MethodName) ({ cls := "PathFinder", name := "clear", desc := "()I" } : MethodName)) ∈ pw_all := pw_in (List.mem_of_getElem? (i := 233) (by decide +kernel)) (by decide +kernel)
theorem W_210 : (Cond.code ({ cls := "PathFinder", name := "clear", desc := "()I" } : MethodName) prog_1_method_6_code (2 : Nat) (Option.some FieldType.int)) ∈ pw_all := pw_in (List.mem_of_getElem? (i := 234) (by decide +kernel)) (by decide +kernel)
theorem W_213 : (Cond.instanceMethod ({ cls := "PathFinder$Path", name := "empty", desc := "()I" } : MethodName)) ∈ pw_all := pw_in (List.mem_of_getElem? (i := 237) (by decide +kernel)) (by decide +kernel)
theorem W_214 : (Cond.code ({ cls := "PathFinder$Path", name := "empty", desc := "()I" } : MethodName) prog_4_method_3_code (2 : Nat) (Option.some FieldType.int)) ∈ pw_all := pw_in (List.mem_of_getElem? (i := 238) (by decide +kernel)) (by decide +kernel)
theorem W_215 : (Cond.methodLink "PathFinderLaw" (36 : Nat) ({ cls := "PathFinder", name := "look", desc := "()I" } : MethodName)) ∈ pw_all := pw_in (List.mem_of_getElem? (i := 239) (by decide +kernel)) (by decide +kernel)
theorem W_216 : (Cond.instanceMethod ({ cls := "PathFinder", name := "look", desc := "()I" } : MethodName)) ∈ pw_all := pw_in (List.mem_of_getElem? (i := 240) (by decide +kernel)) (by decide +kernel)
theorem W_217 : (Cond.selects "PathFinder" ({ cls := "PathFinder", name := "look", desc := "()I" } : MethodName) ({ cls := "PathFinder", name := "look", desc := "()I" } : MethodName)) ∈ pw_all := pw_in (List.mem_of_getElem? (i := 241) (by decide +kernel)) (by decide +kernel)
theorem W_218 : (Cond.code ({ cls := "PathFinder", name := "look", desc := "()I" } : MethodName) prog_1_method_7_code (1 : Nat) (Option.some FieldType.int)) ∈ pw_all := pw_in (List.mem_of_getElem? (i := 242) (by decide +kernel)) (by decide +kernel)
theorem W_219 : (Cond.methodLink "PathFinderLaw" (40 : Nat) ({ cls := "PathFinder", name := "times", desc := "(II)J" } : MethodName)) ∈ pw_all := pw_in (List.mem_of_getElem? (i := 243) (by decide +kernel)) (by decide +kernel)
theorem W_220 : (Cond.instanceMethod ({ cls := "PathFinder", name := "times", desc := "(II)J" } : MethodName)) ∈ pw_all := pw_in (List.mem_of_getElem? (i := 244) (by decide +kernel)) (by decide +kernel)
theorem W_221 : (Cond.selects "PathFinder" ({ cls := "PathFinder", name := "times", desc := "(II)J" } : MethodName) ({ cls := "PathFinder", name := "times", desc := "(II)J" } : MethodName)) ∈ pw_all := pw_in (List.mem_of_getElem? (i := 245) (by decide +kernel)) (by decide +kernel)
theorem W_222 : (Cond.code ({ cls := "PathFinder", name := "times", desc := "(II)J" } : MethodName) prog_1_method_8_code (3 : Nat) (Option.some FieldType.long)) ∈ pw_all := pw_in (List.mem_of_getElem? (i := 246) (by decide +kernel)) (by decide +kernel)
theorem W_223 : (Cond.methodLink "PathFinder" (66 : Nat) ({ cls := "PathFinder", name := "isPoint", desc := "(I)Z" } : MethodName)) ∈ pw_all := pw_in (List.mem_of_getElem? (i := 247) (by decide +kernel)) (by decide +kernel)
theorem W_224 : (Cond.constantLong "PathFinder" (70 : Nat) (-1 : Int64)) ∈ pw_all := pw_in (List.mem_of_getElem? (i := 248) (by decide +kernel)) (by decide +kernel)
theorem W_227 : (Cond.instanceMethod ({ cls := "PathFinder$Path", name := "isJust", desc := "()Z" } : MethodName)) ∈ pw_all := pw_in (List.mem_of_getElem? (i := 251) (by decide +kernel)) (by decide +kernel)
theorem W_228 : (Cond.code ({ cls := "PathFinder$Path", name := "isJust", desc := "()Z" } : MethodName) prog_4_method_4_code (1 : Nat) (Option.some FieldType.boolean)) ∈ pw_all := pw_in (List.mem_of_getElem? (i := 252) (by decide +kernel)) (by decide +kernel)
theorem W_229 : (Cond.constantLong "PathFinder" (76 : Nat) (-2 : Int64)) ∈ pw_all := pw_in (List.mem_of_getElem? (i := 253) (by decide +kernel)) (by decide +kernel)
theorem W_232 : (Cond.instanceMethod ({ cls := "PathFinder$Counts", name := "from", desc := "(I)[J" } : MethodName)) ∈ pw_all := pw_in (List.mem_of_getElem? (i := 256) (by decide +kernel)) (by decide +kernel)
theorem W_233 : (Cond.code ({ cls := "PathFinder$Counts", name := "from", desc := "(I)[J" } : MethodName) prog_2_method_2_code (2 : Nat) (Option.some (FieldType.array FieldType.long))) ∈ pw_all := pw_in (List.mem_of_getElem? (i := 257) (by decide +kernel)) (by decide +kernel)
theorem W_237 : (Cond.instanceMethod ({ cls := "PathFinder$Relations", name := "ofPath", desc := "()[J" } : MethodName)) ∈ pw_all := pw_in (List.mem_of_getElem? (i := 261) (by decide +kernel)) (by decide +kernel)
theorem W_238 : (Cond.code ({ cls := "PathFinder$Relations", name := "ofPath", desc := "()[J" } : MethodName) prog_5_method_2_code (2 : Nat) (Option.some (FieldType.array FieldType.long))) ∈ pw_all := pw_in (List.mem_of_getElem? (i := 262) (by decide +kernel)) (by decide +kernel)
theorem W_239 : (Cond.methodLink "PathFinder$Relations" (34 : Nat) ({ cls := "PathFinder$Relations", name := "fill", desc := "(I)V" } : MethodName)) ∈ pw_all := pw_in (List.mem_of_getElem? (i := 263) (by decide +kernel)) (by decide +kernel)
theorem W_241 : (Cond.instanceMethod ({ cls := "PathFinder$Relations", name := "fill", desc := "(I)V" } : MethodName)) ∈ pw_all := pw_in (List.mem_of_getElem? (i := 265) (by decide +kernel)) (by decide +kernel)
theorem W_242 : (Cond.code ({ cls := "PathFinder$Relations", name := "fill", desc := "(I)V" } : MethodName) prog_5_method_3_code (6 : Nat) (Option.none : Option Jvm.ClassFile.FieldType)) ∈ pw_all := pw_in (List.mem_of_getElem? (i := 266) (by decide +kernel)) (by decide +kernel)
theorem W_243 : (Cond.methodLink "PathFinder$Relations" (38 : Nat) ({ cls := "java/util/Arrays", name := "fill", desc := "([JJ)V" } : MethodName)) ∈ pw_all := pw_in (List.mem_of_getElem? (i := 267) (by decide +kernel)) (by decide +kernel)
theorem W_244 : (Cond.static ({ cls := "java/util/Arrays", name := "fill", desc := "([JJ)V" } : MethodName)) ∈ pw_all := pw_in (List.mem_of_getElem? (i := 268) (by decide +kernel)) (by decide +kernel)
theorem W_245 : (Cond.code ({ cls := "java/util/Arrays", name := "fill", desc := "([JJ)V" } : MethodName) prog_10_method_101_code (5 : Nat) (Option.none : Option Jvm.ClassFile.FieldType)) ∈ pw_all := pw_in (List.mem_of_getElem? (i := 269) (by decide +kernel)) (by decide +kernel)
theorem W_246 : (Cond.methodLink "PathFinder$Relations" (53 : Nat) ({ cls := "PathFinder$Relations", name := "addEdges", desc := "([JI)V" } : MethodName)) ∈ pw_all := pw_in (List.mem_of_getElem? (i := 270) (by decide +kernel)) (by decide +kernel)
theorem W_248 : (Cond.instanceMethod ({ cls := "PathFinder$Relations", name := "addEdges", desc := "([JI)V" } : MethodName)) ∈ pw_all := pw_in (List.mem_of_getElem? (i := 272) (by decide +kernel)) (by decide +kernel)
theorem W_249 : (Cond.code ({ cls := "PathFinder$Relations", name := "addEdges", desc := "([JI)V" } : MethodName) prog_5_method_5_code (4 : Nat) (Option.none : Option Jvm.ClassFile.FieldType)) ∈ pw_all := pw_in (List.mem_of_getElem? (i := 273) (by decide +kernel)) (by decide +kernel)
theorem W_251 : (Cond.methodLink "PathFinder$Relations" (69 : Nat) ({ cls := "PathFinder$Relations", name := "add", desc := "([J[J)V" } : MethodName)) ∈ pw_all := pw_in (List.mem_of_getElem? (i := 275) (by decide +kernel)) (by decide +kernel)
theorem W_252 : (Cond.static ({ cls := "PathFinder$Relations", name := "add", desc := "([J[J)V" } : MethodName)) ∈ pw_all := pw_in (List.mem_of_getElem? (i := 276) (by decide +kernel)) (by decide +kernel)
theorem W_253 : (Cond.code ({ cls := "PathFinder$Relations", name := "add", desc := "([J[J)V" } : MethodName) prog_5_method_6_code (3 : Nat) (Option.none : Option Jvm.ClassFile.FieldType)) ∈ pw_all := pw_in (List.mem_of_getElem? (i := 277) (by decide +kernel)) (by decide +kernel)
theorem W_254 : (Cond.methodLink "PathFinder$Relations" (57 : Nat) ({ cls := "PathFinder$Relations", name := "fillFrom", desc := "([JI[J[J)V" } : MethodName)) ∈ pw_all := pw_in (List.mem_of_getElem? (i := 278) (by decide +kernel)) (by decide +kernel)
theorem W_255 : (Cond.static ({ cls := "PathFinder$Relations", name := "fillFrom", desc := "([JI[J[J)V" } : MethodName)) ∈ pw_all := pw_in (List.mem_of_getElem? (i := 279) (by decide +kernel)) (by decide +kernel)
theorem W_256 : (Cond.code ({ cls := "PathFinder$Relations", name := "fillFrom", desc := "([JI[J[J)V" } : MethodName) prog_5_method_4_code (4 : Nat) (Option.none : Option Jvm.ClassFile.FieldType)) ∈ pw_all := pw_in (List.mem_of_getElem? (i := 280) (by decide +kernel)) (by decide +kernel)
theorem W_257 : (Cond.methodLink "PathFinder$Relations" (61 : Nat) ({ cls := "PathFinder$Relations", name := "addTurned", desc := "([J[J)V" } : MethodName)) ∈ pw_all := pw_in (List.mem_of_getElem? (i := 281) (by decide +kernel)) (by decide +kernel)
theorem W_258 : (Cond.static ({ cls := "PathFinder$Relations", name := "addTurned", desc := "([J[J)V" } : MethodName)) ∈ pw_all := pw_in (List.mem_of_getElem? (i := 282) (by decide +kernel)) (by decide +kernel)
theorem W_259 : (Cond.code ({ cls := "PathFinder$Relations", name := "addTurned", desc := "([J[J)V" } : MethodName) prog_5_method_8_code (6 : Nat) (Option.none : Option Jvm.ClassFile.FieldType)) ∈ pw_all := pw_in (List.mem_of_getElem? (i := 283) (by decide +kernel)) (by decide +kernel)
theorem W_260 : (Cond.methodLink "PathFinder$Relations" (92 : Nat) ({ cls := "java/lang/Long", name := "numberOfTrailingZeros", desc := "(J)I" } : MethodName)) ∈ pw_all := pw_in (List.mem_of_getElem? (i := 284) (by decide +kernel)) (by decide +kernel)
theorem W_261 : (Cond.static ({ cls := "java/lang/Long", name := "numberOfTrailingZeros", desc := "(J)I" } : MethodName)) ∈ pw_all := pw_in (List.mem_of_getElem? (i := 285) (by decide +kernel)) (by decide +kernel)
theorem W_262 : (Cond.code ({ cls := "java/lang/Long", name := "numberOfTrailingZeros", desc := "(J)I" } : MethodName) prog_9_method_49_code (3 : Nat) (Option.some FieldType.int)) ∈ pw_all := pw_in (List.mem_of_getElem? (i := 286) (by decide +kernel)) (by decide +kernel)
theorem W_263 : (Cond.methodLink "java/lang/Long" (311 : Nat) ({ cls := "java/lang/Integer", name := "numberOfTrailingZeros", desc := "(I)I" } : MethodName)) ∈ pw_all := pw_in (List.mem_of_getElem? (i := 287) (by decide +kernel)) (by decide +kernel)
theorem W_264 : (Cond.static ({ cls := "java/lang/Integer", name := "numberOfTrailingZeros", desc := "(I)I" } : MethodName)) ∈ pw_all := pw_in (List.mem_of_getElem? (i := 288) (by decide +kernel)) (by decide +kernel)
theorem W_265 : (Cond.code ({ cls := "java/lang/Integer", name := "numberOfTrailingZeros", desc := "(I)I" } : MethodName) prog_8_method_48_code (2 : Nat) (Option.some FieldType.int)) ∈ pw_all := pw_in (List.mem_of_getElem? (i := 289) (by decide +kernel)) (by decide +kernel)
theorem W_266 : (Cond.constant "java/lang/Integer" (264 : Nat) (65536 : Int32)) ∈ pw_all := pw_in (List.mem_of_getElem? (i := 290) (by decide +kernel)) (by decide +kernel)
theorem W_268 : (Cond.methodLink "PathFinder$Relations" (65 : Nat) ({ cls := "PathFinder$Relations", name := "addJoined", desc := "([J[J[J)V" } : MethodName)) ∈ pw_all := pw_in (List.mem_of_getElem? (i := 292) (by decide +kernel)) (by decide +kernel)
theorem W_269 : (Cond.static ({ cls := "PathFinder$Relations", name := "addJoined", desc := "([J[J[J)V" } : MethodName)) ∈ pw_all := pw_in (List.mem_of_getElem? (i := 293) (by decide +kernel)) (by decide +kernel)
theorem W_270 : (Cond.code ({ cls := "PathFinder$Relations", name := "addJoined", desc := "([J[J[J)V" } : MethodName) prog_5_method_9_code (7 : Nat) (Option.none : Option Jvm.ClassFile.FieldType)) ∈ pw_all := pw_in (List.mem_of_getElem? (i := 294) (by decide +kernel)) (by decide +kernel)
theorem W_271 : (Cond.methodLink "PathFinder$Relations" (72 : Nat) ({ cls := "PathFinder$Relations", name := "addStaying", desc := "([J)V" } : MethodName)) ∈ pw_all := pw_in (List.mem_of_getElem? (i := 295) (by decide +kernel)) (by decide +kernel)
theorem W_272 : (Cond.static ({ cls := "PathFinder$Relations", name := "addStaying", desc := "([J)V" } : MethodName)) ∈ pw_all := pw_in (List.mem_of_getElem? (i := 296) (by decide +kernel)) (by decide +kernel)
theorem W_273 : (Cond.code ({ cls := "PathFinder$Relations", name := "addStaying", desc := "([J)V" } : MethodName) prog_5_method_7_code (2 : Nat) (Option.none : Option Jvm.ClassFile.FieldType)) ∈ pw_all := pw_in (List.mem_of_getElem? (i := 297) (by decide +kernel)) (by decide +kernel)
theorem W_274 : (Cond.methodLink "PathFinder$Relations" (76 : Nat) ({ cls := "PathFinder$Relations", name := "close", desc := "([J)V" } : MethodName)) ∈ pw_all := pw_in (List.mem_of_getElem? (i := 298) (by decide +kernel)) (by decide +kernel)
theorem W_275 : (Cond.static ({ cls := "PathFinder$Relations", name := "close", desc := "([J)V" } : MethodName)) ∈ pw_all := pw_in (List.mem_of_getElem? (i := 299) (by decide +kernel)) (by decide +kernel)
theorem W_276 : (Cond.code ({ cls := "PathFinder$Relations", name := "close", desc := "([J)V" } : MethodName) prog_5_method_10_code (3 : Nat) (Option.none : Option Jvm.ClassFile.FieldType)) ∈ pw_all := pw_in (List.mem_of_getElem? (i := 300) (by decide +kernel)) (by decide +kernel)
theorem W_277 : (Cond.methodLink "PathFinder$Counts" (49 : Nat) ({ cls := "java/util/Arrays", name := "fill", desc := "([JJ)V" } : MethodName)) ∈ pw_all := pw_in (List.mem_of_getElem? (i := 301) (by decide +kernel)) (by decide +kernel)
theorem W_278 : (Cond.methodLink "PathFinder$Counts" (55 : Nat) ({ cls := "PathFinder$Counts", name := "carry", desc := "(IZI[J[J)V" } : MethodName)) ∈ pw_all := pw_in (List.mem_of_getElem? (i := 302) (by decide +kernel)) (by decide +kernel)
theorem W_280 : (Cond.instanceMethod ({ cls := "PathFinder$Counts", name := "carry", desc := "(IZI[J[J)V" } : MethodName)) ∈ pw_all := pw_in (List.mem_of_getElem? (i := 304) (by decide +kernel)) (by decide +kernel)
theorem W_281 : (Cond.code ({ cls := "PathFinder$Counts", name := "carry", desc := "(IZI[J[J)V" } : MethodName) prog_2_method_3_code (6 : Nat) (Option.none : Option Jvm.ClassFile.FieldType)) ∈ pw_all := pw_in (List.mem_of_getElem? (i := 305) (by decide +kernel)) (by decide +kernel)
theorem W_282 : (Cond.methodLink "PathFinder$Counts" (71 : Nat) ({ cls := "PathFinder$Counts", name := "carryOverEdges", desc := "(IZ[J[J)V" } : MethodName)) ∈ pw_all := pw_in (List.mem_of_getElem? (i := 306) (by decide +kernel)) (by decide +kernel)
theorem W_284 : (Cond.instanceMethod ({ cls := "PathFinder$Counts", name := "carryOverEdges", desc := "(IZ[J[J)V" } : MethodName)) ∈ pw_all := pw_in (List.mem_of_getElem? (i := 308) (by decide +kernel)) (by decide +kernel)
theorem W_285 : (Cond.code ({ cls := "PathFinder$Counts", name := "carryOverEdges", desc := "(IZ[J[J)V" } : MethodName) prog_2_method_5_code (6 : Nat) (Option.none : Option Jvm.ClassFile.FieldType)) ∈ pw_all := pw_in (List.mem_of_getElem? (i := 309) (by decide +kernel)) (by decide +kernel)
theorem W_287 : (Cond.methodLink "PathFinder$Counts" (84 : Nat) ({ cls := "PathFinder$Counts", name := "carryOver", desc := "([JZ[J[J)V" } : MethodName)) ∈ pw_all := pw_in (List.mem_of_getElem? (i := 311) (by decide +kernel)) (by decide +kernel)
theorem W_288 : (Cond.static ({ cls := "PathFinder$Counts", name := "carryOver", desc := "([JZ[J[J)V" } : MethodName)) ∈ pw_all := pw_in (List.mem_of_getElem? (i := 312) (by decide +kernel)) (by decide +kernel)
theorem W_289 : (Cond.code ({ cls := "PathFinder$Counts", name := "carryOver", desc := "([JZ[J[J)V" } : MethodName) prog_2_method_6_code (5 : Nat) (Option.none : Option Jvm.ClassFile.FieldType)) ∈ pw_all := pw_in (List.mem_of_getElem? (i := 313) (by decide +kernel)) (by decide +kernel)
theorem W_290 : (Cond.methodLink "PathFinder$Counts" (97 : Nat) ({ cls := "PathFinder$Counts", name := "gather", desc := "(J[J)J" } : MethodName)) ∈ pw_all := pw_in (List.mem_of_getElem? (i := 314) (by decide +kernel)) (by decide +kernel)
theorem W_291 : (Cond.static ({ cls := "PathFinder$Counts", name := "gather", desc := "(J[J)J" } : MethodName)) ∈ pw_all := pw_in (List.mem_of_getElem? (i := 315) (by decide +kernel)) (by decide +kernel)
theorem W_292 : (Cond.code ({ cls := "PathFinder$Counts", name := "gather", desc := "(J[J)J" } : MethodName) prog_2_method_7_code (8 : Nat) (Option.some FieldType.long)) ∈ pw_all := pw_in (List.mem_of_getElem? (i := 316) (by decide +kernel)) (by decide +kernel)
theorem W_293 : (Cond.methodLink "PathFinder$Counts" (109 : Nat) ({ cls := "java/lang/Long", name := "numberOfTrailingZeros", desc := "(J)I" } : MethodName)) ∈ pw_all := pw_in (List.mem_of_getElem? (i := 317) (by decide +kernel)) (by decide +kernel)
theorem W_295 : (Cond.static ({ cls := "PathFinder", name := "sumOf", desc := "(JJ)J" } : MethodName)) ∈ pw_all := pw_in (List.mem_of_getElem? (i := 319) (by decide +kernel)) (by decide +kernel)
theorem W_296 : (Cond.code ({ cls := "PathFinder", name := "sumOf", desc := "(JJ)J" } : MethodName) prog_1_method_19_code (6 : Nat) (Option.some FieldType.long)) ∈ pw_all := pw_in (List.mem_of_getElem? (i := 320) (by decide +kernel)) (by decide +kernel)
theorem W_297 : (Cond.constantLong "PathFinder" (111 : Nat) (1000000000000000 : Int64)) ∈ pw_all := pw_in (List.mem_of_getElem? (i := 321) (by decide +kernel)) (by decide +kernel)
theorem W_298 : (Cond.methodLink "PathFinder$Counts" (105 : Nat) ({ cls := "PathFinder$Counts", name := "spread", desc := "(JJ[J)V" } : MethodName)) ∈ pw_all := pw_in (List.mem_of_getElem? (i := 322) (by decide +kernel)) (by decide +kernel)
theorem W_299 : (Cond.static ({ cls := "PathFinder$Counts", name := "spread", desc := "(JJ[J)V" } : MethodName)) ∈ pw_all := pw_in (List.mem_of_getElem? (i := 323) (by decide +kernel)) (by decide +kernel)
theorem W_300 : (Cond.code ({ cls := "PathFinder$Counts", name := "spread", desc := "(JJ[J)V" } : MethodName) prog_2_method_8_code (9 : Nat) (Option.none : Option Jvm.ClassFile.FieldType)) ∈ pw_all := pw_in (List.mem_of_getElem? (i := 324) (by decide +kernel)) (by decide +kernel)
theorem W_301 : (Cond.methodLink "PathFinder$Counts" (75 : Nat) ({ cls := "PathFinder$Counts", name := "carryOverBoth", desc := "(IZI[J[J)V" } : MethodName)) ∈ pw_all := pw_in (List.mem_of_getElem? (i := 325) (by decide +kernel)) (by decide +kernel)
theorem W_303 : (Cond.instanceMethod ({ cls := "PathFinder$Counts", name := "carryOverBoth", desc := "(IZI[J[J)V" } : MethodName)) ∈ pw_all := pw_in (List.mem_of_getElem? (i := 327) (by decide +kernel)) (by decide +kernel)
theorem W_304 : (Cond.code ({ cls := "PathFinder$Counts", name := "carryOverBoth", desc := "(IZI[J[J)V" } : MethodName) prog_2_method_4_code (9 : Nat) (Option.none : Option Jvm.ClassFile.FieldType)) ∈ pw_all := pw_in (List.mem_of_getElem? (i := 328) (by decide +kernel)) (by decide +kernel)
theorem W_305 : (Cond.methodLink "PathFinderLaw" (45 : Nat) ({ cls := "PathFinder", name := "ends", desc := "(I)I" } : MethodName)) ∈ pw_all := pw_in (List.mem_of_getElem? (i := 329) (by decide +kernel)) (by decide +kernel)
theorem W_306 : (Cond.instanceMethod ({ cls := "PathFinder", name := "ends", desc := "(I)I" } : MethodName)) ∈ pw_all := pw_in (List.mem_of_getElem? (i := 330) (by decide +kernel)) (by decide +kernel)
theorem W_307 : (Cond.selects "PathFinder" ({ cls := "PathFinder", name := "ends", desc := "(I)I" } : MethodName) ({ cls := "PathFinder", name := "ends", desc := "(I)I" } : MethodName)) ∈ pw_all := pw_in (List.mem_of_getElem? (i := 331) (by decide +kernel)) (by decide +kernel)
theorem W_308 : (Cond.code ({ cls := "PathFinder", name := "ends", desc := "(I)I" } : MethodName) prog_1_method_9_code (2 : Nat) (Option.some FieldType.int)) ∈ pw_all := pw_in (List.mem_of_getElem? (i := 332) (by decide +kernel)) (by decide +kernel)
theorem W_310 : (Cond.methodLink "PathFinder" (86 : Nat) ({ cls := "java/lang/Long", name := "bitCount", desc := "(J)I" } : MethodName)) ∈ pw_all := pw_in (List.mem_of_getElem? (i := 334) (by decide +kernel)) (by decide +kernel)
theorem W_311 : (Cond.static ({ cls := "java/lang/Long", name := "bitCount", desc := "(J)I" } : MethodName)) ∈ pw_all := pw_in (List.mem_of_getElem? (i := 335) (by decide +kernel)) (by decide +kernel)
theorem W_312 : (Cond.code ({ cls := "java/lang/Long", name := "bitCount", desc := "(J)I" } : MethodName) prog_9_method_50_code (2 : Nat) (Option.some FieldType.int)) ∈ pw_all := pw_in (List.mem_of_getElem? (i := 336) (by decide +kernel)) (by decide +kernel)
theorem W_313 : (Cond.constantLong "java/lang/Long" (314 : Nat) (6148914691236517205 : Int64)) ∈ pw_all := pw_in (List.mem_of_getElem? (i := 337) (by decide +kernel)) (by decide +kernel)
theorem W_314 : (Cond.constantLong "java/lang/Long" (316 : Nat) (3689348814741910323 : Int64)) ∈ pw_all := pw_in (List.mem_of_getElem? (i := 338) (by decide +kernel)) (by decide +kernel)
theorem W_315 : (Cond.constantLong "java/lang/Long" (318 : Nat) (1085102592571150095 : Int64)) ∈ pw_all := pw_in (List.mem_of_getElem? (i := 339) (by decide +kernel)) (by decide +kernel)
theorem W_316 : (Cond.methodLink "PathFinderLaw" (49 : Nat) ({ cls := "PathFinder", name := "reached", desc := "(I)J" } : MethodName)) ∈ pw_all := pw_in (List.mem_of_getElem? (i := 340) (by decide +kernel)) (by decide +kernel)
theorem W_317 : (Cond.instanceMethod ({ cls := "PathFinder", name := "reached", desc := "(I)J" } : MethodName)) ∈ pw_all := pw_in (List.mem_of_getElem? (i := 341) (by decide +kernel)) (by decide +kernel)
theorem W_318 : (Cond.selects "PathFinder" ({ cls := "PathFinder", name := "reached", desc := "(I)J" } : MethodName) ({ cls := "PathFinder", name := "reached", desc := "(I)J" } : MethodName)) ∈ pw_all := pw_in (List.mem_of_getElem? (i := 342) (by decide +kernel)) (by decide +kernel)
theorem W_319 : (Cond.code ({ cls := "PathFinder", name := "reached", desc := "(I)J" } : MethodName) prog_1_method_10_code (2 : Nat) (Option.some FieldType.long)) ∈ pw_all := pw_in (List.mem_of_getElem? (i := 343) (by decide +kernel)) (by decide +kernel)
theorem W_320 : (Cond.methodLink "PathFinderLaw" (54 : Nat) ({ cls := "PathFinder", name := "all", desc := "(I)J" } : MethodName)) ∈ pw_all := pw_in (List.mem_of_getElem? (i := 344) (by decide +kernel)) (by decide +kernel)
theorem W_321 : (Cond.instanceMethod ({ cls := "PathFinder", name := "all", desc := "(I)J" } : MethodName)) ∈ pw_all := pw_in (List.mem_of_getElem? (i := 345) (by decide +kernel)) (by decide +kernel)
theorem W_322 : (Cond.selects "PathFinder" ({ cls := "PathFinder", name := "all", desc := "(I)J" } : MethodName) ({ cls := "PathFinder", name := "all", desc := "(I)J" } : MethodName)) ∈ pw_all := pw_in (List.mem_of_getElem? (i := 346) (by decide +kernel)) (by decide +kernel)
theorem W_323 : (Cond.code ({ cls := "PathFinder", name := "all", desc := "(I)J" } : MethodName) prog_1_method_11_code (6 : Nat) (Option.some FieldType.long)) ∈ pw_all := pw_in (List.mem_of_getElem? (i := 347) (by decide +kernel)) (by decide +kernel)
theorem W_324 : (Cond.methodLink "PathFinder" (92 : Nat) ({ cls := "PathFinder", name := "sumOf", desc := "(JJ)J" } : MethodName)) ∈ pw_all := pw_in (List.mem_of_getElem? (i := 348) (by decide +kernel)) (by decide +kernel)
theorem W_325 : (Cond.methodLink "PathFinderLaw" (58 : Nat) ({ cls := "PathFinder", name := "reaching", desc := "(I)J" } : MethodName)) ∈ pw_all := pw_in (List.mem_of_getElem? (i := 349) (by decide +kernel)) (by decide +kernel)
theorem W_326 : (Cond.instanceMethod ({ cls := "PathFinder", name := "reaching", desc := "(I)J" } : MethodName)) ∈ pw_all := pw_in (List.mem_of_getElem? (i := 350) (by decide +kernel)) (by decide +kernel)
theorem W_327 : (Cond.selects "PathFinder" ({ cls := "PathFinder", name := "reaching", desc := "(I)J" } : MethodName) ({ cls := "PathFinder", name := "reaching", desc := "(I)J" } : MethodName)) ∈ pw_all := pw_in (List.mem_of_getElem? (i := 351) (by decide +kernel)) (by decide +kernel)
theorem W_328 : (Cond.code ({ cls := "PathFinder", name := "reaching", desc := "(I)J" } : MethodName) prog_1_method_12_code (6 : Nat) (Option.some FieldType.long)) ∈ pw_all := pw_in (List.mem_of_getElem? (i := 352) (by decide +kernel)) (by decide +kernel)
theorem W_329 : (Cond.methodLink "PathFinder" (96 : Nat) ({ cls := "PathFinder", name := "holds", desc := "(JI)Z" } : MethodName)) ∈ pw_all := pw_in (List.mem_of_getElem? (i := 353) (by decide +kernel)) (by decide +kernel)
theorem W_330 : (Cond.methodLink "PathFinder" (100 : Nat) ({ cls := "PathFinder", name := "bit", desc := "(I)J" } : MethodName)) ∈ pw_all := pw_in (List.mem_of_getElem? (i := 354) (by decide +kernel)) (by decide +kernel)
theorem W_331 : (Cond.methodLink "PathFinderLaw" (62 : Nat) ({ cls := "PathFinder", name := "pairs", desc := "()I" } : MethodName)) ∈ pw_all := pw_in (List.mem_of_getElem? (i := 355) (by decide +kernel)) (by decide +kernel)
theorem W_332 : (Cond.instanceMethod ({ cls := "PathFinder", name := "pairs", desc := "()I" } : MethodName)) ∈ pw_all := pw_in (List.mem_of_getElem? (i := 356) (by decide +kernel)) (by decide +kernel)
theorem W_333 : (Cond.selects "PathFinder" ({ cls := "PathFinder", name := "pairs", desc := "()I" } : MethodName) ({ cls := "PathFinder", name := "pairs", desc := "()I" } : MethodName)) ∈ pw_all := pw_in (List.mem_of_getElem? (i := 357) (by decide +kernel)) (by decide +kernel)
theorem W_334 : (Cond.code ({ cls := "PathFinder", name := "pairs", desc := "()I" } : MethodName) prog_1_method_13_code (4 : Nat) (Option.some FieldType.int)) ∈ pw_all := pw_in (List.mem_of_getElem? (i := 358) (by decide +kernel)) (by decide +kernel)
theorem W_335 : (Cond.classLink "PathFinderLaw" (10 : Nat) "PathFinderModel") ∈ pw_all := pw_in (List.mem_of_getElem? (i := 359) (by decide +kernel)) (by decide +kernel)
theorem W_336 : (Cond.instantiable "PathFinderModel" (10 : Nat)) ∈ pw_all := pw_in (List.mem_of_getElem? (i := 360) (by decide +kernel)) (by decide +kernel)
theorem W_337 : (Cond.methodLink "PathFinderLaw" (12 : Nat) ({ cls := "PathFinderModel", name := "<init>", desc := "()V" } : MethodName)) ∈ pw_all := pw_in (List.mem_of_getElem? (i := 361) (by decide +kernel)) (by decide +kernel)
theorem W_338 : (Cond.instanceMethod ({ cls := "PathFinderModel", name := "<init>", desc := "()V" } : MethodName)) ∈ pw_all := pw_in (List.mem_of_getElem? (i := 362) (by decide +kernel)) (by decide +kernel)
theorem W_339 : (Cond.code ({ cls := "PathFinderModel", name := "<init>", desc := "()V" } : MethodName) prog_7_method_1_code (1 : Nat) (Option.none : Option Jvm.ClassFile.FieldType)) ∈ pw_all := pw_in (List.mem_of_getElem? (i := 363) (by decide +kernel)) (by decide +kernel)
theorem W_340 : (Cond.methodLink "PathFinderModel" (1 : Nat) ({ cls := "java/lang/Object", name := "<init>", desc := "()V" } : MethodName)) ∈ pw_all := pw_in (List.mem_of_getElem? (i := 364) (by decide +kernel)) (by decide +kernel)
theorem W_341 : (Cond.constant "PathFinderModel" (7 : Nat) (32768 : Int32)) ∈ pw_all := pw_in (List.mem_of_getElem? (i := 365) (by decide +kernel)) (by decide +kernel)
theorem W_342 : (Cond.constant "PathFinderModel" (24 : Nat) (61440 : Int32)) ∈ pw_all := pw_in (List.mem_of_getElem? (i := 366) (by decide +kernel)) (by decide +kernel)
theorem W_343 : (Cond.fieldLink "PathFinderModel" (8 : Nat) "PathFinderModel" "there" "[Z") ∈ pw_all := pw_in (List.mem_of_getElem? (i := 367) (by decide +kernel)) (by decide +kernel)
theorem W_344 : (Cond.fieldLink "PathFinderModel" (44 : Nat) "PathFinderModel" "count" "I") ∈ pw_all := pw_in (List.mem_of_getElem? (i := 368) (by decide +kernel)) (by decide +kernel)
theorem W_345 : (Cond.fieldLink "PathFinderModel" (14 : Nat) "PathFinderModel" "words" "[I") ∈ pw_all := pw_in (List.mem_of_getElem? (i := 369) (by decide +kernel)) (by decide +kernel)
theorem W_346 : (Cond.fieldLink "PathFinderModel" (52 : Nat) "PathFinderModel" "size" "I") ∈ pw_all := pw_in (List.mem_of_getElem? (i := 370) (by decide +kernel)) (by decide +kernel)
theorem W_347 : (Cond.fieldLink "PathFinderModel" (18 : Nat) "PathFinderModel" "starts" "[I") ∈ pw_all := pw_in (List.mem_of_getElem? (i := 371) (by decide +kernel)) (by decide +kernel)
theorem W_348 : (Cond.fieldLink "PathFinderModel" (55 : Nat) "PathFinderModel" "parts" "I") ∈ pw_all := pw_in (List.mem_of_getElem? (i := 372) (by decide +kernel)) (by decide +kernel)
theorem W_349 : (Cond.fieldLink "PathFinderModel" (21 : Nat) "PathFinderModel" "lacks" "[I") ∈ pw_all := pw_in (List.mem_of_getElem? (i := 373) (by decide +kernel)) (by decide +kernel)
theorem W_350 : (Cond.fieldLink "PathFinderModel" (25 : Nat) "PathFinderModel" "tables" "[J") ∈ pw_all := pw_in (List.mem_of_getElem? (i := 374) (by decide +kernel)) (by decide +kernel)
theorem W_351 : (Cond.fieldLink "PathFinderModel" (48 : Nat) "PathFinderModel" "reckoned" "Z") ∈ pw_all := pw_in (List.mem_of_getElem? (i := 375) (by decide +kernel)) (by decide +kernel)
theorem W_352 : (Cond.fieldLink "PathFinderModel" (29 : Nat) "PathFinderModel" "spare" "[J") ∈ pw_all := pw_in (List.mem_of_getElem? (i := 376) (by decide +kernel)) (by decide +kernel)
theorem W_353 : (Cond.laysFinal "PathFinderModel" "PathFinderModel" "there" "[Z") ∈ pw_all := pw_in (List.mem_of_getElem? (i := 377) (by decide +kernel)) (by decide +kernel)
theorem W_355 : (Cond.lays "PathFinderModel" "PathFinderModel" "count" "I") ∈ pw_all := pw_in (List.mem_of_getElem? (i := 379) (by decide +kernel)) (by decide +kernel)
theorem W_357 : (Cond.laysFinal "PathFinderModel" "PathFinderModel" "words" "[I") ∈ pw_all := pw_in (List.mem_of_getElem? (i := 381) (by decide +kernel)) (by decide +kernel)
theorem W_359 : (Cond.lays "PathFinderModel" "PathFinderModel" "size" "I") ∈ pw_all := pw_in (List.mem_of_getElem? (i := 383) (by decide +kernel)) (by decide +kernel)
theorem W_361 : (Cond.laysFinal "PathFinderModel" "PathFinderModel" "starts" "[I") ∈ pw_all := pw_in (List.mem_of_getElem? (i := 385) (by decide +kernel)) (by decide +kernel)
theorem W_363 : (Cond.lays "PathFinderModel" "PathFinderModel" "parts" "I") ∈ pw_all := pw_in (List.mem_of_getElem? (i := 387) (by decide +kernel)) (by decide +kernel)
theorem W_365 : (Cond.laysFinal "PathFinderModel" "PathFinderModel" "lacks" "[I") ∈ pw_all := pw_in (List.mem_of_getElem? (i := 389) (by decide +kernel)) (by decide +kernel)
theorem W_367 : (Cond.laysFinal "PathFinderModel" "PathFinderModel" "tables" "[J") ∈ pw_all := pw_in (List.mem_of_getElem? (i := 391) (by decide +kernel)) (by decide +kernel)
theorem W_369 : (Cond.lays "PathFinderModel" "PathFinderModel" "reckoned" "Z") ∈ pw_all := pw_in (List.mem_of_getElem? (i := 393) (by decide +kernel)) (by decide +kernel)
theorem W_371 : (Cond.laysFinal "PathFinderModel" "PathFinderModel" "spare" "[J") ∈ pw_all := pw_in (List.mem_of_getElem? (i := 395) (by decide +kernel)) (by decide +kernel)
theorem W_374 : (Cond.arrayClass FieldType.boolean) ∈ pw_all := pw_in (List.mem_of_getElem? (i := 398) (by decide +kernel)) (by decide +kernel)
theorem W_375 : (Cond.methodLink "PathFinderLaw" (17 : Nat) ({ cls := "PathFinderModel", name := "edge", desc := "(III)I" } : MethodName)) ∈ pw_all := pw_in (List.mem_of_getElem? (i := 399) (by decide +kernel)) (by decide +kernel)
theorem W_376 : (Cond.instanceMethod ({ cls := "PathFinderModel", name := "edge", desc := "(III)I" } : MethodName)) ∈ pw_all := pw_in (List.mem_of_getElem? (i := 400) (by decide +kernel)) (by decide +kernel)
theorem W_377 : (Cond.selects "PathFinderModel" ({ cls := "PathFinderModel", name := "edge", desc := "(III)I" } : MethodName) ({ cls := "PathFinderModel", name := "edge", desc := "(III)I" } : MethodName)) ∈ pw_all := pw_in (List.mem_of_getElem? (i := 401) (by decide +kernel)) (by decide +kernel)
theorem W_378 : (Cond.code ({ cls := "PathFinderModel", name := "edge", desc := "(III)I" } : MethodName) prog_7_method_5_code (4 : Nat) (Option.some FieldType.int)) ∈ pw_all := pw_in (List.mem_of_getElem? (i := 402) (by decide +kernel)) (by decide +kernel)
theorem W_379 : (Cond.methodLink "PathFinderModel" (36 : Nat) ({ cls := "PathFinderModel", name := "isEdge", desc := "(III)Z" } : MethodName)) ∈ pw_all := pw_in (List.mem_of_getElem? (i := 403) (by decide +kernel)) (by decide +kernel)
theorem W_380 : (Cond.static ({ cls := "PathFinderModel", name := "isEdge", desc := "(III)Z" } : MethodName)) ∈ pw_all := pw_in (List.mem_of_getElem? (i := 404) (by decide +kernel)) (by decide +kernel)
theorem W_381 : (Cond.code ({ cls := "PathFinderModel", name := "isEdge", desc := "(III)Z" } : MethodName) prog_7_method_3_code (3 : Nat) (Option.some FieldType.boolean)) ∈ pw_all := pw_in (List.mem_of_getElem? (i := 405) (by decide +kernel)) (by decide +kernel)
theorem W_382 : (Cond.methodLink "PathFinderModel" (32 : Nat) ({ cls := "PathFinderModel", name := "isPoint", desc := "(I)Z" } : MethodName)) ∈ pw_all := pw_in (List.mem_of_getElem? (i := 406) (by decide +kernel)) (by decide +kernel)
theorem W_383 : (Cond.static ({ cls := "PathFinderModel", name := "isPoint", desc := "(I)Z" } : MethodName)) ∈ pw_all := pw_in (List.mem_of_getElem? (i := 407) (by decide +kernel)) (by decide +kernel)
theorem W_384 : (Cond.code ({ cls := "PathFinderModel", name := "isPoint", desc := "(I)Z" } : MethodName) prog_7_method_2_code (1 : Nat) (Option.some FieldType.boolean)) ∈ pw_all := pw_in (List.mem_of_getElem? (i := 408) (by decide +kernel)) (by decide +kernel)
theorem W_385 : (Cond.methodLink "PathFinderModel" (40 : Nat) ({ cls := "PathFinderModel", name := "place", desc := "(III)I" } : MethodName)) ∈ pw_all := pw_in (List.mem_of_getElem? (i := 409) (by decide +kernel)) (by decide +kernel)
theorem W_386 : (Cond.static ({ cls := "PathFinderModel", name := "place", desc := "(III)I" } : MethodName)) ∈ pw_all := pw_in (List.mem_of_getElem? (i := 410) (by decide +kernel)) (by decide +kernel)
theorem W_387 : (Cond.code ({ cls := "PathFinderModel", name := "place", desc := "(III)I" } : MethodName) prog_7_method_4_code (3 : Nat) (Option.some FieldType.int)) ∈ pw_all := pw_in (List.mem_of_getElem? (i := 411) (by decide +kernel)) (by decide +kernel)
theorem W_388 : (Cond.methodLink "PathFinderLaw" (21 : Nat) ({ cls := "PathFinderModel", name := "drop", desc := "(III)I" } : MethodName)) ∈ pw_all := pw_in (List.mem_of_getElem? (i := 412) (by decide +kernel)) (by decide +kernel)
theorem W_389 : (Cond.instanceMethod ({ cls := "PathFinderModel", name := "drop", desc := "(III)I" } : MethodName)) ∈ pw_all := pw_in (List.mem_of_getElem? (i := 413) (by decide +kernel)) (by decide +kernel)
theorem W_390 : (Cond.selects "PathFinderModel" ({ cls := "PathFinderModel", name := "drop", desc := "(III)I" } : MethodName) ({ cls := "PathFinderModel", name := "drop", desc := "(III)I" } : MethodName)) ∈ pw_all := pw_in (List.mem_of_getElem? (i := 414) (by decide +kernel)) (by decide +kernel)
theorem W_391 : (Cond.code ({ cls := "PathFinderModel", name := "drop", desc := "(III)I" } : MethodName) prog_7_method_6_code (4 : Nat) (Option.some FieldType.int)) ∈ pw_all := pw_in (List.mem_of_getElem? (i := 415) (by decide +kernel)) (by decide +kernel)
theorem W_392 : (Cond.methodLink "PathFinderLaw" (26 : Nat) ({ cls := "PathFinderModel", name := "edges", desc := "()I" } : MethodName)) ∈ pw_all := pw_in (List.mem_of_getElem? (i := 416) (by decide +kernel)) (by decide +kernel)
theorem W_393 : (Cond.instanceMethod ({ cls := "PathFinderModel", name := "edges", desc := "()I" } : MethodName)) ∈ pw_all := pw_in (List.mem_of_getElem? (i := 417) (by decide +kernel)) (by decide +kernel)
theorem W_394 : (Cond.selects "PathFinderModel" ({ cls := "PathFinderModel", name := "edges", desc := "()I" } : MethodName) ({ cls := "PathFinderModel", name := "edges", desc := "()I" } : MethodName)) ∈ pw_all := pw_in (List.mem_of_getElem? (i := 418) (by decide +kernel)) (by decide +kernel)
theorem W_395 : (Cond.code ({ cls := "PathFinderModel", name := "edges", desc := "()I" } : MethodName) prog_7_method_7_code (1 : Nat) (Option.some FieldType.int)) ∈ pw_all := pw_in (List.mem_of_getElem? (i := 419) (by decide +kernel)) (by decide +kernel)
theorem W_396 : (Cond.methodLink "PathFinderLaw" (31 : Nat) ({ cls := "PathFinderModel", name := "word", desc := "(I)I" } : MethodName)) ∈ pw_all := pw_in (List.mem_of_getElem? (i := 420) (by decide +kernel)) (by decide +kernel)
theorem W_397 : (Cond.instanceMethod ({ cls := "PathFinderModel", name := "word", desc := "(I)I" } : MethodName)) ∈ pw_all := pw_in (List.mem_of_getElem? (i := 421) (by decide +kernel)) (by decide +kernel)
theorem W_398 : (Cond.selects "PathFinderModel" ({ cls := "PathFinderModel", name := "word", desc := "(I)I" } : MethodName) ({ cls := "PathFinderModel", name := "word", desc := "(I)I" } : MethodName)) ∈ pw_all := pw_in (List.mem_of_getElem? (i := 422) (by decide +kernel)) (by decide +kernel)
theorem W_399 : (Cond.code ({ cls := "PathFinderModel", name := "word", desc := "(I)I" } : MethodName) prog_7_method_8_code (2 : Nat) (Option.some FieldType.int)) ∈ pw_all := pw_in (List.mem_of_getElem? (i := 423) (by decide +kernel)) (by decide +kernel)
theorem W_400 : (Cond.methodLink "PathFinderLaw" (35 : Nat) ({ cls := "PathFinderModel", name := "clear", desc := "()I" } : MethodName)) ∈ pw_all := pw_in (List.mem_of_getElem? (i := 424) (by decide +kernel)) (by decide +kernel)
theorem W_401 : (Cond.instanceMethod ({ cls := "PathFinderModel", name := "clear", desc := "()I" } : MethodName)) ∈ pw_all := pw_in (List.mem_of_getElem? (i := 425) (by decide +kernel)) (by decide +kernel)
theorem W_402 : (Cond.selects "PathFinderModel" ({ cls := "PathFinderModel", name := "clear", desc := "()I" } : MethodName) ({ cls := "PathFinderModel", name := "clear", desc := "()I" } : MethodName)) ∈ pw_all := pw_in (List.mem_of_getElem? (i := 426) (by decide +kernel)) (by decide +kernel)
theorem W_403 : (Cond.code ({ cls := "PathFinderModel", name := "clear", desc := "()I" } : MethodName) prog_7_method_9_code (2 : Nat) (Option.some FieldType.int)) ∈ pw_all := pw_in (List.mem_of_getElem? (i := 427) (by decide +kernel)) (by decide +kernel)
theorem W_404 : (Cond.methodLink "PathFinderLaw" (39 : Nat) ({ cls := "PathFinderModel", name := "look", desc := "()I" } : MethodName)) ∈ pw_all := pw_in (List.mem_of_getElem? (i := 428) (by decide +kernel)) (by decide +kernel)
theorem W_405 : (Cond.instanceMethod ({ cls := "PathFinderModel", name := "look", desc := "()I" } : MethodName)) ∈ pw_all := pw_in (List.mem_of_getElem? (i := 429) (by decide +kernel)) (by decide +kernel)
theorem W_406 : (Cond.selects "PathFinderModel" ({ cls := "PathFinderModel", name := "look", desc := "()I" } : MethodName) ({ cls := "PathFinderModel", name := "look", desc := "()I" } : MethodName)) ∈ pw_all := pw_in (List.mem_of_getElem? (i := 430) (by decide +kernel)) (by decide +kernel)
theorem W_407 : (Cond.code ({ cls := "PathFinderModel", name := "look", desc := "()I" } : MethodName) prog_7_method_11_code (4 : Nat) (Option.some FieldType.int)) ∈ pw_all := pw_in (List.mem_of_getElem? (i := 431) (by decide +kernel)) (by decide +kernel)
theorem W_408 : (Cond.methodLink "PathFinderModel" (58 : Nat) ({ cls := "PathFinderModel", name := "children", desc := "(I)I" } : MethodName)) ∈ pw_all := pw_in (List.mem_of_getElem? (i := 432) (by decide +kernel)) (by decide +kernel)
theorem W_409 : (Cond.static ({ cls := "PathFinderModel", name := "children", desc := "(I)I" } : MethodName)) ∈ pw_all := pw_in (List.mem_of_getElem? (i := 433) (by decide +kernel)) (by decide +kernel)
theorem W_410 : (Cond.code ({ cls := "PathFinderModel", name := "children", desc := "(I)I" } : MethodName) prog_7_method_10_code (1 : Nat) (Option.some FieldType.int)) ∈ pw_all := pw_in (List.mem_of_getElem? (i := 434) (by decide +kernel)) (by decide +kernel)
theorem W_411 : (Cond.methodLink "PathFinderLaw" (44 : Nat) ({ cls := "PathFinderModel", name := "times", desc := "(II)J" } : MethodName)) ∈ pw_all := pw_in (List.mem_of_getElem? (i := 435) (by decide +kernel)) (by decide +kernel)
theorem W_412 : (Cond.instanceMethod ({ cls := "PathFinderModel", name := "times", desc := "(II)J" } : MethodName)) ∈ pw_all := pw_in (List.mem_of_getElem? (i := 436) (by decide +kernel)) (by decide +kernel)
theorem W_413 : (Cond.selects "PathFinderModel" ({ cls := "PathFinderModel", name := "times", desc := "(II)J" } : MethodName) ({ cls := "PathFinderModel", name := "times", desc := "(II)J" } : MethodName)) ∈ pw_all := pw_in (List.mem_of_getElem? (i := 437) (by decide +kernel)) (by decide +kernel)
theorem W_414 : (Cond.code ({ cls := "PathFinderModel", name := "times", desc := "(II)J" } : MethodName) prog_7_method_21_code (3 : Nat) (Option.some FieldType.long)) ∈ pw_all := pw_in (List.mem_of_getElem? (i := 438) (by decide +kernel)) (by decide +kernel)
theorem W_415 : (Cond.constantLong "PathFinderModel" (97 : Nat) (-1 : Int64)) ∈ pw_all := pw_in (List.mem_of_getElem? (i := 439) (by decide +kernel)) (by decide +kernel)
theorem W_416 : (Cond.methodLink "PathFinderModel" (99 : Nat) ({ cls := "PathFinderModel", name := "reckon", desc := "()Z" } : MethodName)) ∈ pw_all := pw_in (List.mem_of_getElem? (i := 440) (by decide +kernel)) (by decide +kernel)
theorem W_418 : (Cond.instanceMethod ({ cls := "PathFinderModel", name := "reckon", desc := "()Z" } : MethodName)) ∈ pw_all := pw_in (List.mem_of_getElem? (i := 442) (by decide +kernel)) (by decide +kernel)
theorem W_419 : (Cond.code ({ cls := "PathFinderModel", name := "reckon", desc := "()Z" } : MethodName) prog_7_method_19_code (6 : Nat) (Option.some FieldType.boolean)) ∈ pw_all := pw_in (List.mem_of_getElem? (i := 443) (by decide +kernel)) (by decide +kernel)
theorem W_420 : (Cond.methodLink "PathFinderModel" (76 : Nat) ({ cls := "PathFinderModel", name := "look", desc := "()I" } : MethodName)) ∈ pw_all := pw_in (List.mem_of_getElem? (i := 444) (by decide +kernel)) (by decide +kernel)
theorem W_421 : (Cond.methodLink "PathFinderModel" (80 : Nat) ({ cls := "PathFinderModel", name := "edgesOf", desc := "(II)V" } : MethodName)) ∈ pw_all := pw_in (List.mem_of_getElem? (i := 445) (by decide +kernel)) (by decide +kernel)
theorem W_423 : (Cond.instanceMethod ({ cls := "PathFinderModel", name := "edgesOf", desc := "(II)V" } : MethodName)) ∈ pw_all := pw_in (List.mem_of_getElem? (i := 447) (by decide +kernel)) (by decide +kernel)
theorem W_424 : (Cond.code ({ cls := "PathFinderModel", name := "edgesOf", desc := "(II)V" } : MethodName) prog_7_method_14_code (7 : Nat) (Option.none : Option Jvm.ClassFile.FieldType)) ∈ pw_all := pw_in (List.mem_of_getElem? (i := 448) (by decide +kernel)) (by decide +kernel)
theorem W_425 : (Cond.methodLink "PathFinderModel" (84 : Nat) ({ cls := "PathFinderModel", name := "turn", desc := "(I)V" } : MethodName)) ∈ pw_all := pw_in (List.mem_of_getElem? (i := 449) (by decide +kernel)) (by decide +kernel)
theorem W_427 : (Cond.instanceMethod ({ cls := "PathFinderModel", name := "turn", desc := "(I)V" } : MethodName)) ∈ pw_all := pw_in (List.mem_of_getElem? (i := 451) (by decide +kernel)) (by decide +kernel)
theorem W_428 : (Cond.code ({ cls := "PathFinderModel", name := "turn", desc := "(I)V" } : MethodName) prog_7_method_15_code (6 : Nat) (Option.none : Option Jvm.ClassFile.FieldType)) ∈ pw_all := pw_in (List.mem_of_getElem? (i := 452) (by decide +kernel)) (by decide +kernel)
theorem W_429 : (Cond.methodLink "PathFinderModel" (88 : Nat) ({ cls := "PathFinderModel", name := "chain", desc := "(II)V" } : MethodName)) ∈ pw_all := pw_in (List.mem_of_getElem? (i := 453) (by decide +kernel)) (by decide +kernel)
theorem W_431 : (Cond.instanceMethod ({ cls := "PathFinderModel", name := "chain", desc := "(II)V" } : MethodName)) ∈ pw_all := pw_in (List.mem_of_getElem? (i := 455) (by decide +kernel)) (by decide +kernel)
theorem W_432 : (Cond.code ({ cls := "PathFinderModel", name := "chain", desc := "(II)V" } : MethodName) prog_7_method_16_code (9 : Nat) (Option.none : Option Jvm.ClassFile.FieldType)) ∈ pw_all := pw_in (List.mem_of_getElem? (i := 456) (by decide +kernel)) (by decide +kernel)
theorem W_433 : (Cond.methodLink "PathFinderModel" (64 : Nat) ({ cls := "PathFinderModel", name := "product", desc := "(JJ)J" } : MethodName)) ∈ pw_all := pw_in (List.mem_of_getElem? (i := 457) (by decide +kernel)) (by decide +kernel)
theorem W_434 : (Cond.static ({ cls := "PathFinderModel", name := "product", desc := "(JJ)J" } : MethodName)) ∈ pw_all := pw_in (List.mem_of_getElem? (i := 458) (by decide +kernel)) (by decide +kernel)
theorem W_435 : (Cond.code ({ cls := "PathFinderModel", name := "product", desc := "(JJ)J" } : MethodName) prog_7_method_13_code (4 : Nat) (Option.some FieldType.long)) ∈ pw_all := pw_in (List.mem_of_getElem? (i := 459) (by decide +kernel)) (by decide +kernel)
theorem W_436 : (Cond.constantLong "PathFinderModel" (62 : Nat) (1000000000000000 : Int64)) ∈ pw_all := pw_in (List.mem_of_getElem? (i := 460) (by decide +kernel)) (by decide +kernel)
theorem W_437 : (Cond.methodLink "PathFinderModel" (68 : Nat) ({ cls := "PathFinderModel", name := "least", desc := "(J)J" } : MethodName)) ∈ pw_all := pw_in (List.mem_of_getElem? (i := 461) (by decide +kernel)) (by decide +kernel)
theorem W_438 : (Cond.static ({ cls := "PathFinderModel", name := "least", desc := "(J)J" } : MethodName)) ∈ pw_all := pw_in (List.mem_of_getElem? (i := 462) (by decide +kernel)) (by decide +kernel)
theorem W_439 : (Cond.code ({ cls := "PathFinderModel", name := "least", desc := "(J)J" } : MethodName) prog_7_method_12_code (2 : Nat) (Option.some FieldType.long)) ∈ pw_all := pw_in (List.mem_of_getElem? (i := 463) (by decide +kernel)) (by decide +kernel)
theorem W_440 : (Cond.methodLink "PathFinderModel" (91 : Nat) ({ cls := "PathFinderModel", name := "fall", desc := "(I)V" } : MethodName)) ∈ pw_all := pw_in (List.mem_of_getElem? (i := 464) (by decide +kernel)) (by decide +kernel)
theorem W_442 : (Cond.instanceMethod ({ cls := "PathFinderModel", name := "fall", desc := "(I)V" } : MethodName)) ∈ pw_all := pw_in (List.mem_of_getElem? (i := 466) (by decide +kernel)) (by decide +kernel)
theorem W_443 : (Cond.code ({ cls := "PathFinderModel", name := "fall", desc := "(I)V" } : MethodName) prog_7_method_20_code (3 : Nat) (Option.none : Option Jvm.ClassFile.FieldType)) ∈ pw_all := pw_in (List.mem_of_getElem? (i := 467) (by decide +kernel)) (by decide +kernel)
theorem W_444 : (Cond.methodLink "PathFinderModel" (72 : Nat) ({ cls := "PathFinderModel", name := "mark", desc := "(IZ)V" } : MethodName)) ∈ pw_all := pw_in (List.mem_of_getElem? (i := 468) (by decide +kernel)) (by decide +kernel)
theorem W_446 : (Cond.instanceMethod ({ cls := "PathFinderModel", name := "mark", desc := "(IZ)V" } : MethodName)) ∈ pw_all := pw_in (List.mem_of_getElem? (i := 470) (by decide +kernel)) (by decide +kernel)
theorem W_447 : (Cond.code ({ cls := "PathFinderModel", name := "mark", desc := "(IZ)V" } : MethodName) prog_7_method_17_code (5 : Nat) (Option.none : Option Jvm.ClassFile.FieldType)) ∈ pw_all := pw_in (List.mem_of_getElem? (i := 471) (by decide +kernel)) (by decide +kernel)
theorem W_448 : (Cond.methodLink "PathFinderModel" (94 : Nat) ({ cls := "PathFinderModel", name := "close", desc := "(IZ)V" } : MethodName)) ∈ pw_all := pw_in (List.mem_of_getElem? (i := 472) (by decide +kernel)) (by decide +kernel)
theorem W_450 : (Cond.instanceMethod ({ cls := "PathFinderModel", name := "close", desc := "(IZ)V" } : MethodName)) ∈ pw_all := pw_in (List.mem_of_getElem? (i := 474) (by decide +kernel)) (by decide +kernel)
theorem W_451 : (Cond.code ({ cls := "PathFinderModel", name := "close", desc := "(IZ)V" } : MethodName) prog_7_method_18_code (6 : Nat) (Option.none : Option Jvm.ClassFile.FieldType)) ∈ pw_all := pw_in (List.mem_of_getElem? (i := 475) (by decide +kernel)) (by decide +kernel)
theorem W_452 : (Cond.constantLong "PathFinderModel" (103 : Nat) (-2 : Int64)) ∈ pw_all := pw_in (List.mem_of_getElem? (i := 476) (by decide +kernel)) (by decide +kernel)
theorem W_453 : (Cond.methodLink "PathFinderLaw" (48 : Nat) ({ cls := "PathFinderModel", name := "ends", desc := "(I)I" } : MethodName)) ∈ pw_all := pw_in (List.mem_of_getElem? (i := 477) (by decide +kernel)) (by decide +kernel)
theorem W_454 : (Cond.instanceMethod ({ cls := "PathFinderModel", name := "ends", desc := "(I)I" } : MethodName)) ∈ pw_all := pw_in (List.mem_of_getElem? (i := 478) (by decide +kernel)) (by decide +kernel)
theorem W_455 : (Cond.selects "PathFinderModel" ({ cls := "PathFinderModel", name := "ends", desc := "(I)I" } : MethodName) ({ cls := "PathFinderModel", name := "ends", desc := "(I)I" } : MethodName)) ∈ pw_all := pw_in (List.mem_of_getElem? (i := 479) (by decide +kernel)) (by decide +kernel)
theorem W_456 : (Cond.code ({ cls := "PathFinderModel", name := "ends", desc := "(I)I" } : MethodName) prog_7_method_22_code (4 : Nat) (Option.some FieldType.int)) ∈ pw_all := pw_in (List.mem_of_getElem? (i := 480) (by decide +kernel)) (by decide +kernel)
theorem W_457 : (Cond.methodLink "PathFinderLaw" (53 : Nat) ({ cls := "PathFinderModel", name := "reached", desc := "(I)J" } : MethodName)) ∈ pw_all := pw_in (List.mem_of_getElem? (i := 481) (by decide +kernel)) (by decide +kernel)
theorem W_458 : (Cond.instanceMethod ({ cls := "PathFinderModel", name := "reached", desc := "(I)J" } : MethodName)) ∈ pw_all := pw_in (List.mem_of_getElem? (i := 482) (by decide +kernel)) (by decide +kernel)
theorem W_459 : (Cond.selects "PathFinderModel" ({ cls := "PathFinderModel", name := "reached", desc := "(I)J" } : MethodName) ({ cls := "PathFinderModel", name := "reached", desc := "(I)J" } : MethodName)) ∈ pw_all := pw_in (List.mem_of_getElem? (i := 483) (by decide +kernel)) (by decide +kernel)
theorem W_460 : (Cond.code ({ cls := "PathFinderModel", name := "reached", desc := "(I)J" } : MethodName) prog_7_method_23_code (5 : Nat) (Option.some FieldType.long)) ∈ pw_all := pw_in (List.mem_of_getElem? (i := 484) (by decide +kernel)) (by decide +kernel)
theorem W_461 : (Cond.methodLink "PathFinderLaw" (57 : Nat) ({ cls := "PathFinderModel", name := "all", desc := "(I)J" } : MethodName)) ∈ pw_all := pw_in (List.mem_of_getElem? (i := 485) (by decide +kernel)) (by decide +kernel)
theorem W_462 : (Cond.instanceMethod ({ cls := "PathFinderModel", name := "all", desc := "(I)J" } : MethodName)) ∈ pw_all := pw_in (List.mem_of_getElem? (i := 486) (by decide +kernel)) (by decide +kernel)
theorem W_463 : (Cond.selects "PathFinderModel" ({ cls := "PathFinderModel", name := "all", desc := "(I)J" } : MethodName) ({ cls := "PathFinderModel", name := "all", desc := "(I)J" } : MethodName)) ∈ pw_all := pw_in (List.mem_of_getElem? (i := 487) (by decide +kernel)) (by decide +kernel)
theorem W_464 : (Cond.code ({ cls := "PathFinderModel", name := "all", desc := "(I)J" } : MethodName) prog_7_method_24_code (5 : Nat) (Option.some FieldType.long)) ∈ pw_all := pw_in (List.mem_of_getElem? (i := 488) (by decide +kernel)) (by decide +kernel)
theorem W_465 : (Cond.methodLink "PathFinderLaw" (61 : Nat) ({ cls := "PathFinderModel", name := "reaching", desc := "(I)J" } : MethodName)) ∈ pw_all := pw_in (List.mem_of_getElem? (i := 489) (by decide +kernel)) (by decide +kernel)
theorem W_466 : (Cond.instanceMethod ({ cls := "PathFinderModel", name := "reaching", desc := "(I)J" } : MethodName)) ∈ pw_all := pw_in (List.mem_of_getElem? (i := 490) (by decide +kernel)) (by decide +kernel)
theorem W_467 : (Cond.selects "PathFinderModel" ({ cls := "PathFinderModel", name := "reaching", desc := "(I)J" } : MethodName) ({ cls := "PathFinderModel", name := "reaching", desc := "(I)J" } : MethodName)) ∈ pw_all := pw_in (List.mem_of_getElem? (i := 491) (by decide +kernel)) (by decide +kernel)
theorem W_468 : (Cond.code ({ cls := "PathFinderModel", name := "reaching", desc := "(I)J" } : MethodName) prog_7_method_25_code (5 : Nat) (Option.some FieldType.long)) ∈ pw_all := pw_in (List.mem_of_getElem? (i := 492) (by decide +kernel)) (by decide +kernel)
theorem W_469 : (Cond.methodLink "PathFinderLaw" (65 : Nat) ({ cls := "PathFinderModel", name := "pairs", desc := "()I" } : MethodName)) ∈ pw_all := pw_in (List.mem_of_getElem? (i := 493) (by decide +kernel)) (by decide +kernel)
theorem W_470 : (Cond.instanceMethod ({ cls := "PathFinderModel", name := "pairs", desc := "()I" } : MethodName)) ∈ pw_all := pw_in (List.mem_of_getElem? (i := 494) (by decide +kernel)) (by decide +kernel)
theorem W_471 : (Cond.selects "PathFinderModel" ({ cls := "PathFinderModel", name := "pairs", desc := "()I" } : MethodName) ({ cls := "PathFinderModel", name := "pairs", desc := "()I" } : MethodName)) ∈ pw_all := pw_in (List.mem_of_getElem? (i := 495) (by decide +kernel)) (by decide +kernel)
theorem W_472 : (Cond.code ({ cls := "PathFinderModel", name := "pairs", desc := "()I" } : MethodName) prog_7_method_26_code (3 : Nat) (Option.some FieldType.int)) ∈ pw_all := pw_in (List.mem_of_getElem? (i := 496) (by decide +kernel)) (by decide +kernel)
theorem V_0 : Cond.selects (⟨"PathFinder$Graph", "put", "(III)I"⟩ : MethodName).cls ⟨"PathFinder$Graph", "put", "(III)I"⟩ ⟨"PathFinder$Graph", "put", "(III)I"⟩ ∈ pw_all := pw_in (List.mem_of_getElem? (i := 0) (by decide +kernel)) (by decide +kernel)
theorem V_1 : Cond.selects (⟨"PathFinder", "forget", "()V"⟩ : MethodName).cls ⟨"PathFinder", "forget", "()V"⟩ ⟨"PathFinder", "forget", "()V"⟩ ∈ pw_all := pw_in (List.mem_of_getElem? (i := 1) (by decide +kernel)) (by decide +kernel)
theorem V_2 : Cond.selects (⟨"PathFinder$Graph", "remove", "(III)I"⟩ : MethodName).cls ⟨"PathFinder$Graph", "remove", "(III)I"⟩ ⟨"PathFinder$Graph", "remove", "(III)I"⟩ ∈ pw_all := pw_in (List.mem_of_getElem? (i := 2) (by decide +kernel)) (by decide +kernel)
theorem V_3 : Cond.selects (⟨"PathFinder$Path", "append", "(I)I"⟩ : MethodName).cls ⟨"PathFinder$Path", "append", "(I)I"⟩ ⟨"PathFinder$Path", "append", "(I)I"⟩ ∈ pw_all := pw_in (List.mem_of_getElem? (i := 3) (by decide +kernel)) (by decide +kernel)
theorem V_4 : Cond.selects (⟨"PathFinder$Path", "readWords", "()V"⟩ : MethodName).cls ⟨"PathFinder$Path", "readWords", "()V"⟩ ⟨"PathFinder$Path", "readWords", "()V"⟩ ∈ pw_all := pw_in (List.mem_of_getElem? (i := 4) (by decide +kernel)) (by decide +kernel)
theorem V_5 : Cond.selects (⟨"PathFinder$Path", "readPart", "(II)I"⟩ : MethodName).cls ⟨"PathFinder$Path", "readPart", "(II)I"⟩ ⟨"PathFinder$Path", "readPart", "(II)I"⟩ ∈ pw_all := pw_in (List.mem_of_getElem? (i := 5) (by decide +kernel)) (by decide +kernel)
theorem V_6 : Cond.selects (⟨"PathFinder$Path", "isWithin", "(III)Z"⟩ : MethodName).cls ⟨"PathFinder$Path", "isWithin", "(III)Z"⟩ ⟨"PathFinder$Path", "isWithin", "(III)Z"⟩ ∈ pw_all := pw_in (List.mem_of_getElem? (i := 6) (by decide +kernel)) (by decide +kernel)
theorem V_7 : Cond.selects (⟨"PathFinder$Path", "readLabels", "(II)I"⟩ : MethodName).cls ⟨"PathFinder$Path", "readLabels", "(II)I"⟩ ⟨"PathFinder$Path", "readLabels", "(II)I"⟩ ∈ pw_all := pw_in (List.mem_of_getElem? (i := 7) (by decide +kernel)) (by decide +kernel)
theorem V_8 : Cond.selects (⟨"PathFinder$Path", "empty", "()I"⟩ : MethodName).cls ⟨"PathFinder$Path", "empty", "()I"⟩ ⟨"PathFinder$Path", "empty", "()I"⟩ ∈ pw_all := pw_in (List.mem_of_getElem? (i := 8) (by decide +kernel)) (by decide +kernel)
theorem V_9 : Cond.selects (⟨"PathFinder$Path", "isJust", "()Z"⟩ : MethodName).cls ⟨"PathFinder$Path", "isJust", "()Z"⟩ ⟨"PathFinder$Path", "isJust", "()Z"⟩ ∈ pw_all := pw_in (List.mem_of_getElem? (i := 9) (by decide +kernel)) (by decide +kernel)
theorem V_10 : Cond.selects (⟨"PathFinder$Counts", "from", "(I)[J"⟩ : MethodName).cls ⟨"PathFinder$Counts", "from", "(I)[J"⟩ ⟨"PathFinder$Counts", "from", "(I)[J"⟩ ∈ pw_all := pw_in (List.mem_of_getElem? (i := 10) (by decide +kernel)) (by decide +kernel)
theorem V_11 : Cond.selects (⟨"PathFinder$Relations", "ofPath", "()[J"⟩ : MethodName).cls ⟨"PathFinder$Relations", "ofPath", "()[J"⟩ ⟨"PathFinder$Relations", "ofPath", "()[J"⟩ ∈ pw_all := pw_in (List.mem_of_getElem? (i := 11) (by decide +kernel)) (by decide +kernel)
theorem V_12 : Cond.selects (⟨"PathFinder$Relations", "fill", "(I)V"⟩ : MethodName).cls ⟨"PathFinder$Relations", "fill", "(I)V"⟩ ⟨"PathFinder$Relations", "fill", "(I)V"⟩ ∈ pw_all := pw_in (List.mem_of_getElem? (i := 12) (by decide +kernel)) (by decide +kernel)
theorem V_13 : Cond.selects (⟨"PathFinder$Relations", "addEdges", "([JI)V"⟩ : MethodName).cls ⟨"PathFinder$Relations", "addEdges", "([JI)V"⟩ ⟨"PathFinder$Relations", "addEdges", "([JI)V"⟩ ∈ pw_all := pw_in (List.mem_of_getElem? (i := 13) (by decide +kernel)) (by decide +kernel)
theorem V_14 : Cond.selects (⟨"PathFinder$Counts", "carry", "(IZI[J[J)V"⟩ : MethodName).cls ⟨"PathFinder$Counts", "carry", "(IZI[J[J)V"⟩ ⟨"PathFinder$Counts", "carry", "(IZI[J[J)V"⟩ ∈ pw_all := pw_in (List.mem_of_getElem? (i := 14) (by decide +kernel)) (by decide +kernel)
theorem V_15 : Cond.selects (⟨"PathFinder$Counts", "carryOverEdges", "(IZ[J[J)V"⟩ : MethodName).cls ⟨"PathFinder$Counts", "carryOverEdges", "(IZ[J[J)V"⟩ ⟨"PathFinder$Counts", "carryOverEdges", "(IZ[J[J)V"⟩ ∈ pw_all := pw_in (List.mem_of_getElem? (i := 15) (by decide +kernel)) (by decide +kernel)
theorem V_16 : Cond.selects (⟨"PathFinder$Counts", "carryOverBoth", "(IZI[J[J)V"⟩ : MethodName).cls ⟨"PathFinder$Counts", "carryOverBoth", "(IZI[J[J)V"⟩ ⟨"PathFinder$Counts", "carryOverBoth", "(IZI[J[J)V"⟩ ∈ pw_all := pw_in (List.mem_of_getElem? (i := 16) (by decide +kernel)) (by decide +kernel)
theorem V_17 : Cond.selects (⟨"PathFinderModel", "reckon", "()Z"⟩ : MethodName).cls ⟨"PathFinderModel", "reckon", "()Z"⟩ ⟨"PathFinderModel", "reckon", "()Z"⟩ ∈ pw_all := pw_in (List.mem_of_getElem? (i := 17) (by decide +kernel)) (by decide +kernel)
theorem V_18 : Cond.selects (⟨"PathFinderModel", "edgesOf", "(II)V"⟩ : MethodName).cls ⟨"PathFinderModel", "edgesOf", "(II)V"⟩ ⟨"PathFinderModel", "edgesOf", "(II)V"⟩ ∈ pw_all := pw_in (List.mem_of_getElem? (i := 18) (by decide +kernel)) (by decide +kernel)
theorem V_19 : Cond.selects (⟨"PathFinderModel", "turn", "(I)V"⟩ : MethodName).cls ⟨"PathFinderModel", "turn", "(I)V"⟩ ⟨"PathFinderModel", "turn", "(I)V"⟩ ∈ pw_all := pw_in (List.mem_of_getElem? (i := 19) (by decide +kernel)) (by decide +kernel)
theorem V_20 : Cond.selects (⟨"PathFinderModel", "chain", "(II)V"⟩ : MethodName).cls ⟨"PathFinderModel", "chain", "(II)V"⟩ ⟨"PathFinderModel", "chain", "(II)V"⟩ ∈ pw_all := pw_in (List.mem_of_getElem? (i := 20) (by decide +kernel)) (by decide +kernel)
theorem V_21 : Cond.selects (⟨"PathFinderModel", "fall", "(I)V"⟩ : MethodName).cls ⟨"PathFinderModel", "fall", "(I)V"⟩ ⟨"PathFinderModel", "fall", "(I)V"⟩ ∈ pw_all := pw_in (List.mem_of_getElem? (i := 21) (by decide +kernel)) (by decide +kernel)
theorem V_22 : Cond.selects (⟨"PathFinderModel", "mark", "(IZ)V"⟩ : MethodName).cls ⟨"PathFinderModel", "mark", "(IZ)V"⟩ ⟨"PathFinderModel", "mark", "(IZ)V"⟩ ∈ pw_all := pw_in (List.mem_of_getElem? (i := 22) (by decide +kernel)) (by decide +kernel)
theorem V_23 : Cond.selects (⟨"PathFinderModel", "close", "(IZ)V"⟩ : MethodName).cls ⟨"PathFinderModel", "close", "(IZ)V"⟩ ⟨"PathFinderModel", "close", "(IZ)V"⟩ ∈ pw_all := pw_in (List.mem_of_getElem? (i := 23) (by decide +kernel)) (by decide +kernel)
def pw_nw : List Cond := [(Cond.methodLinkNest "PathFinder" (9 : Nat) ({ cls := "PathFinder$Graph", name := "<init>", desc := "()V" } : MethodName) "PathFinder"), (Cond.fieldLinkNest "PathFinder$Relations" (83 : Nat) "PathFinder$Graph" "targets" "[[J" "PathFinder"), (Cond.fieldLinkNest "PathFinder$Counts" (92 : Nat) "PathFinder$Graph" "targets" "[[J" "PathFinder"), (Cond.fieldLinkNest "PathFinder" (51 : Nat) "PathFinder$Graph" "size" "I" "PathFinder"), (Cond.methodLinkNest "PathFinder" (18 : Nat) ({ cls := "PathFinder$Path", name := "<init>", desc := "()V" } : MethodName) "PathFinder"), (Cond.fieldLinkNest "PathFinder$Relations" (43 : Nat) "PathFinder$Path" "kinds" "[I" "PathFinder"), (Cond.fieldLinkNest "PathFinder$Counts" (64 : Nat) "PathFinder$Path" "kinds" "[I" "PathFinder"), (Cond.fieldLinkNest "PathFinder$Relations" (50 : Nat) "PathFinder$Path" "labelSets" "[I" "PathFinder"), (Cond.fieldLinkNest "PathFinder$Counts" (68 : Nat) "PathFinder$Path" "labelSets" "[I" "PathFinder"), (Cond.fieldLinkNest "PathFinder$Relations" (47 : Nat) "PathFinder$Path" "seconds" "[I" "PathFinder"), (Cond.fieldLinkNest "PathFinder$Counts" (78 : Nat) "PathFinder$Path" "seconds" "[I" "PathFinder"), (Cond.fieldLinkNest "PathFinder$Relations" (28 : Nat) "PathFinder$Path" "parts" "I" "PathFinder"), (Cond.fieldLinkNest "PathFinder$Counts" (59 : Nat) "PathFinder$Path" "parts" "I" "PathFinder"), (Cond.fieldLinkNest "PathFinder" (63 : Nat) "PathFinder$Path" "fault" "I" "PathFinder"), (Cond.methodLinkNest "PathFinder" (25 : Nat) ({ cls := "PathFinder$Relations", name := "<init>", desc := "(LPathFinder$Graph;LPathFinder$Path;)V" } : MethodName) "PathFinder"), (Cond.fieldLinkNest "PathFinder$Counts" (81 : Nat) "PathFinder$Relations" "partRows" "[[J" "PathFinder"), (Cond.fieldLinkNest "PathFinder" (104 : Nat) "PathFinder$Relations" "ready" "Z" "PathFinder"), (Cond.methodLinkNest "PathFinder" (34 : Nat) ({ cls := "PathFinder$Counts", name := "<init>", desc := "(LPathFinder$Graph;LPathFinder$Path;LPathFinder$Relations;)V" } : MethodName) "PathFinder"), (Cond.fieldLinkNest "PathFinder" (108 : Nat) "PathFinder$Counts" "start" "I" "PathFinder"), (Cond.methodLinkNest "PathFinder" (41 : Nat) ({ cls := "PathFinder$Graph", name := "put", desc := "(III)I" } : MethodName) "PathFinder"), (Cond.methodLinkNest "PathFinder$Graph" (34 : Nat) ({ cls := "PathFinder", name := "isPoint", desc := "(I)Z" } : MethodName) "PathFinder"), (Cond.methodLinkNest "PathFinder$Graph" (38 : Nat) ({ cls := "PathFinder", name := "isLabel", desc := "(I)Z" } : MethodName) "PathFinder"), (Cond.methodLinkNest "PathFinder$Graph" (20 : Nat) ({ cls := "PathFinder", name := "holds", desc := "(JI)Z" } : MethodName) "PathFinder"), (Cond.methodLinkNest "PathFinder$Graph" (24 : Nat) ({ cls := "PathFinder", name := "bit", desc := "(I)J" } : MethodName) "PathFinder"), (Cond.methodLinkNest "PathFinder" (48 : Nat) ({ cls := "PathFinder$Graph", name := "remove", desc := "(III)I" } : MethodName) "PathFinder"), (Cond.methodLinkNest "PathFinder" (55 : Nat) ({ cls := "PathFinder$Path", name := "append", desc := "(I)I" } : MethodName) "PathFinder"), (Cond.methodLinkNest "PathFinder" (59 : Nat) ({ cls := "PathFinder$Path", name := "empty", desc := "()I" } : MethodName) "PathFinder"), (Cond.methodLinkNest "PathFinder" (72 : Nat) ({ cls := "PathFinder$Path", name := "isJust", desc := "()Z" } : MethodName) "PathFinder"), (Cond.methodLinkNest "PathFinder" (78 : Nat) ({ cls := "PathFinder$Counts", name := "from", desc := "(I)[J" } : MethodName) "PathFinder"), (Cond.methodLinkNest "PathFinder$Counts" (39 : Nat) ({ cls := "PathFinder", name := "isPoint", desc := "(I)Z" } : MethodName) "PathFinder"), (Cond.methodLinkNest "PathFinder$Counts" (43 : Nat) ({ cls := "PathFinder$Relations", name := "ofPath", desc := "()[J" } : MethodName) "PathFinder"), (Cond.methodLinkNest "PathFinder$Relations" (79 : Nat) ({ cls := "PathFinder", name := "holds", desc := "(JI)Z" } : MethodName) "PathFinder"), (Cond.methodLinkNest "PathFinder$Relations" (88 : Nat) ({ cls := "PathFinder", name := "bit", desc := "(I)J" } : MethodName) "PathFinder"), (Cond.methodLinkNest "PathFinder$Counts" (88 : Nat) ({ cls := "PathFinder", name := "holds", desc := "(JI)Z" } : MethodName) "PathFinder"), (Cond.methodLinkNest "PathFinder$Counts" (101 : Nat) ({ cls := "PathFinder", name := "sumOf", desc := "(JJ)J" } : MethodName) "PathFinder"), (Cond.methodLinkNest "PathFinder" (82 : Nat) ({ cls := "PathFinder$Relations", name := "ofPath", desc := "()[J" } : MethodName) "PathFinder")]
theorem pw_nw_tb : ∀ w ∈ pw_nw, w ∈ lw_tbl := by decide +kernel
theorem N_0 : (Cond.methodLinkNest "PathFinder" (9 : Nat) ({ cls := "PathFinder$Graph", name := "<init>", desc := "()V" } : MethodName) "PathFinder") ∈ pw_nw := List.mem_of_getElem? (i := 0) (by decide +kernel)
theorem N_1 : (Cond.fieldLinkNest "PathFinder$Relations" (83 : Nat) "PathFinder$Graph" "targets" "[[J" "PathFinder") ∈ pw_nw := List.mem_of_getElem? (i := 1) (by decide +kernel)
theorem N_2 : (Cond.fieldLinkNest "PathFinder$Counts" (92 : Nat) "PathFinder$Graph" "targets" "[[J" "PathFinder") ∈ pw_nw := List.mem_of_getElem? (i := 2) (by decide +kernel)
theorem N_3 : (Cond.fieldLinkNest "PathFinder" (51 : Nat) "PathFinder$Graph" "size" "I" "PathFinder") ∈ pw_nw := List.mem_of_getElem? (i := 3) (by decide +kernel)
theorem N_4 : (Cond.methodLinkNest "PathFinder" (18 : Nat) ({ cls := "PathFinder$Path", name := "<init>", desc := "()V" } : MethodName) "PathFinder") ∈ pw_nw := List.mem_of_getElem? (i := 4) (by decide +kernel)
theorem N_5 : (Cond.fieldLinkNest "PathFinder$Relations" (43 : Nat) "PathFinder$Path" "kinds" "[I" "PathFinder") ∈ pw_nw := List.mem_of_getElem? (i := 5) (by decide +kernel)
theorem N_6 : (Cond.fieldLinkNest "PathFinder$Counts" (64 : Nat) "PathFinder$Path" "kinds" "[I" "PathFinder") ∈ pw_nw := List.mem_of_getElem? (i := 6) (by decide +kernel)
theorem N_7 : (Cond.fieldLinkNest "PathFinder$Relations" (50 : Nat) "PathFinder$Path" "labelSets" "[I" "PathFinder") ∈ pw_nw := List.mem_of_getElem? (i := 7) (by decide +kernel)
theorem N_8 : (Cond.fieldLinkNest "PathFinder$Counts" (68 : Nat) "PathFinder$Path" "labelSets" "[I" "PathFinder") ∈ pw_nw := List.mem_of_getElem? (i := 8) (by decide +kernel)
theorem N_9 : (Cond.fieldLinkNest "PathFinder$Relations" (47 : Nat) "PathFinder$Path" "seconds" "[I" "PathFinder") ∈ pw_nw := List.mem_of_getElem? (i := 9) (by decide +kernel)
theorem N_10 : (Cond.fieldLinkNest "PathFinder$Counts" (78 : Nat) "PathFinder$Path" "seconds" "[I" "PathFinder") ∈ pw_nw := List.mem_of_getElem? (i := 10) (by decide +kernel)
theorem N_11 : (Cond.fieldLinkNest "PathFinder$Relations" (28 : Nat) "PathFinder$Path" "parts" "I" "PathFinder") ∈ pw_nw := List.mem_of_getElem? (i := 11) (by decide +kernel)
theorem N_12 : (Cond.fieldLinkNest "PathFinder$Counts" (59 : Nat) "PathFinder$Path" "parts" "I" "PathFinder") ∈ pw_nw := List.mem_of_getElem? (i := 12) (by decide +kernel)
theorem N_13 : (Cond.fieldLinkNest "PathFinder" (63 : Nat) "PathFinder$Path" "fault" "I" "PathFinder") ∈ pw_nw := List.mem_of_getElem? (i := 13) (by decide +kernel)
theorem N_14 : (Cond.methodLinkNest "PathFinder" (25 : Nat) ({ cls := "PathFinder$Relations", name := "<init>", desc := "(LPathFinder$Graph;LPathFinder$Path;)V" } : MethodName) "PathFinder") ∈ pw_nw := List.mem_of_getElem? (i := 14) (by decide +kernel)
theorem N_15 : (Cond.fieldLinkNest "PathFinder$Counts" (81 : Nat) "PathFinder$Relations" "partRows" "[[J" "PathFinder") ∈ pw_nw := List.mem_of_getElem? (i := 15) (by decide +kernel)
theorem N_16 : (Cond.fieldLinkNest "PathFinder" (104 : Nat) "PathFinder$Relations" "ready" "Z" "PathFinder") ∈ pw_nw := List.mem_of_getElem? (i := 16) (by decide +kernel)
theorem N_17 : (Cond.methodLinkNest "PathFinder" (34 : Nat) ({ cls := "PathFinder$Counts", name := "<init>", desc := "(LPathFinder$Graph;LPathFinder$Path;LPathFinder$Relations;)V" } : MethodName) "PathFinder") ∈ pw_nw := List.mem_of_getElem? (i := 17) (by decide +kernel)
theorem N_18 : (Cond.fieldLinkNest "PathFinder" (108 : Nat) "PathFinder$Counts" "start" "I" "PathFinder") ∈ pw_nw := List.mem_of_getElem? (i := 18) (by decide +kernel)
theorem N_19 : (Cond.methodLinkNest "PathFinder" (41 : Nat) ({ cls := "PathFinder$Graph", name := "put", desc := "(III)I" } : MethodName) "PathFinder") ∈ pw_nw := List.mem_of_getElem? (i := 19) (by decide +kernel)
theorem N_20 : (Cond.methodLinkNest "PathFinder$Graph" (34 : Nat) ({ cls := "PathFinder", name := "isPoint", desc := "(I)Z" } : MethodName) "PathFinder") ∈ pw_nw := List.mem_of_getElem? (i := 20) (by decide +kernel)
theorem N_21 : (Cond.methodLinkNest "PathFinder$Graph" (38 : Nat) ({ cls := "PathFinder", name := "isLabel", desc := "(I)Z" } : MethodName) "PathFinder") ∈ pw_nw := List.mem_of_getElem? (i := 21) (by decide +kernel)
theorem N_22 : (Cond.methodLinkNest "PathFinder$Graph" (20 : Nat) ({ cls := "PathFinder", name := "holds", desc := "(JI)Z" } : MethodName) "PathFinder") ∈ pw_nw := List.mem_of_getElem? (i := 22) (by decide +kernel)
theorem N_23 : (Cond.methodLinkNest "PathFinder$Graph" (24 : Nat) ({ cls := "PathFinder", name := "bit", desc := "(I)J" } : MethodName) "PathFinder") ∈ pw_nw := List.mem_of_getElem? (i := 23) (by decide +kernel)
theorem N_24 : (Cond.methodLinkNest "PathFinder" (48 : Nat) ({ cls := "PathFinder$Graph", name := "remove", desc := "(III)I" } : MethodName) "PathFinder") ∈ pw_nw := List.mem_of_getElem? (i := 24) (by decide +kernel)
theorem N_25 : (Cond.methodLinkNest "PathFinder" (55 : Nat) ({ cls := "PathFinder$Path", name := "append", desc := "(I)I" } : MethodName) "PathFinder") ∈ pw_nw := List.mem_of_getElem? (i := 25) (by decide +kernel)
theorem N_26 : (Cond.methodLinkNest "PathFinder" (59 : Nat) ({ cls := "PathFinder$Path", name := "empty", desc := "()I" } : MethodName) "PathFinder") ∈ pw_nw := List.mem_of_getElem? (i := 26) (by decide +kernel)
theorem N_27 : (Cond.methodLinkNest "PathFinder" (72 : Nat) ({ cls := "PathFinder$Path", name := "isJust", desc := "()Z" } : MethodName) "PathFinder") ∈ pw_nw := List.mem_of_getElem? (i := 27) (by decide +kernel)
theorem N_28 : (Cond.methodLinkNest "PathFinder" (78 : Nat) ({ cls := "PathFinder$Counts", name := "from", desc := "(I)[J" } : MethodName) "PathFinder") ∈ pw_nw := List.mem_of_getElem? (i := 28) (by decide +kernel)
theorem N_29 : (Cond.methodLinkNest "PathFinder$Counts" (39 : Nat) ({ cls := "PathFinder", name := "isPoint", desc := "(I)Z" } : MethodName) "PathFinder") ∈ pw_nw := List.mem_of_getElem? (i := 29) (by decide +kernel)
theorem N_30 : (Cond.methodLinkNest "PathFinder$Counts" (43 : Nat) ({ cls := "PathFinder$Relations", name := "ofPath", desc := "()[J" } : MethodName) "PathFinder") ∈ pw_nw := List.mem_of_getElem? (i := 30) (by decide +kernel)
theorem N_31 : (Cond.methodLinkNest "PathFinder$Relations" (79 : Nat) ({ cls := "PathFinder", name := "holds", desc := "(JI)Z" } : MethodName) "PathFinder") ∈ pw_nw := List.mem_of_getElem? (i := 31) (by decide +kernel)
theorem N_32 : (Cond.methodLinkNest "PathFinder$Relations" (88 : Nat) ({ cls := "PathFinder", name := "bit", desc := "(I)J" } : MethodName) "PathFinder") ∈ pw_nw := List.mem_of_getElem? (i := 32) (by decide +kernel)
theorem N_33 : (Cond.methodLinkNest "PathFinder$Counts" (88 : Nat) ({ cls := "PathFinder", name := "holds", desc := "(JI)Z" } : MethodName) "PathFinder") ∈ pw_nw := List.mem_of_getElem? (i := 33) (by decide +kernel)
theorem N_34 : (Cond.methodLinkNest "PathFinder$Counts" (101 : Nat) ({ cls := "PathFinder", name := "sumOf", desc := "(JJ)J" } : MethodName) "PathFinder") ∈ pw_nw := List.mem_of_getElem? (i := 34) (by decide +kernel)
theorem N_35 : (Cond.methodLinkNest "PathFinder" (82 : Nat) ({ cls := "PathFinder$Relations", name := "ofPath", desc := "()[J" } : MethodName) "PathFinder") ∈ pw_nw := List.mem_of_getElem? (i := 35) (by decide +kernel)
def pw_isN : Cond → Bool
  | .fieldLinkNest .. => true
  | .methodLinkNest .. => true
  | _ => false
theorem pw_nw_ok : ∀ w ∈ pw_nw, pw_isN w = true := by decide +kernel
theorem in_CN : ∀ q ∈ u_ws R_CN T_CN 7, q ∈ pw_all := fun q h => pw_in ((show ∀ q ∈ u_ws R_CN T_CN 7, q ∈ lw_tbl by decide +kernel) q h) ((show ∀ q ∈ u_ws R_CN T_CN 7, goodWord q = true by decide +kernel) q h)
theorem in_GR : ∀ q ∈ u_ws R_GR T_GR 2, q ∈ pw_all := fun q h => pw_in ((show ∀ q ∈ u_ws R_GR T_GR 2, q ∈ lw_tbl by decide +kernel) q h) ((show ∀ q ∈ u_ws R_GR T_GR 2, goodWord q = true by decide +kernel) q h)
theorem in_PA : ∀ q ∈ u_ws R_PA T_PA 7, q ∈ pw_all := fun q h => pw_in ((show ∀ q ∈ u_ws R_PA T_PA 7, q ∈ lw_tbl by decide +kernel) q h) ((show ∀ q ∈ u_ws R_PA T_PA 7, goodWord q = true by decide +kernel) q h)
theorem in_RE : ∀ q ∈ u_ws R_RE T_RE 4, q ∈ pw_all := fun q h => pw_in ((show ∀ q ∈ u_ws R_RE T_RE 4, q ∈ lw_tbl by decide +kernel) q h) ((show ∀ q ∈ u_ws R_RE T_RE 4, goodWord q = true by decide +kernel) q h)
theorem in_PF : ∀ q ∈ u_ws R_PF T_PF 4, q ∈ pw_all := fun q h => pw_in ((show ∀ q ∈ u_ws R_PF T_PF 4, q ∈ lw_tbl by decide +kernel) q h) ((show ∀ q ∈ u_ws R_PF T_PF 4, goodWord q = true by decide +kernel) q h)
theorem in_MO : ∀ q ∈ u_ws R_MO T_MO 10, q ∈ pw_all := fun q h => pw_in ((show ∀ q ∈ u_ws R_MO T_MO 10, q ∈ lw_tbl by decide +kernel) q h) ((show ∀ q ∈ u_ws R_MO T_MO 10, goodWord q = true by decide +kernel) q h)
end
section
/-! DECODE ROWS -/
theorem d_CN_init_0 : decode c_CN_init 0 = .ok (.aload_n 0, 1) := by decide +kernel
theorem d_CN_init_1 : decode c_CN_init 1 = .ok (.invokespecial 3, 3) := by decide +kernel
theorem d_CN_init_4 : decode c_CN_init 4 = .ok (.aload_n 0, 1) := by decide +kernel
theorem d_CN_init_5 : decode c_CN_init 5 = .ok (.bipush 64, 2) := by decide +kernel
theorem d_CN_init_7 : decode c_CN_init 7 = .ok (.newarray .long, 2) := by decide +kernel
theorem d_CN_init_9 : decode c_CN_init 9 = .ok (.putfield 9, 3) := by decide +kernel
theorem d_CN_init_12 : decode c_CN_init 12 = .ok (.aload_n 0, 1) := by decide +kernel
theorem d_CN_init_13 : decode c_CN_init 13 = .ok (.bipush 64, 2) := by decide +kernel
theorem d_CN_init_15 : decode c_CN_init 15 = .ok (.newarray .long, 2) := by decide +kernel
theorem d_CN_init_17 : decode c_CN_init 17 = .ok (.putfield 15, 3) := by decide +kernel
theorem d_CN_init_20 : decode c_CN_init 20 = .ok (.aload_n 0, 1) := by decide +kernel
theorem d_CN_init_21 : decode c_CN_init 21 = .ok (.bipush 12, 2) := by decide +kernel
theorem d_CN_init_23 : decode c_CN_init 23 = .ok (.bipush 64, 2) := by decide +kernel
theorem d_CN_init_25 : decode c_CN_init 25 = .ok (.multianewarray 18 2, 4) := by decide +kernel
theorem d_CN_init_29 : decode c_CN_init 29 = .ok (.putfield 20, 3) := by decide +kernel
theorem d_CN_init_32 : decode c_CN_init 32 = .ok (.aload_n 0, 1) := by decide +kernel
theorem d_CN_init_33 : decode c_CN_init 33 = .ok (.iconst (-1), 1) := by decide +kernel
theorem d_CN_init_34 : decode c_CN_init 34 = .ok (.putfield 23, 3) := by decide +kernel
theorem d_CN_init_37 : decode c_CN_init 37 = .ok (.aload_n 0, 1) := by decide +kernel
theorem d_CN_init_38 : decode c_CN_init 38 = .ok (.aload_n 1, 1) := by decide +kernel
theorem d_CN_init_39 : decode c_CN_init 39 = .ok (.putfield 27, 3) := by decide +kernel
theorem d_CN_init_42 : decode c_CN_init 42 = .ok (.aload_n 0, 1) := by decide +kernel
theorem d_CN_init_43 : decode c_CN_init 43 = .ok (.aload_n 2, 1) := by decide +kernel
theorem d_CN_init_44 : decode c_CN_init 44 = .ok (.putfield 31, 3) := by decide +kernel
theorem d_CN_init_47 : decode c_CN_init 47 = .ok (.aload_n 0, 1) := by decide +kernel
theorem d_CN_init_48 : decode c_CN_init 48 = .ok (.aload_n 3, 1) := by decide +kernel
theorem d_CN_init_49 : decode c_CN_init 49 = .ok (.putfield 35, 3) := by decide +kernel
theorem d_CN_init_52 : decode c_CN_init 52 = .ok (.return_, 1) := by decide +kernel
theorem d_CN_from_0 : decode c_CN_from 0 = .ok (.aload_n 0, 1) := by decide +kernel
theorem d_CN_from_1 : decode c_CN_from 1 = .ok (.getfield 23, 3) := by decide +kernel
theorem d_CN_from_4 : decode c_CN_from 4 = .ok (.iload_n 1, 1) := by decide +kernel
theorem d_CN_from_5 : decode c_CN_from 5 = .ok (.if_icmp .eq 61, 3) := by decide +kernel
theorem d_CN_from_8 : decode c_CN_from 8 = .ok (.iload_n 1, 1) := by decide +kernel
theorem d_CN_from_9 : decode c_CN_from 9 = .ok (.invokestatic 39, 3) := by decide +kernel
theorem d_CN_from_12 : decode c_CN_from 12 = .ok (.ifCond .eq 54, 3) := by decide +kernel
theorem d_CN_from_15 : decode c_CN_from 15 = .ok (.aload_n 0, 1) := by decide +kernel
theorem d_CN_from_16 : decode c_CN_from 16 = .ok (.getfield 35, 3) := by decide +kernel
theorem d_CN_from_19 : decode c_CN_from 19 = .ok (.invokevirtual 43, 3) := by decide +kernel
theorem d_CN_from_22 : decode c_CN_from 22 = .ok (.pop, 1) := by decide +kernel
theorem d_CN_from_23 : decode c_CN_from 23 = .ok (.aload_n 0, 1) := by decide +kernel
theorem d_CN_from_24 : decode c_CN_from 24 = .ok (.getfield 9, 3) := by decide +kernel
theorem d_CN_from_27 : decode c_CN_from 27 = .ok (.lconst 0, 1) := by decide +kernel
theorem d_CN_from_28 : decode c_CN_from 28 = .ok (.invokestatic 49, 3) := by decide +kernel
theorem d_CN_from_31 : decode c_CN_from 31 = .ok (.aload_n 0, 1) := by decide +kernel
theorem d_CN_from_32 : decode c_CN_from 32 = .ok (.getfield 15, 3) := by decide +kernel
theorem d_CN_from_35 : decode c_CN_from 35 = .ok (.lconst 0, 1) := by decide +kernel
theorem d_CN_from_36 : decode c_CN_from 36 = .ok (.invokestatic 49, 3) := by decide +kernel
theorem d_CN_from_39 : decode c_CN_from 39 = .ok (.aload_n 0, 1) := by decide +kernel
theorem d_CN_from_40 : decode c_CN_from 40 = .ok (.getfield 9, 3) := by decide +kernel
theorem d_CN_from_43 : decode c_CN_from 43 = .ok (.iload_n 1, 1) := by decide +kernel
theorem d_CN_from_44 : decode c_CN_from 44 = .ok (.lconst 1, 1) := by decide +kernel
theorem d_CN_from_45 : decode c_CN_from 45 = .ok (.lastore, 1) := by decide +kernel
theorem d_CN_from_46 : decode c_CN_from 46 = .ok (.aload_n 0, 1) := by decide +kernel
theorem d_CN_from_47 : decode c_CN_from 47 = .ok (.iconst 0, 1) := by decide +kernel
theorem d_CN_from_48 : decode c_CN_from 48 = .ok (.iconst 0, 1) := by decide +kernel
theorem d_CN_from_49 : decode c_CN_from 49 = .ok (.iconst 0, 1) := by decide +kernel
theorem d_CN_from_50 : decode c_CN_from 50 = .ok (.aload_n 0, 1) := by decide +kernel
theorem d_CN_from_51 : decode c_CN_from 51 = .ok (.getfield 9, 3) := by decide +kernel
theorem d_CN_from_54 : decode c_CN_from 54 = .ok (.aload_n 0, 1) := by decide +kernel
theorem d_CN_from_55 : decode c_CN_from 55 = .ok (.getfield 15, 3) := by decide +kernel
theorem d_CN_from_58 : decode c_CN_from 58 = .ok (.invokevirtual 55, 3) := by decide +kernel
theorem d_CN_from_61 : decode c_CN_from 61 = .ok (.aload_n 0, 1) := by decide +kernel
theorem d_CN_from_62 : decode c_CN_from 62 = .ok (.iload_n 1, 1) := by decide +kernel
theorem d_CN_from_63 : decode c_CN_from 63 = .ok (.putfield 23, 3) := by decide +kernel
theorem d_CN_from_66 : decode c_CN_from 66 = .ok (.aload_n 0, 1) := by decide +kernel
theorem d_CN_from_67 : decode c_CN_from 67 = .ok (.getfield 15, 3) := by decide +kernel
theorem d_CN_from_70 : decode c_CN_from 70 = .ok (.areturn, 1) := by decide +kernel
theorem d_CN_carry_0 : decode c_CN_carry 0 = .ok (.iload_n 3, 1) := by decide +kernel
theorem d_CN_carry_1 : decode c_CN_carry 1 = .ok (.bipush 12, 2) := by decide +kernel
theorem d_CN_carry_3 : decode c_CN_carry 3 = .ok (.if_icmp .ge 14, 3) := by decide +kernel
theorem d_CN_carry_6 : decode c_CN_carry 6 = .ok (.iload_n 1, 1) := by decide +kernel
theorem d_CN_carry_7 : decode c_CN_carry 7 = .ok (.aload_n 0, 1) := by decide +kernel
theorem d_CN_carry_8 : decode c_CN_carry 8 = .ok (.getfield 31, 3) := by decide +kernel
theorem d_CN_carry_11 : decode c_CN_carry 11 = .ok (.getfield 59, 3) := by decide +kernel
theorem d_CN_carry_14 : decode c_CN_carry 14 = .ok (.if_icmp .lt 4, 3) := by decide +kernel
theorem d_CN_carry_17 : decode c_CN_carry 17 = .ok (.return_, 1) := by decide +kernel
theorem d_CN_carry_18 : decode c_CN_carry 18 = .ok (.aload_n 0, 1) := by decide +kernel
theorem d_CN_carry_19 : decode c_CN_carry 19 = .ok (.getfield 31, 3) := by decide +kernel
theorem d_CN_carry_22 : decode c_CN_carry 22 = .ok (.getfield 64, 3) := by decide +kernel
theorem d_CN_carry_25 : decode c_CN_carry 25 = .ok (.iload_n 1, 1) := by decide +kernel
theorem d_CN_carry_26 : decode c_CN_carry 26 = .ok (.iaload, 1) := by decide +kernel
theorem d_CN_carry_27 : decode c_CN_carry 27 = .ok (.tableswitch 145 0 7 #[45, 66, 92, 106, 145, 145, 145, 45], 45) := by decide +kernel
theorem d_CN_carry_72 : decode c_CN_carry 72 = .ok (.aload_n 0, 1) := by decide +kernel
theorem d_CN_carry_73 : decode c_CN_carry 73 = .ok (.aload_n 0, 1) := by decide +kernel
theorem d_CN_carry_74 : decode c_CN_carry 74 = .ok (.getfield 31, 3) := by decide +kernel
theorem d_CN_carry_77 : decode c_CN_carry 77 = .ok (.getfield 68, 3) := by decide +kernel
theorem d_CN_carry_80 : decode c_CN_carry 80 = .ok (.iload_n 1, 1) := by decide +kernel
theorem d_CN_carry_81 : decode c_CN_carry 81 = .ok (.iaload, 1) := by decide +kernel
theorem d_CN_carry_82 : decode c_CN_carry 82 = .ok (.iload_n 2, 1) := by decide +kernel
theorem d_CN_carry_83 : decode c_CN_carry 83 = .ok (.aload 4, 2) := by decide +kernel
theorem d_CN_carry_85 : decode c_CN_carry 85 = .ok (.aload 5, 2) := by decide +kernel
theorem d_CN_carry_87 : decode c_CN_carry 87 = .ok (.invokevirtual 71, 3) := by decide +kernel
theorem d_CN_carry_90 : decode c_CN_carry 90 = .ok (.goto 99, 3) := by decide +kernel
theorem d_CN_carry_93 : decode c_CN_carry 93 = .ok (.aload_n 0, 1) := by decide +kernel
theorem d_CN_carry_94 : decode c_CN_carry 94 = .ok (.iload_n 1, 1) := by decide +kernel
theorem d_CN_carry_95 : decode c_CN_carry 95 = .ok (.iconst 1, 1) := by decide +kernel
theorem d_CN_carry_96 : decode c_CN_carry 96 = .ok (.iadd, 1) := by decide +kernel
theorem d_CN_carry_97 : decode c_CN_carry 97 = .ok (.iload_n 2, 1) := by decide +kernel
theorem d_CN_carry_98 : decode c_CN_carry 98 = .ok (.ifCond .ne 7, 3) := by decide +kernel
theorem d_CN_carry_101 : decode c_CN_carry 101 = .ok (.iconst 1, 1) := by decide +kernel
theorem d_CN_carry_102 : decode c_CN_carry 102 = .ok (.goto 4, 3) := by decide +kernel
theorem d_CN_carry_105 : decode c_CN_carry 105 = .ok (.iconst 0, 1) := by decide +kernel
theorem d_CN_carry_106 : decode c_CN_carry 106 = .ok (.iload_n 3, 1) := by decide +kernel
theorem d_CN_carry_107 : decode c_CN_carry 107 = .ok (.iconst 1, 1) := by decide +kernel
theorem d_CN_carry_108 : decode c_CN_carry 108 = .ok (.iadd, 1) := by decide +kernel
theorem d_CN_carry_109 : decode c_CN_carry 109 = .ok (.aload 4, 2) := by decide +kernel
theorem d_CN_carry_111 : decode c_CN_carry 111 = .ok (.aload 5, 2) := by decide +kernel
theorem d_CN_carry_113 : decode c_CN_carry 113 = .ok (.invokevirtual 55, 3) := by decide +kernel
theorem d_CN_carry_116 : decode c_CN_carry 116 = .ok (.goto 73, 3) := by decide +kernel
theorem d_CN_carry_119 : decode c_CN_carry 119 = .ok (.aload_n 0, 1) := by decide +kernel
theorem d_CN_carry_120 : decode c_CN_carry 120 = .ok (.iload_n 1, 1) := by decide +kernel
theorem d_CN_carry_121 : decode c_CN_carry 121 = .ok (.iload_n 2, 1) := by decide +kernel
theorem d_CN_carry_122 : decode c_CN_carry 122 = .ok (.iload_n 3, 1) := by decide +kernel
theorem d_CN_carry_123 : decode c_CN_carry 123 = .ok (.aload 4, 2) := by decide +kernel
theorem d_CN_carry_125 : decode c_CN_carry 125 = .ok (.aload 5, 2) := by decide +kernel
theorem d_CN_carry_127 : decode c_CN_carry 127 = .ok (.invokevirtual 75, 3) := by decide +kernel
theorem d_CN_carry_130 : decode c_CN_carry 130 = .ok (.goto 59, 3) := by decide +kernel
theorem d_CN_carry_133 : decode c_CN_carry 133 = .ok (.aload_n 0, 1) := by decide +kernel
theorem d_CN_carry_134 : decode c_CN_carry 134 = .ok (.iload_n 1, 1) := by decide +kernel
theorem d_CN_carry_135 : decode c_CN_carry 135 = .ok (.iconst 1, 1) := by decide +kernel
theorem d_CN_carry_136 : decode c_CN_carry 136 = .ok (.iadd, 1) := by decide +kernel
theorem d_CN_carry_137 : decode c_CN_carry 137 = .ok (.iload_n 2, 1) := by decide +kernel
theorem d_CN_carry_138 : decode c_CN_carry 138 = .ok (.iload_n 3, 1) := by decide +kernel
theorem d_CN_carry_139 : decode c_CN_carry 139 = .ok (.iconst 1, 1) := by decide +kernel
theorem d_CN_carry_140 : decode c_CN_carry 140 = .ok (.iadd, 1) := by decide +kernel
theorem d_CN_carry_141 : decode c_CN_carry 141 = .ok (.aload 4, 2) := by decide +kernel
theorem d_CN_carry_143 : decode c_CN_carry 143 = .ok (.aload 5, 2) := by decide +kernel
theorem d_CN_carry_145 : decode c_CN_carry 145 = .ok (.invokevirtual 55, 3) := by decide +kernel
theorem d_CN_carry_148 : decode c_CN_carry 148 = .ok (.aload_n 0, 1) := by decide +kernel
theorem d_CN_carry_149 : decode c_CN_carry 149 = .ok (.aload_n 0, 1) := by decide +kernel
theorem d_CN_carry_150 : decode c_CN_carry 150 = .ok (.getfield 31, 3) := by decide +kernel
theorem d_CN_carry_153 : decode c_CN_carry 153 = .ok (.getfield 78, 3) := by decide +kernel
theorem d_CN_carry_156 : decode c_CN_carry 156 = .ok (.iload_n 1, 1) := by decide +kernel
theorem d_CN_carry_157 : decode c_CN_carry 157 = .ok (.iaload, 1) := by decide +kernel
theorem d_CN_carry_158 : decode c_CN_carry 158 = .ok (.iload_n 2, 1) := by decide +kernel
theorem d_CN_carry_159 : decode c_CN_carry 159 = .ok (.iload_n 3, 1) := by decide +kernel
theorem d_CN_carry_160 : decode c_CN_carry 160 = .ok (.iconst 1, 1) := by decide +kernel
theorem d_CN_carry_161 : decode c_CN_carry 161 = .ok (.iadd, 1) := by decide +kernel
theorem d_CN_carry_162 : decode c_CN_carry 162 = .ok (.aload 4, 2) := by decide +kernel
theorem d_CN_carry_164 : decode c_CN_carry 164 = .ok (.aload 5, 2) := by decide +kernel
theorem d_CN_carry_166 : decode c_CN_carry 166 = .ok (.invokevirtual 55, 3) := by decide +kernel
theorem d_CN_carry_169 : decode c_CN_carry 169 = .ok (.goto 20, 3) := by decide +kernel
theorem d_CN_carry_172 : decode c_CN_carry 172 = .ok (.aload_n 0, 1) := by decide +kernel
theorem d_CN_carry_173 : decode c_CN_carry 173 = .ok (.getfield 35, 3) := by decide +kernel
theorem d_CN_carry_176 : decode c_CN_carry 176 = .ok (.getfield 81, 3) := by decide +kernel
theorem d_CN_carry_179 : decode c_CN_carry 179 = .ok (.iload_n 1, 1) := by decide +kernel
theorem d_CN_carry_180 : decode c_CN_carry 180 = .ok (.aaload, 1) := by decide +kernel
theorem d_CN_carry_181 : decode c_CN_carry 181 = .ok (.iload_n 2, 1) := by decide +kernel
theorem d_CN_carry_182 : decode c_CN_carry 182 = .ok (.aload 4, 2) := by decide +kernel
theorem d_CN_carry_184 : decode c_CN_carry 184 = .ok (.aload 5, 2) := by decide +kernel
theorem d_CN_carry_186 : decode c_CN_carry 186 = .ok (.invokestatic 84, 3) := by decide +kernel
theorem d_CN_carry_189 : decode c_CN_carry 189 = .ok (.return_, 1) := by decide +kernel
theorem d_CN_carryOverEdges_0 : decode c_CN_carryOverEdges 0 = .ok (.iconst 0, 1) := by decide +kernel
theorem d_CN_carryOverEdges_1 : decode c_CN_carryOverEdges 1 = .ok (.istore 5, 2) := by decide +kernel
theorem d_CN_carryOverEdges_3 : decode c_CN_carryOverEdges 3 = .ok (.iload 5, 2) := by decide +kernel
theorem d_CN_carryOverEdges_5 : decode c_CN_carryOverEdges 5 = .ok (.bipush 8, 2) := by decide +kernel
theorem d_CN_carryOverEdges_7 : decode c_CN_carryOverEdges 7 = .ok (.if_icmp .ge 36, 3) := by decide +kernel
theorem d_CN_carryOverEdges_10 : decode c_CN_carryOverEdges 10 = .ok (.iload_n 1, 1) := by decide +kernel
theorem d_CN_carryOverEdges_11 : decode c_CN_carryOverEdges 11 = .ok (.i2l, 1) := by decide +kernel
theorem d_CN_carryOverEdges_12 : decode c_CN_carryOverEdges 12 = .ok (.iload 5, 2) := by decide +kernel
theorem d_CN_carryOverEdges_14 : decode c_CN_carryOverEdges 14 = .ok (.invokestatic 88, 3) := by decide +kernel
theorem d_CN_carryOverEdges_17 : decode c_CN_carryOverEdges 17 = .ok (.ifCond .eq 20, 3) := by decide +kernel
theorem d_CN_carryOverEdges_20 : decode c_CN_carryOverEdges 20 = .ok (.aload_n 0, 1) := by decide +kernel
theorem d_CN_carryOverEdges_21 : decode c_CN_carryOverEdges 21 = .ok (.getfield 27, 3) := by decide +kernel
theorem d_CN_carryOverEdges_24 : decode c_CN_carryOverEdges 24 = .ok (.getfield 92, 3) := by decide +kernel
theorem d_CN_carryOverEdges_27 : decode c_CN_carryOverEdges 27 = .ok (.iload 5, 2) := by decide +kernel
theorem d_CN_carryOverEdges_29 : decode c_CN_carryOverEdges 29 = .ok (.aaload, 1) := by decide +kernel
theorem d_CN_carryOverEdges_30 : decode c_CN_carryOverEdges 30 = .ok (.iload_n 2, 1) := by decide +kernel
theorem d_CN_carryOverEdges_31 : decode c_CN_carryOverEdges 31 = .ok (.aload_n 3, 1) := by decide +kernel
theorem d_CN_carryOverEdges_32 : decode c_CN_carryOverEdges 32 = .ok (.aload 4, 2) := by decide +kernel
theorem d_CN_carryOverEdges_34 : decode c_CN_carryOverEdges 34 = .ok (.invokestatic 84, 3) := by decide +kernel
theorem d_CN_carryOverEdges_37 : decode c_CN_carryOverEdges 37 = .ok (.iinc 5 1, 3) := by decide +kernel
theorem d_CN_carryOverEdges_40 : decode c_CN_carryOverEdges 40 = .ok (.goto (-37), 3) := by decide +kernel
theorem d_CN_carryOverEdges_43 : decode c_CN_carryOverEdges 43 = .ok (.return_, 1) := by decide +kernel
theorem d_CN_carryOver_0 : decode c_CN_carryOver 0 = .ok (.iconst 0, 1) := by decide +kernel
theorem d_CN_carryOver_1 : decode c_CN_carryOver 1 = .ok (.istore 4, 2) := by decide +kernel
theorem d_CN_carryOver_3 : decode c_CN_carryOver 3 = .ok (.iload 4, 2) := by decide +kernel
theorem d_CN_carryOver_5 : decode c_CN_carryOver 5 = .ok (.bipush 64, 2) := by decide +kernel
theorem d_CN_carryOver_7 : decode c_CN_carryOver 7 = .ok (.if_icmp .ge 56, 3) := by decide +kernel
theorem d_CN_carryOver_10 : decode c_CN_carryOver 10 = .ok (.iload_n 1, 1) := by decide +kernel
theorem d_CN_carryOver_11 : decode c_CN_carryOver 11 = .ok (.ifCond .eq 25, 3) := by decide +kernel
theorem d_CN_carryOver_14 : decode c_CN_carryOver 14 = .ok (.aload_n 3, 1) := by decide +kernel
theorem d_CN_carryOver_15 : decode c_CN_carryOver 15 = .ok (.iload 4, 2) := by decide +kernel
theorem d_CN_carryOver_17 : decode c_CN_carryOver 17 = .ok (.aload_n 3, 1) := by decide +kernel
theorem d_CN_carryOver_18 : decode c_CN_carryOver 18 = .ok (.iload 4, 2) := by decide +kernel
theorem d_CN_carryOver_20 : decode c_CN_carryOver 20 = .ok (.laload, 1) := by decide +kernel
theorem d_CN_carryOver_21 : decode c_CN_carryOver 21 = .ok (.aload_n 0, 1) := by decide +kernel
theorem d_CN_carryOver_22 : decode c_CN_carryOver 22 = .ok (.iload 4, 2) := by decide +kernel
theorem d_CN_carryOver_24 : decode c_CN_carryOver 24 = .ok (.laload, 1) := by decide +kernel
theorem d_CN_carryOver_25 : decode c_CN_carryOver 25 = .ok (.aload_n 2, 1) := by decide +kernel
theorem d_CN_carryOver_26 : decode c_CN_carryOver 26 = .ok (.invokestatic 97, 3) := by decide +kernel
theorem d_CN_carryOver_29 : decode c_CN_carryOver 29 = .ok (.invokestatic 101, 3) := by decide +kernel
theorem d_CN_carryOver_32 : decode c_CN_carryOver 32 = .ok (.lastore, 1) := by decide +kernel
theorem d_CN_carryOver_33 : decode c_CN_carryOver 33 = .ok (.goto 24, 3) := by decide +kernel
theorem d_CN_carryOver_36 : decode c_CN_carryOver 36 = .ok (.aload_n 2, 1) := by decide +kernel
theorem d_CN_carryOver_37 : decode c_CN_carryOver 37 = .ok (.iload 4, 2) := by decide +kernel
theorem d_CN_carryOver_39 : decode c_CN_carryOver 39 = .ok (.laload, 1) := by decide +kernel
theorem d_CN_carryOver_40 : decode c_CN_carryOver 40 = .ok (.lconst 0, 1) := by decide +kernel
theorem d_CN_carryOver_41 : decode c_CN_carryOver 41 = .ok (.lcmp, 1) := by decide +kernel
theorem d_CN_carryOver_42 : decode c_CN_carryOver 42 = .ok (.ifCond .eq 15, 3) := by decide +kernel
theorem d_CN_carryOver_45 : decode c_CN_carryOver 45 = .ok (.aload_n 0, 1) := by decide +kernel
theorem d_CN_carryOver_46 : decode c_CN_carryOver 46 = .ok (.iload 4, 2) := by decide +kernel
theorem d_CN_carryOver_48 : decode c_CN_carryOver 48 = .ok (.laload, 1) := by decide +kernel
theorem d_CN_carryOver_49 : decode c_CN_carryOver 49 = .ok (.aload_n 2, 1) := by decide +kernel
theorem d_CN_carryOver_50 : decode c_CN_carryOver 50 = .ok (.iload 4, 2) := by decide +kernel
theorem d_CN_carryOver_52 : decode c_CN_carryOver 52 = .ok (.laload, 1) := by decide +kernel
theorem d_CN_carryOver_53 : decode c_CN_carryOver 53 = .ok (.aload_n 3, 1) := by decide +kernel
theorem d_CN_carryOver_54 : decode c_CN_carryOver 54 = .ok (.invokestatic 105, 3) := by decide +kernel
theorem d_CN_carryOver_57 : decode c_CN_carryOver 57 = .ok (.iinc 4 1, 3) := by decide +kernel
theorem d_CN_carryOver_60 : decode c_CN_carryOver 60 = .ok (.goto (-57), 3) := by decide +kernel
theorem d_CN_carryOver_63 : decode c_CN_carryOver 63 = .ok (.return_, 1) := by decide +kernel
theorem d_CN_gather_0 : decode c_CN_gather 0 = .ok (.lconst 0, 1) := by decide +kernel
theorem d_CN_gather_1 : decode c_CN_gather 1 = .ok (.lstore_n 3, 1) := by decide +kernel
theorem d_CN_gather_2 : decode c_CN_gather 2 = .ok (.lload_n 0, 1) := by decide +kernel
theorem d_CN_gather_3 : decode c_CN_gather 3 = .ok (.lstore 5, 2) := by decide +kernel
theorem d_CN_gather_5 : decode c_CN_gather 5 = .ok (.iconst 0, 1) := by decide +kernel
theorem d_CN_gather_6 : decode c_CN_gather 6 = .ok (.istore 7, 2) := by decide +kernel
theorem d_CN_gather_8 : decode c_CN_gather 8 = .ok (.iload 7, 2) := by decide +kernel
theorem d_CN_gather_10 : decode c_CN_gather 10 = .ok (.bipush 64, 2) := by decide +kernel
theorem d_CN_gather_12 : decode c_CN_gather 12 = .ok (.if_icmp .ge 37, 3) := by decide +kernel
theorem d_CN_gather_15 : decode c_CN_gather 15 = .ok (.lload 5, 2) := by decide +kernel
theorem d_CN_gather_17 : decode c_CN_gather 17 = .ok (.lconst 0, 1) := by decide +kernel
theorem d_CN_gather_18 : decode c_CN_gather 18 = .ok (.lcmp, 1) := by decide +kernel
theorem d_CN_gather_19 : decode c_CN_gather 19 = .ok (.ifCond .eq 30, 3) := by decide +kernel
theorem d_CN_gather_22 : decode c_CN_gather 22 = .ok (.lload_n 3, 1) := by decide +kernel
theorem d_CN_gather_23 : decode c_CN_gather 23 = .ok (.aload_n 2, 1) := by decide +kernel
theorem d_CN_gather_24 : decode c_CN_gather 24 = .ok (.lload 5, 2) := by decide +kernel
theorem d_CN_gather_26 : decode c_CN_gather 26 = .ok (.invokestatic 109, 3) := by decide +kernel
theorem d_CN_gather_29 : decode c_CN_gather 29 = .ok (.laload, 1) := by decide +kernel
theorem d_CN_gather_30 : decode c_CN_gather 30 = .ok (.invokestatic 101, 3) := by decide +kernel
theorem d_CN_gather_33 : decode c_CN_gather 33 = .ok (.lstore_n 3, 1) := by decide +kernel
theorem d_CN_gather_34 : decode c_CN_gather 34 = .ok (.lload 5, 2) := by decide +kernel
theorem d_CN_gather_36 : decode c_CN_gather 36 = .ok (.lload 5, 2) := by decide +kernel
theorem d_CN_gather_38 : decode c_CN_gather 38 = .ok (.lconst 1, 1) := by decide +kernel
theorem d_CN_gather_39 : decode c_CN_gather 39 = .ok (.lsub, 1) := by decide +kernel
theorem d_CN_gather_40 : decode c_CN_gather 40 = .ok (.land, 1) := by decide +kernel
theorem d_CN_gather_41 : decode c_CN_gather 41 = .ok (.lstore 5, 2) := by decide +kernel
theorem d_CN_gather_43 : decode c_CN_gather 43 = .ok (.iinc 7 1, 3) := by decide +kernel
theorem d_CN_gather_46 : decode c_CN_gather 46 = .ok (.goto (-38), 3) := by decide +kernel
theorem d_CN_gather_49 : decode c_CN_gather 49 = .ok (.lload_n 3, 1) := by decide +kernel
theorem d_CN_gather_50 : decode c_CN_gather 50 = .ok (.lreturn, 1) := by decide +kernel
theorem d_CN_spread_0 : decode c_CN_spread 0 = .ok (.lload_n 0, 1) := by decide +kernel
theorem d_CN_spread_1 : decode c_CN_spread 1 = .ok (.lstore 5, 2) := by decide +kernel
theorem d_CN_spread_3 : decode c_CN_spread 3 = .ok (.iconst 0, 1) := by decide +kernel
theorem d_CN_spread_4 : decode c_CN_spread 4 = .ok (.istore 7, 2) := by decide +kernel
theorem d_CN_spread_6 : decode c_CN_spread 6 = .ok (.iload 7, 2) := by decide +kernel
theorem d_CN_spread_8 : decode c_CN_spread 8 = .ok (.bipush 64, 2) := by decide +kernel
theorem d_CN_spread_10 : decode c_CN_spread 10 = .ok (.if_icmp .ge 46, 3) := by decide +kernel
theorem d_CN_spread_13 : decode c_CN_spread 13 = .ok (.lload 5, 2) := by decide +kernel
theorem d_CN_spread_15 : decode c_CN_spread 15 = .ok (.lconst 0, 1) := by decide +kernel
theorem d_CN_spread_16 : decode c_CN_spread 16 = .ok (.lcmp, 1) := by decide +kernel
theorem d_CN_spread_17 : decode c_CN_spread 17 = .ok (.ifCond .eq 39, 3) := by decide +kernel
theorem d_CN_spread_20 : decode c_CN_spread 20 = .ok (.lload 5, 2) := by decide +kernel
theorem d_CN_spread_22 : decode c_CN_spread 22 = .ok (.invokestatic 109, 3) := by decide +kernel
theorem d_CN_spread_25 : decode c_CN_spread 25 = .ok (.istore 8, 2) := by decide +kernel
theorem d_CN_spread_27 : decode c_CN_spread 27 = .ok (.aload 4, 2) := by decide +kernel
theorem d_CN_spread_29 : decode c_CN_spread 29 = .ok (.iload 8, 2) := by decide +kernel
theorem d_CN_spread_31 : decode c_CN_spread 31 = .ok (.aload 4, 2) := by decide +kernel
theorem d_CN_spread_33 : decode c_CN_spread 33 = .ok (.iload 8, 2) := by decide +kernel
theorem d_CN_spread_35 : decode c_CN_spread 35 = .ok (.laload, 1) := by decide +kernel
theorem d_CN_spread_36 : decode c_CN_spread 36 = .ok (.lload_n 2, 1) := by decide +kernel
theorem d_CN_spread_37 : decode c_CN_spread 37 = .ok (.invokestatic 101, 3) := by decide +kernel
theorem d_CN_spread_40 : decode c_CN_spread 40 = .ok (.lastore, 1) := by decide +kernel
theorem d_CN_spread_41 : decode c_CN_spread 41 = .ok (.lload 5, 2) := by decide +kernel
theorem d_CN_spread_43 : decode c_CN_spread 43 = .ok (.lload 5, 2) := by decide +kernel
theorem d_CN_spread_45 : decode c_CN_spread 45 = .ok (.lconst 1, 1) := by decide +kernel
theorem d_CN_spread_46 : decode c_CN_spread 46 = .ok (.lsub, 1) := by decide +kernel
theorem d_CN_spread_47 : decode c_CN_spread 47 = .ok (.land, 1) := by decide +kernel
theorem d_CN_spread_48 : decode c_CN_spread 48 = .ok (.lstore 5, 2) := by decide +kernel
theorem d_CN_spread_50 : decode c_CN_spread 50 = .ok (.iinc 7 1, 3) := by decide +kernel
theorem d_CN_spread_53 : decode c_CN_spread 53 = .ok (.goto (-47), 3) := by decide +kernel
theorem d_CN_spread_56 : decode c_CN_spread 56 = .ok (.return_, 1) := by decide +kernel
theorem d_CN_carryOverBoth_0 : decode c_CN_carryOverBoth 0 = .ok (.iload_n 1, 1) := by decide +kernel
theorem d_CN_carryOverBoth_1 : decode c_CN_carryOverBoth 1 = .ok (.iconst 1, 1) := by decide +kernel
theorem d_CN_carryOverBoth_2 : decode c_CN_carryOverBoth 2 = .ok (.iadd, 1) := by decide +kernel
theorem d_CN_carryOverBoth_3 : decode c_CN_carryOverBoth 3 = .ok (.istore 6, 2) := by decide +kernel
theorem d_CN_carryOverBoth_5 : decode c_CN_carryOverBoth 5 = .ok (.aload_n 0, 1) := by decide +kernel
theorem d_CN_carryOverBoth_6 : decode c_CN_carryOverBoth 6 = .ok (.getfield 31, 3) := by decide +kernel
theorem d_CN_carryOverBoth_9 : decode c_CN_carryOverBoth 9 = .ok (.getfield 78, 3) := by decide +kernel
theorem d_CN_carryOverBoth_12 : decode c_CN_carryOverBoth 12 = .ok (.iload_n 1, 1) := by decide +kernel
theorem d_CN_carryOverBoth_13 : decode c_CN_carryOverBoth 13 = .ok (.iaload, 1) := by decide +kernel
theorem d_CN_carryOverBoth_14 : decode c_CN_carryOverBoth 14 = .ok (.istore 7, 2) := by decide +kernel
theorem d_CN_carryOverBoth_16 : decode c_CN_carryOverBoth 16 = .ok (.aload_n 0, 1) := by decide +kernel
theorem d_CN_carryOverBoth_17 : decode c_CN_carryOverBoth 17 = .ok (.getfield 20, 3) := by decide +kernel
theorem d_CN_carryOverBoth_20 : decode c_CN_carryOverBoth 20 = .ok (.iload_n 3, 1) := by decide +kernel
theorem d_CN_carryOverBoth_21 : decode c_CN_carryOverBoth 21 = .ok (.aaload, 1) := by decide +kernel
theorem d_CN_carryOverBoth_22 : decode c_CN_carryOverBoth 22 = .ok (.astore 8, 2) := by decide +kernel
theorem d_CN_carryOverBoth_24 : decode c_CN_carryOverBoth 24 = .ok (.aload 8, 2) := by decide +kernel
theorem d_CN_carryOverBoth_26 : decode c_CN_carryOverBoth 26 = .ok (.lconst 0, 1) := by decide +kernel
theorem d_CN_carryOverBoth_27 : decode c_CN_carryOverBoth 27 = .ok (.invokestatic 49, 3) := by decide +kernel
theorem d_CN_carryOverBoth_30 : decode c_CN_carryOverBoth 30 = .ok (.aload_n 0, 1) := by decide +kernel
theorem d_CN_carryOverBoth_31 : decode c_CN_carryOverBoth 31 = .ok (.iload_n 2, 1) := by decide +kernel
theorem d_CN_carryOverBoth_32 : decode c_CN_carryOverBoth 32 = .ok (.ifCond .eq 8, 3) := by decide +kernel
theorem d_CN_carryOverBoth_35 : decode c_CN_carryOverBoth 35 = .ok (.iload 7, 2) := by decide +kernel
theorem d_CN_carryOverBoth_37 : decode c_CN_carryOverBoth 37 = .ok (.goto 5, 3) := by decide +kernel
theorem d_CN_carryOverBoth_40 : decode c_CN_carryOverBoth 40 = .ok (.iload 6, 2) := by decide +kernel
theorem d_CN_carryOverBoth_42 : decode c_CN_carryOverBoth 42 = .ok (.iload_n 2, 1) := by decide +kernel
theorem d_CN_carryOverBoth_43 : decode c_CN_carryOverBoth 43 = .ok (.iload_n 3, 1) := by decide +kernel
theorem d_CN_carryOverBoth_44 : decode c_CN_carryOverBoth 44 = .ok (.iconst 1, 1) := by decide +kernel
theorem d_CN_carryOverBoth_45 : decode c_CN_carryOverBoth 45 = .ok (.iadd, 1) := by decide +kernel
theorem d_CN_carryOverBoth_46 : decode c_CN_carryOverBoth 46 = .ok (.aload 4, 2) := by decide +kernel
theorem d_CN_carryOverBoth_48 : decode c_CN_carryOverBoth 48 = .ok (.aload 8, 2) := by decide +kernel
theorem d_CN_carryOverBoth_50 : decode c_CN_carryOverBoth 50 = .ok (.invokevirtual 55, 3) := by decide +kernel
theorem d_CN_carryOverBoth_53 : decode c_CN_carryOverBoth 53 = .ok (.aload_n 0, 1) := by decide +kernel
theorem d_CN_carryOverBoth_54 : decode c_CN_carryOverBoth 54 = .ok (.iload_n 2, 1) := by decide +kernel
theorem d_CN_carryOverBoth_55 : decode c_CN_carryOverBoth 55 = .ok (.ifCond .eq 8, 3) := by decide +kernel
theorem d_CN_carryOverBoth_58 : decode c_CN_carryOverBoth 58 = .ok (.iload 6, 2) := by decide +kernel
theorem d_CN_carryOverBoth_60 : decode c_CN_carryOverBoth 60 = .ok (.goto 5, 3) := by decide +kernel
theorem d_CN_carryOverBoth_63 : decode c_CN_carryOverBoth 63 = .ok (.iload 7, 2) := by decide +kernel
theorem d_CN_carryOverBoth_65 : decode c_CN_carryOverBoth 65 = .ok (.iload_n 2, 1) := by decide +kernel
theorem d_CN_carryOverBoth_66 : decode c_CN_carryOverBoth 66 = .ok (.iload_n 3, 1) := by decide +kernel
theorem d_CN_carryOverBoth_67 : decode c_CN_carryOverBoth 67 = .ok (.iconst 1, 1) := by decide +kernel
theorem d_CN_carryOverBoth_68 : decode c_CN_carryOverBoth 68 = .ok (.iadd, 1) := by decide +kernel
theorem d_CN_carryOverBoth_69 : decode c_CN_carryOverBoth 69 = .ok (.aload 8, 2) := by decide +kernel
theorem d_CN_carryOverBoth_71 : decode c_CN_carryOverBoth 71 = .ok (.aload 5, 2) := by decide +kernel
theorem d_CN_carryOverBoth_73 : decode c_CN_carryOverBoth 73 = .ok (.invokevirtual 55, 3) := by decide +kernel
theorem d_CN_carryOverBoth_76 : decode c_CN_carryOverBoth 76 = .ok (.return_, 1) := by decide +kernel
end
section
/-! DECODE ROWS -/
theorem d_GR_init_0 : decode c_GR_init 0 = .ok (.aload_n 0, 1) := by decide +kernel
theorem d_GR_init_1 : decode c_GR_init 1 = .ok (.invokespecial 3, 3) := by decide +kernel
theorem d_GR_init_4 : decode c_GR_init 4 = .ok (.aload_n 0, 1) := by decide +kernel
theorem d_GR_init_5 : decode c_GR_init 5 = .ok (.bipush 8, 2) := by decide +kernel
theorem d_GR_init_7 : decode c_GR_init 7 = .ok (.bipush 64, 2) := by decide +kernel
theorem d_GR_init_9 : decode c_GR_init 9 = .ok (.multianewarray 9 2, 4) := by decide +kernel
theorem d_GR_init_13 : decode c_GR_init 13 = .ok (.putfield 11, 3) := by decide +kernel
theorem d_GR_init_16 : decode c_GR_init 16 = .ok (.return_, 1) := by decide +kernel
theorem d_GR_put_0 : decode c_GR_put 0 = .ok (.iload_n 1, 1) := by decide +kernel
theorem d_GR_put_1 : decode c_GR_put 1 = .ok (.iload_n 2, 1) := by decide +kernel
theorem d_GR_put_2 : decode c_GR_put 2 = .ok (.iload_n 3, 1) := by decide +kernel
theorem d_GR_put_3 : decode c_GR_put 3 = .ok (.invokestatic 16, 3) := by decide +kernel
theorem d_GR_put_6 : decode c_GR_put 6 = .ok (.ifCond .ne 5, 3) := by decide +kernel
theorem d_GR_put_9 : decode c_GR_put 9 = .ok (.iconst (-1), 1) := by decide +kernel
theorem d_GR_put_10 : decode c_GR_put 10 = .ok (.ireturn, 1) := by decide +kernel
theorem d_GR_put_11 : decode c_GR_put 11 = .ok (.aload_n 0, 1) := by decide +kernel
theorem d_GR_put_12 : decode c_GR_put 12 = .ok (.getfield 11, 3) := by decide +kernel
theorem d_GR_put_15 : decode c_GR_put 15 = .ok (.iload_n 2, 1) := by decide +kernel
theorem d_GR_put_16 : decode c_GR_put 16 = .ok (.aaload, 1) := by decide +kernel
theorem d_GR_put_17 : decode c_GR_put 17 = .ok (.iload_n 1, 1) := by decide +kernel
theorem d_GR_put_18 : decode c_GR_put 18 = .ok (.laload, 1) := by decide +kernel
theorem d_GR_put_19 : decode c_GR_put 19 = .ok (.iload_n 3, 1) := by decide +kernel
theorem d_GR_put_20 : decode c_GR_put 20 = .ok (.invokestatic 20, 3) := by decide +kernel
theorem d_GR_put_23 : decode c_GR_put 23 = .ok (.ifCond .eq 5, 3) := by decide +kernel
theorem d_GR_put_26 : decode c_GR_put 26 = .ok (.iconst 0, 1) := by decide +kernel
theorem d_GR_put_27 : decode c_GR_put 27 = .ok (.ireturn, 1) := by decide +kernel
theorem d_GR_put_28 : decode c_GR_put 28 = .ok (.aload_n 0, 1) := by decide +kernel
theorem d_GR_put_29 : decode c_GR_put 29 = .ok (.getfield 11, 3) := by decide +kernel
theorem d_GR_put_32 : decode c_GR_put 32 = .ok (.iload_n 2, 1) := by decide +kernel
theorem d_GR_put_33 : decode c_GR_put 33 = .ok (.aaload, 1) := by decide +kernel
theorem d_GR_put_34 : decode c_GR_put 34 = .ok (.iload_n 1, 1) := by decide +kernel
theorem d_GR_put_35 : decode c_GR_put 35 = .ok (.dup2, 1) := by decide +kernel
theorem d_GR_put_36 : decode c_GR_put 36 = .ok (.laload, 1) := by decide +kernel
theorem d_GR_put_37 : decode c_GR_put 37 = .ok (.iload_n 3, 1) := by decide +kernel
theorem d_GR_put_38 : decode c_GR_put 38 = .ok (.invokestatic 24, 3) := by decide +kernel
theorem d_GR_put_41 : decode c_GR_put 41 = .ok (.lor, 1) := by decide +kernel
theorem d_GR_put_42 : decode c_GR_put 42 = .ok (.lastore, 1) := by decide +kernel
theorem d_GR_put_43 : decode c_GR_put 43 = .ok (.aload_n 0, 1) := by decide +kernel
theorem d_GR_put_44 : decode c_GR_put 44 = .ok (.dup, 1) := by decide +kernel
theorem d_GR_put_45 : decode c_GR_put 45 = .ok (.getfield 28, 3) := by decide +kernel
theorem d_GR_put_48 : decode c_GR_put 48 = .ok (.iconst 1, 1) := by decide +kernel
theorem d_GR_put_49 : decode c_GR_put 49 = .ok (.iadd, 1) := by decide +kernel
theorem d_GR_put_50 : decode c_GR_put 50 = .ok (.putfield 28, 3) := by decide +kernel
theorem d_GR_put_53 : decode c_GR_put 53 = .ok (.iconst 1, 1) := by decide +kernel
theorem d_GR_put_54 : decode c_GR_put 54 = .ok (.ireturn, 1) := by decide +kernel
theorem d_GR_isEdge_0 : decode c_GR_isEdge 0 = .ok (.iload_n 0, 1) := by decide +kernel
theorem d_GR_isEdge_1 : decode c_GR_isEdge 1 = .ok (.invokestatic 34, 3) := by decide +kernel
theorem d_GR_isEdge_4 : decode c_GR_isEdge 4 = .ok (.ifCond .eq 21, 3) := by decide +kernel
theorem d_GR_isEdge_7 : decode c_GR_isEdge 7 = .ok (.iload_n 1, 1) := by decide +kernel
theorem d_GR_isEdge_8 : decode c_GR_isEdge 8 = .ok (.invokestatic 38, 3) := by decide +kernel
theorem d_GR_isEdge_11 : decode c_GR_isEdge 11 = .ok (.ifCond .eq 14, 3) := by decide +kernel
theorem d_GR_isEdge_14 : decode c_GR_isEdge 14 = .ok (.iload_n 2, 1) := by decide +kernel
theorem d_GR_isEdge_15 : decode c_GR_isEdge 15 = .ok (.invokestatic 34, 3) := by decide +kernel
theorem d_GR_isEdge_18 : decode c_GR_isEdge 18 = .ok (.ifCond .eq 7, 3) := by decide +kernel
theorem d_GR_isEdge_21 : decode c_GR_isEdge 21 = .ok (.iconst 1, 1) := by decide +kernel
theorem d_GR_isEdge_22 : decode c_GR_isEdge 22 = .ok (.goto 4, 3) := by decide +kernel
theorem d_GR_isEdge_25 : decode c_GR_isEdge 25 = .ok (.iconst 0, 1) := by decide +kernel
theorem d_GR_isEdge_26 : decode c_GR_isEdge 26 = .ok (.ireturn, 1) := by decide +kernel
theorem d_GR_remove_0 : decode c_GR_remove 0 = .ok (.iload_n 1, 1) := by decide +kernel
theorem d_GR_remove_1 : decode c_GR_remove 1 = .ok (.iload_n 2, 1) := by decide +kernel
theorem d_GR_remove_2 : decode c_GR_remove 2 = .ok (.iload_n 3, 1) := by decide +kernel
theorem d_GR_remove_3 : decode c_GR_remove 3 = .ok (.invokestatic 16, 3) := by decide +kernel
theorem d_GR_remove_6 : decode c_GR_remove 6 = .ok (.ifCond .ne 5, 3) := by decide +kernel
theorem d_GR_remove_9 : decode c_GR_remove 9 = .ok (.iconst (-1), 1) := by decide +kernel
theorem d_GR_remove_10 : decode c_GR_remove 10 = .ok (.ireturn, 1) := by decide +kernel
theorem d_GR_remove_11 : decode c_GR_remove 11 = .ok (.aload_n 0, 1) := by decide +kernel
theorem d_GR_remove_12 : decode c_GR_remove 12 = .ok (.getfield 11, 3) := by decide +kernel
theorem d_GR_remove_15 : decode c_GR_remove 15 = .ok (.iload_n 2, 1) := by decide +kernel
theorem d_GR_remove_16 : decode c_GR_remove 16 = .ok (.aaload, 1) := by decide +kernel
theorem d_GR_remove_17 : decode c_GR_remove 17 = .ok (.iload_n 1, 1) := by decide +kernel
theorem d_GR_remove_18 : decode c_GR_remove 18 = .ok (.laload, 1) := by decide +kernel
theorem d_GR_remove_19 : decode c_GR_remove 19 = .ok (.iload_n 3, 1) := by decide +kernel
theorem d_GR_remove_20 : decode c_GR_remove 20 = .ok (.invokestatic 20, 3) := by decide +kernel
theorem d_GR_remove_23 : decode c_GR_remove 23 = .ok (.ifCond .ne 5, 3) := by decide +kernel
theorem d_GR_remove_26 : decode c_GR_remove 26 = .ok (.iconst 0, 1) := by decide +kernel
theorem d_GR_remove_27 : decode c_GR_remove 27 = .ok (.ireturn, 1) := by decide +kernel
theorem d_GR_remove_28 : decode c_GR_remove 28 = .ok (.aload_n 0, 1) := by decide +kernel
theorem d_GR_remove_29 : decode c_GR_remove 29 = .ok (.getfield 11, 3) := by decide +kernel
theorem d_GR_remove_32 : decode c_GR_remove 32 = .ok (.iload_n 2, 1) := by decide +kernel
theorem d_GR_remove_33 : decode c_GR_remove 33 = .ok (.aaload, 1) := by decide +kernel
theorem d_GR_remove_34 : decode c_GR_remove 34 = .ok (.iload_n 1, 1) := by decide +kernel
theorem d_GR_remove_35 : decode c_GR_remove 35 = .ok (.dup2, 1) := by decide +kernel
theorem d_GR_remove_36 : decode c_GR_remove 36 = .ok (.laload, 1) := by decide +kernel
theorem d_GR_remove_37 : decode c_GR_remove 37 = .ok (.iload_n 3, 1) := by decide +kernel
theorem d_GR_remove_38 : decode c_GR_remove 38 = .ok (.invokestatic 24, 3) := by decide +kernel
theorem d_GR_remove_41 : decode c_GR_remove 41 = .ok (.ldc2_w 32, 3) := by decide +kernel
theorem d_GR_remove_44 : decode c_GR_remove 44 = .ok (.lxor, 1) := by decide +kernel
theorem d_GR_remove_45 : decode c_GR_remove 45 = .ok (.land, 1) := by decide +kernel
theorem d_GR_remove_46 : decode c_GR_remove 46 = .ok (.lastore, 1) := by decide +kernel
theorem d_GR_remove_47 : decode c_GR_remove 47 = .ok (.aload_n 0, 1) := by decide +kernel
theorem d_GR_remove_48 : decode c_GR_remove 48 = .ok (.dup, 1) := by decide +kernel
theorem d_GR_remove_49 : decode c_GR_remove 49 = .ok (.getfield 28, 3) := by decide +kernel
theorem d_GR_remove_52 : decode c_GR_remove 52 = .ok (.iconst 1, 1) := by decide +kernel
theorem d_GR_remove_53 : decode c_GR_remove 53 = .ok (.isub, 1) := by decide +kernel
theorem d_GR_remove_54 : decode c_GR_remove 54 = .ok (.putfield 28, 3) := by decide +kernel
theorem d_GR_remove_57 : decode c_GR_remove 57 = .ok (.iconst 1, 1) := by decide +kernel
theorem d_GR_remove_58 : decode c_GR_remove 58 = .ok (.ireturn, 1) := by decide +kernel
end
section
/-! DECODE ROWS -/
theorem d_AR_fill_0 : decode c_AR_fill 0 = .ok (.iconst 0, 1) := by decide +kernel
theorem d_AR_fill_1 : decode c_AR_fill 1 = .ok (.istore_n 3, 1) := by decide +kernel
theorem d_AR_fill_2 : decode c_AR_fill 2 = .ok (.aload_n 0, 1) := by decide +kernel
theorem d_AR_fill_3 : decode c_AR_fill 3 = .ok (.arraylength, 1) := by decide +kernel
theorem d_AR_fill_4 : decode c_AR_fill 4 = .ok (.istore 4, 2) := by decide +kernel
theorem d_AR_fill_6 : decode c_AR_fill 6 = .ok (.iload_n 3, 1) := by decide +kernel
theorem d_AR_fill_7 : decode c_AR_fill 7 = .ok (.iload 4, 2) := by decide +kernel
theorem d_AR_fill_9 : decode c_AR_fill 9 = .ok (.if_icmp .ge 13, 3) := by decide +kernel
theorem d_AR_fill_12 : decode c_AR_fill 12 = .ok (.aload_n 0, 1) := by decide +kernel
theorem d_AR_fill_13 : decode c_AR_fill 13 = .ok (.iload_n 3, 1) := by decide +kernel
theorem d_AR_fill_14 : decode c_AR_fill 14 = .ok (.lload_n 1, 1) := by decide +kernel
theorem d_AR_fill_15 : decode c_AR_fill 15 = .ok (.lastore, 1) := by decide +kernel
theorem d_AR_fill_16 : decode c_AR_fill 16 = .ok (.iinc 3 1, 3) := by decide +kernel
theorem d_AR_fill_19 : decode c_AR_fill 19 = .ok (.goto (-13), 3) := by decide +kernel
theorem d_AR_fill_22 : decode c_AR_fill 22 = .ok (.return_, 1) := by decide +kernel
theorem d_LO_ntz_0 : decode c_LO_ntz 0 = .ok (.lload_n 0, 1) := by decide +kernel
theorem d_LO_ntz_1 : decode c_LO_ntz 1 = .ok (.l2i, 1) := by decide +kernel
theorem d_LO_ntz_2 : decode c_LO_ntz 2 = .ok (.istore_n 2, 1) := by decide +kernel
theorem d_LO_ntz_3 : decode c_LO_ntz 3 = .ok (.iload_n 2, 1) := by decide +kernel
theorem d_LO_ntz_4 : decode c_LO_ntz 4 = .ok (.ifCond .ne 17, 3) := by decide +kernel
theorem d_LO_ntz_7 : decode c_LO_ntz 7 = .ok (.bipush 32, 2) := by decide +kernel
theorem d_LO_ntz_9 : decode c_LO_ntz 9 = .ok (.lload_n 0, 1) := by decide +kernel
theorem d_LO_ntz_10 : decode c_LO_ntz 10 = .ok (.bipush 32, 2) := by decide +kernel
theorem d_LO_ntz_12 : decode c_LO_ntz 12 = .ok (.lushr, 1) := by decide +kernel
theorem d_LO_ntz_13 : decode c_LO_ntz 13 = .ok (.l2i, 1) := by decide +kernel
theorem d_LO_ntz_14 : decode c_LO_ntz 14 = .ok (.invokestatic 311, 3) := by decide +kernel
theorem d_LO_ntz_17 : decode c_LO_ntz 17 = .ok (.iadd, 1) := by decide +kernel
theorem d_LO_ntz_18 : decode c_LO_ntz 18 = .ok (.goto 7, 3) := by decide +kernel
theorem d_LO_ntz_21 : decode c_LO_ntz 21 = .ok (.iload_n 2, 1) := by decide +kernel
theorem d_LO_ntz_22 : decode c_LO_ntz 22 = .ok (.invokestatic 311, 3) := by decide +kernel
theorem d_LO_ntz_25 : decode c_LO_ntz 25 = .ok (.ireturn, 1) := by decide +kernel
theorem d_IN_ntz_0 : decode c_IN_ntz 0 = .ok (.iload_n 0, 1) := by decide +kernel
theorem d_IN_ntz_1 : decode c_IN_ntz 1 = .ok (.iconst (-1), 1) := by decide +kernel
theorem d_IN_ntz_2 : decode c_IN_ntz 2 = .ok (.ixor, 1) := by decide +kernel
theorem d_IN_ntz_3 : decode c_IN_ntz 3 = .ok (.iload_n 0, 1) := by decide +kernel
theorem d_IN_ntz_4 : decode c_IN_ntz 4 = .ok (.iconst 1, 1) := by decide +kernel
theorem d_IN_ntz_5 : decode c_IN_ntz 5 = .ok (.isub, 1) := by decide +kernel
theorem d_IN_ntz_6 : decode c_IN_ntz 6 = .ok (.iand, 1) := by decide +kernel
theorem d_IN_ntz_7 : decode c_IN_ntz 7 = .ok (.istore_n 0, 1) := by decide +kernel
theorem d_IN_ntz_8 : decode c_IN_ntz 8 = .ok (.iload_n 0, 1) := by decide +kernel
theorem d_IN_ntz_9 : decode c_IN_ntz 9 = .ok (.ifCond .gt 8, 3) := by decide +kernel
theorem d_IN_ntz_12 : decode c_IN_ntz 12 = .ok (.iload_n 0, 1) := by decide +kernel
theorem d_IN_ntz_13 : decode c_IN_ntz 13 = .ok (.bipush 32, 2) := by decide +kernel
theorem d_IN_ntz_15 : decode c_IN_ntz 15 = .ok (.iand, 1) := by decide +kernel
theorem d_IN_ntz_16 : decode c_IN_ntz 16 = .ok (.ireturn, 1) := by decide +kernel
theorem d_IN_ntz_17 : decode c_IN_ntz 17 = .ok (.iconst 1, 1) := by decide +kernel
theorem d_IN_ntz_18 : decode c_IN_ntz 18 = .ok (.istore_n 1, 1) := by decide +kernel
theorem d_IN_ntz_19 : decode c_IN_ntz 19 = .ok (.iload_n 0, 1) := by decide +kernel
theorem d_IN_ntz_20 : decode c_IN_ntz 20 = .ok (.ldc_w 264, 3) := by decide +kernel
theorem d_IN_ntz_23 : decode c_IN_ntz 23 = .ok (.if_icmp .le 11, 3) := by decide +kernel
theorem d_IN_ntz_26 : decode c_IN_ntz 26 = .ok (.iinc 1 16, 3) := by decide +kernel
theorem d_IN_ntz_29 : decode c_IN_ntz 29 = .ok (.iload_n 0, 1) := by decide +kernel
theorem d_IN_ntz_30 : decode c_IN_ntz 30 = .ok (.bipush 16, 2) := by decide +kernel
theorem d_IN_ntz_32 : decode c_IN_ntz 32 = .ok (.iushr, 1) := by decide +kernel
theorem d_IN_ntz_33 : decode c_IN_ntz 33 = .ok (.istore_n 0, 1) := by decide +kernel
theorem d_IN_ntz_34 : decode c_IN_ntz 34 = .ok (.iload_n 0, 1) := by decide +kernel
theorem d_IN_ntz_35 : decode c_IN_ntz 35 = .ok (.sipush 256, 3) := by decide +kernel
theorem d_IN_ntz_38 : decode c_IN_ntz 38 = .ok (.if_icmp .le 11, 3) := by decide +kernel
theorem d_IN_ntz_41 : decode c_IN_ntz 41 = .ok (.iinc 1 8, 3) := by decide +kernel
theorem d_IN_ntz_44 : decode c_IN_ntz 44 = .ok (.iload_n 0, 1) := by decide +kernel
theorem d_IN_ntz_45 : decode c_IN_ntz 45 = .ok (.bipush 8, 2) := by decide +kernel
theorem d_IN_ntz_47 : decode c_IN_ntz 47 = .ok (.iushr, 1) := by decide +kernel
theorem d_IN_ntz_48 : decode c_IN_ntz 48 = .ok (.istore_n 0, 1) := by decide +kernel
theorem d_IN_ntz_49 : decode c_IN_ntz 49 = .ok (.iload_n 0, 1) := by decide +kernel
theorem d_IN_ntz_50 : decode c_IN_ntz 50 = .ok (.bipush 16, 2) := by decide +kernel
theorem d_IN_ntz_52 : decode c_IN_ntz 52 = .ok (.if_icmp .le 10, 3) := by decide +kernel
theorem d_IN_ntz_55 : decode c_IN_ntz 55 = .ok (.iinc 1 4, 3) := by decide +kernel
theorem d_IN_ntz_58 : decode c_IN_ntz 58 = .ok (.iload_n 0, 1) := by decide +kernel
theorem d_IN_ntz_59 : decode c_IN_ntz 59 = .ok (.iconst 4, 1) := by decide +kernel
theorem d_IN_ntz_60 : decode c_IN_ntz 60 = .ok (.iushr, 1) := by decide +kernel
theorem d_IN_ntz_61 : decode c_IN_ntz 61 = .ok (.istore_n 0, 1) := by decide +kernel
theorem d_IN_ntz_62 : decode c_IN_ntz 62 = .ok (.iload_n 0, 1) := by decide +kernel
theorem d_IN_ntz_63 : decode c_IN_ntz 63 = .ok (.iconst 4, 1) := by decide +kernel
theorem d_IN_ntz_64 : decode c_IN_ntz 64 = .ok (.if_icmp .le 10, 3) := by decide +kernel
theorem d_IN_ntz_67 : decode c_IN_ntz 67 = .ok (.iinc 1 2, 3) := by decide +kernel
theorem d_IN_ntz_70 : decode c_IN_ntz 70 = .ok (.iload_n 0, 1) := by decide +kernel
theorem d_IN_ntz_71 : decode c_IN_ntz 71 = .ok (.iconst 2, 1) := by decide +kernel
theorem d_IN_ntz_72 : decode c_IN_ntz 72 = .ok (.iushr, 1) := by decide +kernel
theorem d_IN_ntz_73 : decode c_IN_ntz 73 = .ok (.istore_n 0, 1) := by decide +kernel
theorem d_IN_ntz_74 : decode c_IN_ntz 74 = .ok (.iload_n 1, 1) := by decide +kernel
theorem d_IN_ntz_75 : decode c_IN_ntz 75 = .ok (.iload_n 0, 1) := by decide +kernel
theorem d_IN_ntz_76 : decode c_IN_ntz 76 = .ok (.iconst 1, 1) := by decide +kernel
theorem d_IN_ntz_77 : decode c_IN_ntz 77 = .ok (.iushr, 1) := by decide +kernel
theorem d_IN_ntz_78 : decode c_IN_ntz 78 = .ok (.iadd, 1) := by decide +kernel
theorem d_IN_ntz_79 : decode c_IN_ntz 79 = .ok (.ireturn, 1) := by decide +kernel
theorem d_LO_bc_0 : decode c_LO_bc 0 = .ok (.lload_n 0, 1) := by decide +kernel
theorem d_LO_bc_1 : decode c_LO_bc 1 = .ok (.lload_n 0, 1) := by decide +kernel
theorem d_LO_bc_2 : decode c_LO_bc 2 = .ok (.iconst 1, 1) := by decide +kernel
theorem d_LO_bc_3 : decode c_LO_bc 3 = .ok (.lushr, 1) := by decide +kernel
theorem d_LO_bc_4 : decode c_LO_bc 4 = .ok (.ldc2_w 314, 3) := by decide +kernel
theorem d_LO_bc_7 : decode c_LO_bc 7 = .ok (.land, 1) := by decide +kernel
theorem d_LO_bc_8 : decode c_LO_bc 8 = .ok (.lsub, 1) := by decide +kernel
theorem d_LO_bc_9 : decode c_LO_bc 9 = .ok (.lstore_n 0, 1) := by decide +kernel
theorem d_LO_bc_10 : decode c_LO_bc 10 = .ok (.lload_n 0, 1) := by decide +kernel
theorem d_LO_bc_11 : decode c_LO_bc 11 = .ok (.ldc2_w 316, 3) := by decide +kernel
theorem d_LO_bc_14 : decode c_LO_bc 14 = .ok (.land, 1) := by decide +kernel
theorem d_LO_bc_15 : decode c_LO_bc 15 = .ok (.lload_n 0, 1) := by decide +kernel
theorem d_LO_bc_16 : decode c_LO_bc 16 = .ok (.iconst 2, 1) := by decide +kernel
theorem d_LO_bc_17 : decode c_LO_bc 17 = .ok (.lushr, 1) := by decide +kernel
theorem d_LO_bc_18 : decode c_LO_bc 18 = .ok (.ldc2_w 316, 3) := by decide +kernel
theorem d_LO_bc_21 : decode c_LO_bc 21 = .ok (.land, 1) := by decide +kernel
theorem d_LO_bc_22 : decode c_LO_bc 22 = .ok (.ladd, 1) := by decide +kernel
theorem d_LO_bc_23 : decode c_LO_bc 23 = .ok (.lstore_n 0, 1) := by decide +kernel
theorem d_LO_bc_24 : decode c_LO_bc 24 = .ok (.lload_n 0, 1) := by decide +kernel
theorem d_LO_bc_25 : decode c_LO_bc 25 = .ok (.lload_n 0, 1) := by decide +kernel
theorem d_LO_bc_26 : decode c_LO_bc 26 = .ok (.iconst 4, 1) := by decide +kernel
theorem d_LO_bc_27 : decode c_LO_bc 27 = .ok (.lushr, 1) := by decide +kernel
theorem d_LO_bc_28 : decode c_LO_bc 28 = .ok (.ladd, 1) := by decide +kernel
theorem d_LO_bc_29 : decode c_LO_bc 29 = .ok (.ldc2_w 318, 3) := by decide +kernel
theorem d_LO_bc_32 : decode c_LO_bc 32 = .ok (.land, 1) := by decide +kernel
theorem d_LO_bc_33 : decode c_LO_bc 33 = .ok (.lstore_n 0, 1) := by decide +kernel
theorem d_LO_bc_34 : decode c_LO_bc 34 = .ok (.lload_n 0, 1) := by decide +kernel
theorem d_LO_bc_35 : decode c_LO_bc 35 = .ok (.lload_n 0, 1) := by decide +kernel
theorem d_LO_bc_36 : decode c_LO_bc 36 = .ok (.bipush 8, 2) := by decide +kernel
theorem d_LO_bc_38 : decode c_LO_bc 38 = .ok (.lushr, 1) := by decide +kernel
theorem d_LO_bc_39 : decode c_LO_bc 39 = .ok (.ladd, 1) := by decide +kernel
theorem d_LO_bc_40 : decode c_LO_bc 40 = .ok (.lstore_n 0, 1) := by decide +kernel
theorem d_LO_bc_41 : decode c_LO_bc 41 = .ok (.lload_n 0, 1) := by decide +kernel
theorem d_LO_bc_42 : decode c_LO_bc 42 = .ok (.lload_n 0, 1) := by decide +kernel
theorem d_LO_bc_43 : decode c_LO_bc 43 = .ok (.bipush 16, 2) := by decide +kernel
theorem d_LO_bc_45 : decode c_LO_bc 45 = .ok (.lushr, 1) := by decide +kernel
theorem d_LO_bc_46 : decode c_LO_bc 46 = .ok (.ladd, 1) := by decide +kernel
theorem d_LO_bc_47 : decode c_LO_bc 47 = .ok (.lstore_n 0, 1) := by decide +kernel
theorem d_LO_bc_48 : decode c_LO_bc 48 = .ok (.lload_n 0, 1) := by decide +kernel
theorem d_LO_bc_49 : decode c_LO_bc 49 = .ok (.lload_n 0, 1) := by decide +kernel
theorem d_LO_bc_50 : decode c_LO_bc 50 = .ok (.bipush 32, 2) := by decide +kernel
theorem d_LO_bc_52 : decode c_LO_bc 52 = .ok (.lushr, 1) := by decide +kernel
theorem d_LO_bc_53 : decode c_LO_bc 53 = .ok (.ladd, 1) := by decide +kernel
theorem d_LO_bc_54 : decode c_LO_bc 54 = .ok (.lstore_n 0, 1) := by decide +kernel
theorem d_LO_bc_55 : decode c_LO_bc 55 = .ok (.lload_n 0, 1) := by decide +kernel
theorem d_LO_bc_56 : decode c_LO_bc 56 = .ok (.l2i, 1) := by decide +kernel
theorem d_LO_bc_57 : decode c_LO_bc 57 = .ok (.bipush 127, 2) := by decide +kernel
theorem d_LO_bc_59 : decode c_LO_bc 59 = .ok (.iand, 1) := by decide +kernel
theorem d_LO_bc_60 : decode c_LO_bc 60 = .ok (.ireturn, 1) := by decide +kernel
end
section
/-! DECODE ROWS -/
theorem d_LA_law_0 : decode c_LA_law 0 = .ok (.new 7, 3) := by decide +kernel
theorem d_LA_law_3 : decode c_LA_law 3 = .ok (.dup, 1) := by decide +kernel
theorem d_LA_law_4 : decode c_LA_law 4 = .ok (.invokespecial 9, 3) := by decide +kernel
theorem d_LA_law_7 : decode c_LA_law 7 = .ok (.astore_n 1, 1) := by decide +kernel
theorem d_LA_law_8 : decode c_LA_law 8 = .ok (.new 10, 3) := by decide +kernel
theorem d_LA_law_11 : decode c_LA_law 11 = .ok (.dup, 1) := by decide +kernel
theorem d_LA_law_12 : decode c_LA_law 12 = .ok (.invokespecial 12, 3) := by decide +kernel
theorem d_LA_law_15 : decode c_LA_law 15 = .ok (.astore_n 2, 1) := by decide +kernel
theorem d_LA_law_16 : decode c_LA_law 16 = .ok (.iconst 0, 1) := by decide +kernel
theorem d_LA_law_17 : decode c_LA_law 17 = .ok (.istore_n 3, 1) := by decide +kernel
theorem d_LA_law_18 : decode c_LA_law 18 = .ok (.iload_n 3, 1) := by decide +kernel
theorem d_LA_law_19 : decode c_LA_law 19 = .ok (.aload_n 0, 1) := by decide +kernel
theorem d_LA_law_20 : decode c_LA_law 20 = .ok (.arraylength, 1) := by decide +kernel
theorem d_LA_law_21 : decode c_LA_law 21 = .ok (.iconst 4, 1) := by decide +kernel
theorem d_LA_law_22 : decode c_LA_law 22 = .ok (.isub, 1) := by decide +kernel
theorem d_LA_law_23 : decode c_LA_law 23 = .ok (.if_icmp .gt 365, 3) := by decide +kernel
theorem d_LA_law_26 : decode c_LA_law 26 = .ok (.aload_n 0, 1) := by decide +kernel
theorem d_LA_law_27 : decode c_LA_law 27 = .ok (.iload_n 3, 1) := by decide +kernel
theorem d_LA_law_28 : decode c_LA_law 28 = .ok (.iaload, 1) := by decide +kernel
theorem d_LA_law_29 : decode c_LA_law 29 = .ok (.bipush 15, 2) := by decide +kernel
theorem d_LA_law_31 : decode c_LA_law 31 = .ok (.iand, 1) := by decide +kernel
theorem d_LA_law_32 : decode c_LA_law 32 = .ok (.tableswitch 350 0 11 #[64, 107, 150, 163, 186, 199, 212, 245, 268, 291, 314, 337], 64) := by decide +kernel
theorem d_LA_law_96 : decode c_LA_law 96 = .ok (.aload_n 1, 1) := by decide +kernel
theorem d_LA_law_97 : decode c_LA_law 97 = .ok (.aload_n 0, 1) := by decide +kernel
theorem d_LA_law_98 : decode c_LA_law 98 = .ok (.iload_n 3, 1) := by decide +kernel
theorem d_LA_law_99 : decode c_LA_law 99 = .ok (.iconst 1, 1) := by decide +kernel
theorem d_LA_law_100 : decode c_LA_law 100 = .ok (.iadd, 1) := by decide +kernel
theorem d_LA_law_101 : decode c_LA_law 101 = .ok (.iaload, 1) := by decide +kernel
theorem d_LA_law_102 : decode c_LA_law 102 = .ok (.aload_n 0, 1) := by decide +kernel
theorem d_LA_law_103 : decode c_LA_law 103 = .ok (.iload_n 3, 1) := by decide +kernel
theorem d_LA_law_104 : decode c_LA_law 104 = .ok (.iconst 2, 1) := by decide +kernel
theorem d_LA_law_105 : decode c_LA_law 105 = .ok (.iadd, 1) := by decide +kernel
theorem d_LA_law_106 : decode c_LA_law 106 = .ok (.iaload, 1) := by decide +kernel
theorem d_LA_law_107 : decode c_LA_law 107 = .ok (.aload_n 0, 1) := by decide +kernel
theorem d_LA_law_108 : decode c_LA_law 108 = .ok (.iload_n 3, 1) := by decide +kernel
theorem d_LA_law_109 : decode c_LA_law 109 = .ok (.iconst 3, 1) := by decide +kernel
theorem d_LA_law_110 : decode c_LA_law 110 = .ok (.iadd, 1) := by decide +kernel
theorem d_LA_law_111 : decode c_LA_law 111 = .ok (.iaload, 1) := by decide +kernel
theorem d_LA_law_112 : decode c_LA_law 112 = .ok (.invokevirtual 13, 3) := by decide +kernel
theorem d_LA_law_115 : decode c_LA_law 115 = .ok (.aload_n 2, 1) := by decide +kernel
theorem d_LA_law_116 : decode c_LA_law 116 = .ok (.aload_n 0, 1) := by decide +kernel
theorem d_LA_law_117 : decode c_LA_law 117 = .ok (.iload_n 3, 1) := by decide +kernel
theorem d_LA_law_118 : decode c_LA_law 118 = .ok (.iconst 1, 1) := by decide +kernel
theorem d_LA_law_119 : decode c_LA_law 119 = .ok (.iadd, 1) := by decide +kernel
theorem d_LA_law_120 : decode c_LA_law 120 = .ok (.iaload, 1) := by decide +kernel
theorem d_LA_law_121 : decode c_LA_law 121 = .ok (.aload_n 0, 1) := by decide +kernel
theorem d_LA_law_122 : decode c_LA_law 122 = .ok (.iload_n 3, 1) := by decide +kernel
theorem d_LA_law_123 : decode c_LA_law 123 = .ok (.iconst 2, 1) := by decide +kernel
theorem d_LA_law_124 : decode c_LA_law 124 = .ok (.iadd, 1) := by decide +kernel
theorem d_LA_law_125 : decode c_LA_law 125 = .ok (.iaload, 1) := by decide +kernel
theorem d_LA_law_126 : decode c_LA_law 126 = .ok (.aload_n 0, 1) := by decide +kernel
theorem d_LA_law_127 : decode c_LA_law 127 = .ok (.iload_n 3, 1) := by decide +kernel
theorem d_LA_law_128 : decode c_LA_law 128 = .ok (.iconst 3, 1) := by decide +kernel
theorem d_LA_law_129 : decode c_LA_law 129 = .ok (.iadd, 1) := by decide +kernel
theorem d_LA_law_130 : decode c_LA_law 130 = .ok (.iaload, 1) := by decide +kernel
theorem d_LA_law_131 : decode c_LA_law 131 = .ok (.invokevirtual 17, 3) := by decide +kernel
theorem d_LA_law_134 : decode c_LA_law 134 = .ok (.if_icmp .eq 248, 3) := by decide +kernel
theorem d_LA_law_137 : decode c_LA_law 137 = .ok (.iconst 0, 1) := by decide +kernel
theorem d_LA_law_138 : decode c_LA_law 138 = .ok (.ireturn, 1) := by decide +kernel
theorem d_LA_law_139 : decode c_LA_law 139 = .ok (.aload_n 1, 1) := by decide +kernel
theorem d_LA_law_140 : decode c_LA_law 140 = .ok (.aload_n 0, 1) := by decide +kernel
theorem d_LA_law_141 : decode c_LA_law 141 = .ok (.iload_n 3, 1) := by decide +kernel
theorem d_LA_law_142 : decode c_LA_law 142 = .ok (.iconst 1, 1) := by decide +kernel
theorem d_LA_law_143 : decode c_LA_law 143 = .ok (.iadd, 1) := by decide +kernel
theorem d_LA_law_144 : decode c_LA_law 144 = .ok (.iaload, 1) := by decide +kernel
theorem d_LA_law_145 : decode c_LA_law 145 = .ok (.aload_n 0, 1) := by decide +kernel
theorem d_LA_law_146 : decode c_LA_law 146 = .ok (.iload_n 3, 1) := by decide +kernel
theorem d_LA_law_147 : decode c_LA_law 147 = .ok (.iconst 2, 1) := by decide +kernel
theorem d_LA_law_148 : decode c_LA_law 148 = .ok (.iadd, 1) := by decide +kernel
theorem d_LA_law_149 : decode c_LA_law 149 = .ok (.iaload, 1) := by decide +kernel
theorem d_LA_law_150 : decode c_LA_law 150 = .ok (.aload_n 0, 1) := by decide +kernel
theorem d_LA_law_151 : decode c_LA_law 151 = .ok (.iload_n 3, 1) := by decide +kernel
theorem d_LA_law_152 : decode c_LA_law 152 = .ok (.iconst 3, 1) := by decide +kernel
theorem d_LA_law_153 : decode c_LA_law 153 = .ok (.iadd, 1) := by decide +kernel
theorem d_LA_law_154 : decode c_LA_law 154 = .ok (.iaload, 1) := by decide +kernel
theorem d_LA_law_155 : decode c_LA_law 155 = .ok (.invokevirtual 18, 3) := by decide +kernel
theorem d_LA_law_158 : decode c_LA_law 158 = .ok (.pop, 1) := by decide +kernel
theorem d_LA_law_159 : decode c_LA_law 159 = .ok (.aload_n 2, 1) := by decide +kernel
theorem d_LA_law_160 : decode c_LA_law 160 = .ok (.aload_n 0, 1) := by decide +kernel
theorem d_LA_law_161 : decode c_LA_law 161 = .ok (.iload_n 3, 1) := by decide +kernel
theorem d_LA_law_162 : decode c_LA_law 162 = .ok (.iconst 1, 1) := by decide +kernel
theorem d_LA_law_163 : decode c_LA_law 163 = .ok (.iadd, 1) := by decide +kernel
theorem d_LA_law_164 : decode c_LA_law 164 = .ok (.iaload, 1) := by decide +kernel
theorem d_LA_law_165 : decode c_LA_law 165 = .ok (.aload_n 0, 1) := by decide +kernel
theorem d_LA_law_166 : decode c_LA_law 166 = .ok (.iload_n 3, 1) := by decide +kernel
theorem d_LA_law_167 : decode c_LA_law 167 = .ok (.iconst 2, 1) := by decide +kernel
theorem d_LA_law_168 : decode c_LA_law 168 = .ok (.iadd, 1) := by decide +kernel
theorem d_LA_law_169 : decode c_LA_law 169 = .ok (.iaload, 1) := by decide +kernel
theorem d_LA_law_170 : decode c_LA_law 170 = .ok (.aload_n 0, 1) := by decide +kernel
theorem d_LA_law_171 : decode c_LA_law 171 = .ok (.iload_n 3, 1) := by decide +kernel
theorem d_LA_law_172 : decode c_LA_law 172 = .ok (.iconst 3, 1) := by decide +kernel
theorem d_LA_law_173 : decode c_LA_law 173 = .ok (.iadd, 1) := by decide +kernel
theorem d_LA_law_174 : decode c_LA_law 174 = .ok (.iaload, 1) := by decide +kernel
theorem d_LA_law_175 : decode c_LA_law 175 = .ok (.invokevirtual 21, 3) := by decide +kernel
theorem d_LA_law_178 : decode c_LA_law 178 = .ok (.pop, 1) := by decide +kernel
theorem d_LA_law_179 : decode c_LA_law 179 = .ok (.goto 203, 3) := by decide +kernel
theorem d_LA_law_182 : decode c_LA_law 182 = .ok (.aload_n 1, 1) := by decide +kernel
theorem d_LA_law_183 : decode c_LA_law 183 = .ok (.invokevirtual 22, 3) := by decide +kernel
theorem d_LA_law_186 : decode c_LA_law 186 = .ok (.pop, 1) := by decide +kernel
theorem d_LA_law_187 : decode c_LA_law 187 = .ok (.aload_n 2, 1) := by decide +kernel
theorem d_LA_law_188 : decode c_LA_law 188 = .ok (.invokevirtual 26, 3) := by decide +kernel
theorem d_LA_law_191 : decode c_LA_law 191 = .ok (.pop, 1) := by decide +kernel
theorem d_LA_law_192 : decode c_LA_law 192 = .ok (.goto 190, 3) := by decide +kernel
theorem d_LA_law_195 : decode c_LA_law 195 = .ok (.aload_n 1, 1) := by decide +kernel
theorem d_LA_law_196 : decode c_LA_law 196 = .ok (.aload_n 0, 1) := by decide +kernel
theorem d_LA_law_197 : decode c_LA_law 197 = .ok (.iload_n 3, 1) := by decide +kernel
theorem d_LA_law_198 : decode c_LA_law 198 = .ok (.iconst 1, 1) := by decide +kernel
theorem d_LA_law_199 : decode c_LA_law 199 = .ok (.iadd, 1) := by decide +kernel
theorem d_LA_law_200 : decode c_LA_law 200 = .ok (.iaload, 1) := by decide +kernel
theorem d_LA_law_201 : decode c_LA_law 201 = .ok (.invokevirtual 27, 3) := by decide +kernel
theorem d_LA_law_204 : decode c_LA_law 204 = .ok (.pop, 1) := by decide +kernel
theorem d_LA_law_205 : decode c_LA_law 205 = .ok (.aload_n 2, 1) := by decide +kernel
theorem d_LA_law_206 : decode c_LA_law 206 = .ok (.aload_n 0, 1) := by decide +kernel
theorem d_LA_law_207 : decode c_LA_law 207 = .ok (.iload_n 3, 1) := by decide +kernel
theorem d_LA_law_208 : decode c_LA_law 208 = .ok (.iconst 1, 1) := by decide +kernel
theorem d_LA_law_209 : decode c_LA_law 209 = .ok (.iadd, 1) := by decide +kernel
theorem d_LA_law_210 : decode c_LA_law 210 = .ok (.iaload, 1) := by decide +kernel
theorem d_LA_law_211 : decode c_LA_law 211 = .ok (.invokevirtual 31, 3) := by decide +kernel
theorem d_LA_law_214 : decode c_LA_law 214 = .ok (.pop, 1) := by decide +kernel
theorem d_LA_law_215 : decode c_LA_law 215 = .ok (.goto 167, 3) := by decide +kernel
theorem d_LA_law_218 : decode c_LA_law 218 = .ok (.aload_n 1, 1) := by decide +kernel
theorem d_LA_law_219 : decode c_LA_law 219 = .ok (.invokevirtual 32, 3) := by decide +kernel
theorem d_LA_law_222 : decode c_LA_law 222 = .ok (.pop, 1) := by decide +kernel
theorem d_LA_law_223 : decode c_LA_law 223 = .ok (.aload_n 2, 1) := by decide +kernel
theorem d_LA_law_224 : decode c_LA_law 224 = .ok (.invokevirtual 35, 3) := by decide +kernel
theorem d_LA_law_227 : decode c_LA_law 227 = .ok (.pop, 1) := by decide +kernel
theorem d_LA_law_228 : decode c_LA_law 228 = .ok (.goto 154, 3) := by decide +kernel
theorem d_LA_law_231 : decode c_LA_law 231 = .ok (.aload_n 1, 1) := by decide +kernel
theorem d_LA_law_232 : decode c_LA_law 232 = .ok (.invokevirtual 36, 3) := by decide +kernel
theorem d_LA_law_235 : decode c_LA_law 235 = .ok (.pop, 1) := by decide +kernel
theorem d_LA_law_236 : decode c_LA_law 236 = .ok (.aload_n 2, 1) := by decide +kernel
theorem d_LA_law_237 : decode c_LA_law 237 = .ok (.invokevirtual 39, 3) := by decide +kernel
theorem d_LA_law_240 : decode c_LA_law 240 = .ok (.pop, 1) := by decide +kernel
theorem d_LA_law_241 : decode c_LA_law 241 = .ok (.goto 141, 3) := by decide +kernel
theorem d_LA_law_244 : decode c_LA_law 244 = .ok (.aload_n 1, 1) := by decide +kernel
theorem d_LA_law_245 : decode c_LA_law 245 = .ok (.aload_n 0, 1) := by decide +kernel
theorem d_LA_law_246 : decode c_LA_law 246 = .ok (.iload_n 3, 1) := by decide +kernel
theorem d_LA_law_247 : decode c_LA_law 247 = .ok (.iconst 1, 1) := by decide +kernel
theorem d_LA_law_248 : decode c_LA_law 248 = .ok (.iadd, 1) := by decide +kernel
theorem d_LA_law_249 : decode c_LA_law 249 = .ok (.iaload, 1) := by decide +kernel
theorem d_LA_law_250 : decode c_LA_law 250 = .ok (.aload_n 0, 1) := by decide +kernel
theorem d_LA_law_251 : decode c_LA_law 251 = .ok (.iload_n 3, 1) := by decide +kernel
theorem d_LA_law_252 : decode c_LA_law 252 = .ok (.iconst 2, 1) := by decide +kernel
theorem d_LA_law_253 : decode c_LA_law 253 = .ok (.iadd, 1) := by decide +kernel
theorem d_LA_law_254 : decode c_LA_law 254 = .ok (.iaload, 1) := by decide +kernel
theorem d_LA_law_255 : decode c_LA_law 255 = .ok (.invokevirtual 40, 3) := by decide +kernel
theorem d_LA_law_258 : decode c_LA_law 258 = .ok (.pop2, 1) := by decide +kernel
theorem d_LA_law_259 : decode c_LA_law 259 = .ok (.aload_n 2, 1) := by decide +kernel
theorem d_LA_law_260 : decode c_LA_law 260 = .ok (.aload_n 0, 1) := by decide +kernel
theorem d_LA_law_261 : decode c_LA_law 261 = .ok (.iload_n 3, 1) := by decide +kernel
theorem d_LA_law_262 : decode c_LA_law 262 = .ok (.iconst 1, 1) := by decide +kernel
theorem d_LA_law_263 : decode c_LA_law 263 = .ok (.iadd, 1) := by decide +kernel
theorem d_LA_law_264 : decode c_LA_law 264 = .ok (.iaload, 1) := by decide +kernel
theorem d_LA_law_265 : decode c_LA_law 265 = .ok (.aload_n 0, 1) := by decide +kernel
theorem d_LA_law_266 : decode c_LA_law 266 = .ok (.iload_n 3, 1) := by decide +kernel
theorem d_LA_law_267 : decode c_LA_law 267 = .ok (.iconst 2, 1) := by decide +kernel
theorem d_LA_law_268 : decode c_LA_law 268 = .ok (.iadd, 1) := by decide +kernel
theorem d_LA_law_269 : decode c_LA_law 269 = .ok (.iaload, 1) := by decide +kernel
theorem d_LA_law_270 : decode c_LA_law 270 = .ok (.invokevirtual 44, 3) := by decide +kernel
theorem d_LA_law_273 : decode c_LA_law 273 = .ok (.pop2, 1) := by decide +kernel
theorem d_LA_law_274 : decode c_LA_law 274 = .ok (.goto 108, 3) := by decide +kernel
theorem d_LA_law_277 : decode c_LA_law 277 = .ok (.aload_n 1, 1) := by decide +kernel
theorem d_LA_law_278 : decode c_LA_law 278 = .ok (.aload_n 0, 1) := by decide +kernel
theorem d_LA_law_279 : decode c_LA_law 279 = .ok (.iload_n 3, 1) := by decide +kernel
theorem d_LA_law_280 : decode c_LA_law 280 = .ok (.iconst 1, 1) := by decide +kernel
theorem d_LA_law_281 : decode c_LA_law 281 = .ok (.iadd, 1) := by decide +kernel
theorem d_LA_law_282 : decode c_LA_law 282 = .ok (.iaload, 1) := by decide +kernel
theorem d_LA_law_283 : decode c_LA_law 283 = .ok (.invokevirtual 45, 3) := by decide +kernel
theorem d_LA_law_286 : decode c_LA_law 286 = .ok (.pop, 1) := by decide +kernel
theorem d_LA_law_287 : decode c_LA_law 287 = .ok (.aload_n 2, 1) := by decide +kernel
theorem d_LA_law_288 : decode c_LA_law 288 = .ok (.aload_n 0, 1) := by decide +kernel
theorem d_LA_law_289 : decode c_LA_law 289 = .ok (.iload_n 3, 1) := by decide +kernel
theorem d_LA_law_290 : decode c_LA_law 290 = .ok (.iconst 1, 1) := by decide +kernel
theorem d_LA_law_291 : decode c_LA_law 291 = .ok (.iadd, 1) := by decide +kernel
theorem d_LA_law_292 : decode c_LA_law 292 = .ok (.iaload, 1) := by decide +kernel
theorem d_LA_law_293 : decode c_LA_law 293 = .ok (.invokevirtual 48, 3) := by decide +kernel
theorem d_LA_law_296 : decode c_LA_law 296 = .ok (.pop, 1) := by decide +kernel
theorem d_LA_law_297 : decode c_LA_law 297 = .ok (.goto 85, 3) := by decide +kernel
theorem d_LA_law_300 : decode c_LA_law 300 = .ok (.aload_n 1, 1) := by decide +kernel
theorem d_LA_law_301 : decode c_LA_law 301 = .ok (.aload_n 0, 1) := by decide +kernel
theorem d_LA_law_302 : decode c_LA_law 302 = .ok (.iload_n 3, 1) := by decide +kernel
theorem d_LA_law_303 : decode c_LA_law 303 = .ok (.iconst 1, 1) := by decide +kernel
theorem d_LA_law_304 : decode c_LA_law 304 = .ok (.iadd, 1) := by decide +kernel
theorem d_LA_law_305 : decode c_LA_law 305 = .ok (.iaload, 1) := by decide +kernel
theorem d_LA_law_306 : decode c_LA_law 306 = .ok (.invokevirtual 49, 3) := by decide +kernel
theorem d_LA_law_309 : decode c_LA_law 309 = .ok (.pop2, 1) := by decide +kernel
theorem d_LA_law_310 : decode c_LA_law 310 = .ok (.aload_n 2, 1) := by decide +kernel
theorem d_LA_law_311 : decode c_LA_law 311 = .ok (.aload_n 0, 1) := by decide +kernel
theorem d_LA_law_312 : decode c_LA_law 312 = .ok (.iload_n 3, 1) := by decide +kernel
theorem d_LA_law_313 : decode c_LA_law 313 = .ok (.iconst 1, 1) := by decide +kernel
theorem d_LA_law_314 : decode c_LA_law 314 = .ok (.iadd, 1) := by decide +kernel
theorem d_LA_law_315 : decode c_LA_law 315 = .ok (.iaload, 1) := by decide +kernel
theorem d_LA_law_316 : decode c_LA_law 316 = .ok (.invokevirtual 53, 3) := by decide +kernel
theorem d_LA_law_319 : decode c_LA_law 319 = .ok (.pop2, 1) := by decide +kernel
theorem d_LA_law_320 : decode c_LA_law 320 = .ok (.goto 62, 3) := by decide +kernel
theorem d_LA_law_323 : decode c_LA_law 323 = .ok (.aload_n 1, 1) := by decide +kernel
theorem d_LA_law_324 : decode c_LA_law 324 = .ok (.aload_n 0, 1) := by decide +kernel
theorem d_LA_law_325 : decode c_LA_law 325 = .ok (.iload_n 3, 1) := by decide +kernel
theorem d_LA_law_326 : decode c_LA_law 326 = .ok (.iconst 1, 1) := by decide +kernel
theorem d_LA_law_327 : decode c_LA_law 327 = .ok (.iadd, 1) := by decide +kernel
theorem d_LA_law_328 : decode c_LA_law 328 = .ok (.iaload, 1) := by decide +kernel
theorem d_LA_law_329 : decode c_LA_law 329 = .ok (.invokevirtual 54, 3) := by decide +kernel
theorem d_LA_law_332 : decode c_LA_law 332 = .ok (.pop2, 1) := by decide +kernel
theorem d_LA_law_333 : decode c_LA_law 333 = .ok (.aload_n 2, 1) := by decide +kernel
theorem d_LA_law_334 : decode c_LA_law 334 = .ok (.aload_n 0, 1) := by decide +kernel
theorem d_LA_law_335 : decode c_LA_law 335 = .ok (.iload_n 3, 1) := by decide +kernel
theorem d_LA_law_336 : decode c_LA_law 336 = .ok (.iconst 1, 1) := by decide +kernel
theorem d_LA_law_337 : decode c_LA_law 337 = .ok (.iadd, 1) := by decide +kernel
theorem d_LA_law_338 : decode c_LA_law 338 = .ok (.iaload, 1) := by decide +kernel
theorem d_LA_law_339 : decode c_LA_law 339 = .ok (.invokevirtual 57, 3) := by decide +kernel
theorem d_LA_law_342 : decode c_LA_law 342 = .ok (.pop2, 1) := by decide +kernel
theorem d_LA_law_343 : decode c_LA_law 343 = .ok (.goto 39, 3) := by decide +kernel
theorem d_LA_law_346 : decode c_LA_law 346 = .ok (.aload_n 1, 1) := by decide +kernel
theorem d_LA_law_347 : decode c_LA_law 347 = .ok (.aload_n 0, 1) := by decide +kernel
theorem d_LA_law_348 : decode c_LA_law 348 = .ok (.iload_n 3, 1) := by decide +kernel
theorem d_LA_law_349 : decode c_LA_law 349 = .ok (.iconst 1, 1) := by decide +kernel
theorem d_LA_law_350 : decode c_LA_law 350 = .ok (.iadd, 1) := by decide +kernel
theorem d_LA_law_351 : decode c_LA_law 351 = .ok (.iaload, 1) := by decide +kernel
theorem d_LA_law_352 : decode c_LA_law 352 = .ok (.invokevirtual 58, 3) := by decide +kernel
theorem d_LA_law_355 : decode c_LA_law 355 = .ok (.pop2, 1) := by decide +kernel
theorem d_LA_law_356 : decode c_LA_law 356 = .ok (.aload_n 2, 1) := by decide +kernel
theorem d_LA_law_357 : decode c_LA_law 357 = .ok (.aload_n 0, 1) := by decide +kernel
theorem d_LA_law_358 : decode c_LA_law 358 = .ok (.iload_n 3, 1) := by decide +kernel
theorem d_LA_law_359 : decode c_LA_law 359 = .ok (.iconst 1, 1) := by decide +kernel
theorem d_LA_law_360 : decode c_LA_law 360 = .ok (.iadd, 1) := by decide +kernel
theorem d_LA_law_361 : decode c_LA_law 361 = .ok (.iaload, 1) := by decide +kernel
theorem d_LA_law_362 : decode c_LA_law 362 = .ok (.invokevirtual 61, 3) := by decide +kernel
theorem d_LA_law_365 : decode c_LA_law 365 = .ok (.pop2, 1) := by decide +kernel
theorem d_LA_law_366 : decode c_LA_law 366 = .ok (.goto 16, 3) := by decide +kernel
theorem d_LA_law_369 : decode c_LA_law 369 = .ok (.aload_n 1, 1) := by decide +kernel
theorem d_LA_law_370 : decode c_LA_law 370 = .ok (.invokevirtual 62, 3) := by decide +kernel
theorem d_LA_law_373 : decode c_LA_law 373 = .ok (.pop, 1) := by decide +kernel
theorem d_LA_law_374 : decode c_LA_law 374 = .ok (.aload_n 2, 1) := by decide +kernel
theorem d_LA_law_375 : decode c_LA_law 375 = .ok (.invokevirtual 65, 3) := by decide +kernel
theorem d_LA_law_378 : decode c_LA_law 378 = .ok (.pop, 1) := by decide +kernel
theorem d_LA_law_379 : decode c_LA_law 379 = .ok (.goto 3, 3) := by decide +kernel
theorem d_LA_law_382 : decode c_LA_law 382 = .ok (.iinc 3 4, 3) := by decide +kernel
theorem d_LA_law_385 : decode c_LA_law 385 = .ok (.goto (-367), 3) := by decide +kernel
theorem d_LA_law_388 : decode c_LA_law 388 = .ok (.iconst 1, 1) := by decide +kernel
theorem d_LA_law_389 : decode c_LA_law 389 = .ok (.ireturn, 1) := by decide +kernel
end
section
/-! DECODE ROWS -/
theorem d_MO_init_0 : decode c_MO_init 0 = .ok (.aload_n 0, 1) := by decide +kernel
theorem d_MO_init_1 : decode c_MO_init 1 = .ok (.invokespecial 1, 3) := by decide +kernel
theorem d_MO_init_4 : decode c_MO_init 4 = .ok (.aload_n 0, 1) := by decide +kernel
theorem d_MO_init_5 : decode c_MO_init 5 = .ok (.ldc 7, 2) := by decide +kernel
theorem d_MO_init_7 : decode c_MO_init 7 = .ok (.newarray .boolean, 2) := by decide +kernel
theorem d_MO_init_9 : decode c_MO_init 9 = .ok (.putfield 8, 3) := by decide +kernel
theorem d_MO_init_12 : decode c_MO_init 12 = .ok (.aload_n 0, 1) := by decide +kernel
theorem d_MO_init_13 : decode c_MO_init 13 = .ok (.bipush 60, 2) := by decide +kernel
theorem d_MO_init_15 : decode c_MO_init 15 = .ok (.newarray .int, 2) := by decide +kernel
theorem d_MO_init_17 : decode c_MO_init 17 = .ok (.putfield 14, 3) := by decide +kernel
theorem d_MO_init_20 : decode c_MO_init 20 = .ok (.aload_n 0, 1) := by decide +kernel
theorem d_MO_init_21 : decode c_MO_init 21 = .ok (.bipush 41, 2) := by decide +kernel
theorem d_MO_init_23 : decode c_MO_init 23 = .ok (.newarray .int, 2) := by decide +kernel
theorem d_MO_init_25 : decode c_MO_init 25 = .ok (.putfield 18, 3) := by decide +kernel
theorem d_MO_init_28 : decode c_MO_init 28 = .ok (.aload_n 0, 1) := by decide +kernel
theorem d_MO_init_29 : decode c_MO_init 29 = .ok (.bipush 16, 2) := by decide +kernel
theorem d_MO_init_31 : decode c_MO_init 31 = .ok (.newarray .int, 2) := by decide +kernel
theorem d_MO_init_33 : decode c_MO_init 33 = .ok (.putfield 21, 3) := by decide +kernel
theorem d_MO_init_36 : decode c_MO_init 36 = .ok (.aload_n 0, 1) := by decide +kernel
theorem d_MO_init_37 : decode c_MO_init 37 = .ok (.ldc 24, 2) := by decide +kernel
theorem d_MO_init_39 : decode c_MO_init 39 = .ok (.newarray .long, 2) := by decide +kernel
theorem d_MO_init_41 : decode c_MO_init 41 = .ok (.putfield 25, 3) := by decide +kernel
theorem d_MO_init_44 : decode c_MO_init 44 = .ok (.aload_n 0, 1) := by decide +kernel
theorem d_MO_init_45 : decode c_MO_init 45 = .ok (.bipush 64, 2) := by decide +kernel
theorem d_MO_init_47 : decode c_MO_init 47 = .ok (.newarray .long, 2) := by decide +kernel
theorem d_MO_init_49 : decode c_MO_init 49 = .ok (.putfield 29, 3) := by decide +kernel
theorem d_MO_init_52 : decode c_MO_init 52 = .ok (.return_, 1) := by decide +kernel
theorem d_MO_edge_0 : decode c_MO_edge 0 = .ok (.iload_n 1, 1) := by decide +kernel
theorem d_MO_edge_1 : decode c_MO_edge 1 = .ok (.iload_n 2, 1) := by decide +kernel
theorem d_MO_edge_2 : decode c_MO_edge 2 = .ok (.iload_n 3, 1) := by decide +kernel
theorem d_MO_edge_3 : decode c_MO_edge 3 = .ok (.invokestatic 36, 3) := by decide +kernel
theorem d_MO_edge_6 : decode c_MO_edge 6 = .ok (.ifCond .ne 5, 3) := by decide +kernel
theorem d_MO_edge_9 : decode c_MO_edge 9 = .ok (.iconst (-1), 1) := by decide +kernel
theorem d_MO_edge_10 : decode c_MO_edge 10 = .ok (.ireturn, 1) := by decide +kernel
theorem d_MO_edge_11 : decode c_MO_edge 11 = .ok (.aload_n 0, 1) := by decide +kernel
theorem d_MO_edge_12 : decode c_MO_edge 12 = .ok (.getfield 8, 3) := by decide +kernel
theorem d_MO_edge_15 : decode c_MO_edge 15 = .ok (.iload_n 1, 1) := by decide +kernel
theorem d_MO_edge_16 : decode c_MO_edge 16 = .ok (.iload_n 2, 1) := by decide +kernel
theorem d_MO_edge_17 : decode c_MO_edge 17 = .ok (.iload_n 3, 1) := by decide +kernel
theorem d_MO_edge_18 : decode c_MO_edge 18 = .ok (.invokestatic 40, 3) := by decide +kernel
theorem d_MO_edge_21 : decode c_MO_edge 21 = .ok (.baload, 1) := by decide +kernel
theorem d_MO_edge_22 : decode c_MO_edge 22 = .ok (.ifCond .eq 5, 3) := by decide +kernel
theorem d_MO_edge_25 : decode c_MO_edge 25 = .ok (.iconst 0, 1) := by decide +kernel
theorem d_MO_edge_26 : decode c_MO_edge 26 = .ok (.ireturn, 1) := by decide +kernel
theorem d_MO_edge_27 : decode c_MO_edge 27 = .ok (.aload_n 0, 1) := by decide +kernel
theorem d_MO_edge_28 : decode c_MO_edge 28 = .ok (.getfield 8, 3) := by decide +kernel
theorem d_MO_edge_31 : decode c_MO_edge 31 = .ok (.iload_n 1, 1) := by decide +kernel
theorem d_MO_edge_32 : decode c_MO_edge 32 = .ok (.iload_n 2, 1) := by decide +kernel
theorem d_MO_edge_33 : decode c_MO_edge 33 = .ok (.iload_n 3, 1) := by decide +kernel
theorem d_MO_edge_34 : decode c_MO_edge 34 = .ok (.invokestatic 40, 3) := by decide +kernel
theorem d_MO_edge_37 : decode c_MO_edge 37 = .ok (.iconst 1, 1) := by decide +kernel
theorem d_MO_edge_38 : decode c_MO_edge 38 = .ok (.bastore, 1) := by decide +kernel
theorem d_MO_edge_39 : decode c_MO_edge 39 = .ok (.aload_n 0, 1) := by decide +kernel
theorem d_MO_edge_40 : decode c_MO_edge 40 = .ok (.dup, 1) := by decide +kernel
theorem d_MO_edge_41 : decode c_MO_edge 41 = .ok (.getfield 44, 3) := by decide +kernel
theorem d_MO_edge_44 : decode c_MO_edge 44 = .ok (.iconst 1, 1) := by decide +kernel
theorem d_MO_edge_45 : decode c_MO_edge 45 = .ok (.iadd, 1) := by decide +kernel
theorem d_MO_edge_46 : decode c_MO_edge 46 = .ok (.putfield 44, 3) := by decide +kernel
theorem d_MO_edge_49 : decode c_MO_edge 49 = .ok (.aload_n 0, 1) := by decide +kernel
theorem d_MO_edge_50 : decode c_MO_edge 50 = .ok (.iconst 0, 1) := by decide +kernel
theorem d_MO_edge_51 : decode c_MO_edge 51 = .ok (.putfield 48, 3) := by decide +kernel
theorem d_MO_edge_54 : decode c_MO_edge 54 = .ok (.iconst 1, 1) := by decide +kernel
theorem d_MO_edge_55 : decode c_MO_edge 55 = .ok (.ireturn, 1) := by decide +kernel
theorem d_MO_isEdge_0 : decode c_MO_isEdge 0 = .ok (.iload_n 0, 1) := by decide +kernel
theorem d_MO_isEdge_1 : decode c_MO_isEdge 1 = .ok (.invokestatic 32, 3) := by decide +kernel
theorem d_MO_isEdge_4 : decode c_MO_isEdge 4 = .ok (.ifCond .eq 24, 3) := by decide +kernel
theorem d_MO_isEdge_7 : decode c_MO_isEdge 7 = .ok (.iload_n 2, 1) := by decide +kernel
theorem d_MO_isEdge_8 : decode c_MO_isEdge 8 = .ok (.invokestatic 32, 3) := by decide +kernel
theorem d_MO_isEdge_11 : decode c_MO_isEdge 11 = .ok (.ifCond .eq 17, 3) := by decide +kernel
theorem d_MO_isEdge_14 : decode c_MO_isEdge 14 = .ok (.iload_n 1, 1) := by decide +kernel
theorem d_MO_isEdge_15 : decode c_MO_isEdge 15 = .ok (.ifCond .lt 13, 3) := by decide +kernel
theorem d_MO_isEdge_18 : decode c_MO_isEdge 18 = .ok (.iload_n 1, 1) := by decide +kernel
theorem d_MO_isEdge_19 : decode c_MO_isEdge 19 = .ok (.bipush 8, 2) := by decide +kernel
theorem d_MO_isEdge_21 : decode c_MO_isEdge 21 = .ok (.if_icmp .ge 7, 3) := by decide +kernel
theorem d_MO_isEdge_24 : decode c_MO_isEdge 24 = .ok (.iconst 1, 1) := by decide +kernel
theorem d_MO_isEdge_25 : decode c_MO_isEdge 25 = .ok (.goto 4, 3) := by decide +kernel
theorem d_MO_isEdge_28 : decode c_MO_isEdge 28 = .ok (.iconst 0, 1) := by decide +kernel
theorem d_MO_isEdge_29 : decode c_MO_isEdge 29 = .ok (.ireturn, 1) := by decide +kernel
theorem d_MO_isPoint_0 : decode c_MO_isPoint 0 = .ok (.iload_n 0, 1) := by decide +kernel
theorem d_MO_isPoint_1 : decode c_MO_isPoint 1 = .ok (.ifCond .lt 13, 3) := by decide +kernel
theorem d_MO_isPoint_4 : decode c_MO_isPoint 4 = .ok (.iload_n 0, 1) := by decide +kernel
theorem d_MO_isPoint_5 : decode c_MO_isPoint 5 = .ok (.bipush 64, 2) := by decide +kernel
theorem d_MO_isPoint_7 : decode c_MO_isPoint 7 = .ok (.if_icmp .ge 7, 3) := by decide +kernel
theorem d_MO_isPoint_10 : decode c_MO_isPoint 10 = .ok (.iconst 1, 1) := by decide +kernel
theorem d_MO_isPoint_11 : decode c_MO_isPoint 11 = .ok (.goto 4, 3) := by decide +kernel
theorem d_MO_isPoint_14 : decode c_MO_isPoint 14 = .ok (.iconst 0, 1) := by decide +kernel
theorem d_MO_isPoint_15 : decode c_MO_isPoint 15 = .ok (.ireturn, 1) := by decide +kernel
theorem d_MO_place_0 : decode c_MO_place 0 = .ok (.sipush 4096, 3) := by decide +kernel
theorem d_MO_place_3 : decode c_MO_place 3 = .ok (.iload_n 1, 1) := by decide +kernel
theorem d_MO_place_4 : decode c_MO_place 4 = .ok (.imul, 1) := by decide +kernel
theorem d_MO_place_5 : decode c_MO_place 5 = .ok (.bipush 64, 2) := by decide +kernel
theorem d_MO_place_7 : decode c_MO_place 7 = .ok (.iload_n 0, 1) := by decide +kernel
theorem d_MO_place_8 : decode c_MO_place 8 = .ok (.imul, 1) := by decide +kernel
theorem d_MO_place_9 : decode c_MO_place 9 = .ok (.iadd, 1) := by decide +kernel
theorem d_MO_place_10 : decode c_MO_place 10 = .ok (.iload_n 2, 1) := by decide +kernel
theorem d_MO_place_11 : decode c_MO_place 11 = .ok (.iadd, 1) := by decide +kernel
theorem d_MO_place_12 : decode c_MO_place 12 = .ok (.ireturn, 1) := by decide +kernel
theorem d_MO_drop_0 : decode c_MO_drop 0 = .ok (.iload_n 1, 1) := by decide +kernel
theorem d_MO_drop_1 : decode c_MO_drop 1 = .ok (.iload_n 2, 1) := by decide +kernel
theorem d_MO_drop_2 : decode c_MO_drop 2 = .ok (.iload_n 3, 1) := by decide +kernel
theorem d_MO_drop_3 : decode c_MO_drop 3 = .ok (.invokestatic 36, 3) := by decide +kernel
theorem d_MO_drop_6 : decode c_MO_drop 6 = .ok (.ifCond .ne 5, 3) := by decide +kernel
theorem d_MO_drop_9 : decode c_MO_drop 9 = .ok (.iconst (-1), 1) := by decide +kernel
theorem d_MO_drop_10 : decode c_MO_drop 10 = .ok (.ireturn, 1) := by decide +kernel
theorem d_MO_drop_11 : decode c_MO_drop 11 = .ok (.aload_n 0, 1) := by decide +kernel
theorem d_MO_drop_12 : decode c_MO_drop 12 = .ok (.getfield 8, 3) := by decide +kernel
theorem d_MO_drop_15 : decode c_MO_drop 15 = .ok (.iload_n 1, 1) := by decide +kernel
theorem d_MO_drop_16 : decode c_MO_drop 16 = .ok (.iload_n 2, 1) := by decide +kernel
theorem d_MO_drop_17 : decode c_MO_drop 17 = .ok (.iload_n 3, 1) := by decide +kernel
theorem d_MO_drop_18 : decode c_MO_drop 18 = .ok (.invokestatic 40, 3) := by decide +kernel
theorem d_MO_drop_21 : decode c_MO_drop 21 = .ok (.baload, 1) := by decide +kernel
theorem d_MO_drop_22 : decode c_MO_drop 22 = .ok (.ifCond .ne 5, 3) := by decide +kernel
theorem d_MO_drop_25 : decode c_MO_drop 25 = .ok (.iconst 0, 1) := by decide +kernel
theorem d_MO_drop_26 : decode c_MO_drop 26 = .ok (.ireturn, 1) := by decide +kernel
theorem d_MO_drop_27 : decode c_MO_drop 27 = .ok (.aload_n 0, 1) := by decide +kernel
theorem d_MO_drop_28 : decode c_MO_drop 28 = .ok (.getfield 8, 3) := by decide +kernel
theorem d_MO_drop_31 : decode c_MO_drop 31 = .ok (.iload_n 1, 1) := by decide +kernel
theorem d_MO_drop_32 : decode c_MO_drop 32 = .ok (.iload_n 2, 1) := by decide +kernel
theorem d_MO_drop_33 : decode c_MO_drop 33 = .ok (.iload_n 3, 1) := by decide +kernel
theorem d_MO_drop_34 : decode c_MO_drop 34 = .ok (.invokestatic 40, 3) := by decide +kernel
theorem d_MO_drop_37 : decode c_MO_drop 37 = .ok (.iconst 0, 1) := by decide +kernel
theorem d_MO_drop_38 : decode c_MO_drop 38 = .ok (.bastore, 1) := by decide +kernel
theorem d_MO_drop_39 : decode c_MO_drop 39 = .ok (.aload_n 0, 1) := by decide +kernel
theorem d_MO_drop_40 : decode c_MO_drop 40 = .ok (.dup, 1) := by decide +kernel
theorem d_MO_drop_41 : decode c_MO_drop 41 = .ok (.getfield 44, 3) := by decide +kernel
theorem d_MO_drop_44 : decode c_MO_drop 44 = .ok (.iconst 1, 1) := by decide +kernel
theorem d_MO_drop_45 : decode c_MO_drop 45 = .ok (.isub, 1) := by decide +kernel
theorem d_MO_drop_46 : decode c_MO_drop 46 = .ok (.putfield 44, 3) := by decide +kernel
theorem d_MO_drop_49 : decode c_MO_drop 49 = .ok (.aload_n 0, 1) := by decide +kernel
theorem d_MO_drop_50 : decode c_MO_drop 50 = .ok (.iconst 0, 1) := by decide +kernel
theorem d_MO_drop_51 : decode c_MO_drop 51 = .ok (.putfield 48, 3) := by decide +kernel
theorem d_MO_drop_54 : decode c_MO_drop 54 = .ok (.iconst 1, 1) := by decide +kernel
theorem d_MO_drop_55 : decode c_MO_drop 55 = .ok (.ireturn, 1) := by decide +kernel
theorem d_MO_edges_0 : decode c_MO_edges 0 = .ok (.aload_n 0, 1) := by decide +kernel
theorem d_MO_edges_1 : decode c_MO_edges 1 = .ok (.getfield 44, 3) := by decide +kernel
theorem d_MO_edges_4 : decode c_MO_edges 4 = .ok (.ireturn, 1) := by decide +kernel
theorem d_MO_word_0 : decode c_MO_word 0 = .ok (.aload_n 0, 1) := by decide +kernel
theorem d_MO_word_1 : decode c_MO_word 1 = .ok (.getfield 52, 3) := by decide +kernel
theorem d_MO_word_4 : decode c_MO_word 4 = .ok (.bipush 60, 2) := by decide +kernel
theorem d_MO_word_6 : decode c_MO_word 6 = .ok (.if_icmp .ne 6, 3) := by decide +kernel
theorem d_MO_word_9 : decode c_MO_word 9 = .ok (.bipush (-3), 2) := by decide +kernel
theorem d_MO_word_11 : decode c_MO_word 11 = .ok (.ireturn, 1) := by decide +kernel
theorem d_MO_word_12 : decode c_MO_word 12 = .ok (.aload_n 0, 1) := by decide +kernel
theorem d_MO_word_13 : decode c_MO_word 13 = .ok (.getfield 14, 3) := by decide +kernel
theorem d_MO_word_16 : decode c_MO_word 16 = .ok (.aload_n 0, 1) := by decide +kernel
theorem d_MO_word_17 : decode c_MO_word 17 = .ok (.getfield 52, 3) := by decide +kernel
theorem d_MO_word_20 : decode c_MO_word 20 = .ok (.iload_n 1, 1) := by decide +kernel
theorem d_MO_word_21 : decode c_MO_word 21 = .ok (.iastore, 1) := by decide +kernel
theorem d_MO_word_22 : decode c_MO_word 22 = .ok (.aload_n 0, 1) := by decide +kernel
theorem d_MO_word_23 : decode c_MO_word 23 = .ok (.dup, 1) := by decide +kernel
theorem d_MO_word_24 : decode c_MO_word 24 = .ok (.getfield 52, 3) := by decide +kernel
theorem d_MO_word_27 : decode c_MO_word 27 = .ok (.iconst 1, 1) := by decide +kernel
theorem d_MO_word_28 : decode c_MO_word 28 = .ok (.iadd, 1) := by decide +kernel
theorem d_MO_word_29 : decode c_MO_word 29 = .ok (.putfield 52, 3) := by decide +kernel
theorem d_MO_word_32 : decode c_MO_word 32 = .ok (.aload_n 0, 1) := by decide +kernel
theorem d_MO_word_33 : decode c_MO_word 33 = .ok (.iconst 0, 1) := by decide +kernel
theorem d_MO_word_34 : decode c_MO_word 34 = .ok (.putfield 48, 3) := by decide +kernel
theorem d_MO_word_37 : decode c_MO_word 37 = .ok (.aload_n 0, 1) := by decide +kernel
theorem d_MO_word_38 : decode c_MO_word 38 = .ok (.getfield 52, 3) := by decide +kernel
theorem d_MO_word_41 : decode c_MO_word 41 = .ok (.ireturn, 1) := by decide +kernel
theorem d_MO_clear_0 : decode c_MO_clear 0 = .ok (.aload_n 0, 1) := by decide +kernel
theorem d_MO_clear_1 : decode c_MO_clear 1 = .ok (.getfield 52, 3) := by decide +kernel
theorem d_MO_clear_4 : decode c_MO_clear 4 = .ok (.istore_n 1, 1) := by decide +kernel
theorem d_MO_clear_5 : decode c_MO_clear 5 = .ok (.aload_n 0, 1) := by decide +kernel
theorem d_MO_clear_6 : decode c_MO_clear 6 = .ok (.iconst 0, 1) := by decide +kernel
theorem d_MO_clear_7 : decode c_MO_clear 7 = .ok (.putfield 52, 3) := by decide +kernel
theorem d_MO_clear_10 : decode c_MO_clear 10 = .ok (.aload_n 0, 1) := by decide +kernel
theorem d_MO_clear_11 : decode c_MO_clear 11 = .ok (.iconst 0, 1) := by decide +kernel
theorem d_MO_clear_12 : decode c_MO_clear 12 = .ok (.putfield 48, 3) := by decide +kernel
theorem d_MO_clear_15 : decode c_MO_clear 15 = .ok (.iload_n 1, 1) := by decide +kernel
theorem d_MO_clear_16 : decode c_MO_clear 16 = .ok (.ireturn, 1) := by decide +kernel
theorem d_MO_look_0 : decode c_MO_look 0 = .ok (.iconst 0, 1) := by decide +kernel
theorem d_MO_look_1 : decode c_MO_look 1 = .ok (.istore_n 1, 1) := by decide +kernel
theorem d_MO_look_2 : decode c_MO_look 2 = .ok (.iconst 1, 1) := by decide +kernel
theorem d_MO_look_3 : decode c_MO_look 3 = .ok (.istore_n 2, 1) := by decide +kernel
theorem d_MO_look_4 : decode c_MO_look 4 = .ok (.aload_n 0, 1) := by decide +kernel
theorem d_MO_look_5 : decode c_MO_look 5 = .ok (.getfield 21, 3) := by decide +kernel
theorem d_MO_look_8 : decode c_MO_look 8 = .ok (.iconst 1, 1) := by decide +kernel
theorem d_MO_look_9 : decode c_MO_look 9 = .ok (.iconst 1, 1) := by decide +kernel
theorem d_MO_look_10 : decode c_MO_look 10 = .ok (.iastore, 1) := by decide +kernel
theorem d_MO_look_11 : decode c_MO_look 11 = .ok (.aload_n 0, 1) := by decide +kernel
theorem d_MO_look_12 : decode c_MO_look 12 = .ok (.iconst 0, 1) := by decide +kernel
theorem d_MO_look_13 : decode c_MO_look 13 = .ok (.putfield 55, 3) := by decide +kernel
theorem d_MO_look_16 : decode c_MO_look 16 = .ok (.iload_n 2, 1) := by decide +kernel
theorem d_MO_look_17 : decode c_MO_look 17 = .ok (.ifCond .le 212, 3) := by decide +kernel
theorem d_MO_look_20 : decode c_MO_look 20 = .ok (.iload_n 1, 1) := by decide +kernel
theorem d_MO_look_21 : decode c_MO_look 21 = .ok (.aload_n 0, 1) := by decide +kernel
theorem d_MO_look_22 : decode c_MO_look 22 = .ok (.getfield 52, 3) := by decide +kernel
theorem d_MO_look_25 : decode c_MO_look 25 = .ok (.if_icmp .ne 11, 3) := by decide +kernel
theorem d_MO_look_28 : decode c_MO_look 28 = .ok (.bipush (-100), 2) := by decide +kernel
theorem d_MO_look_30 : decode c_MO_look 30 = .ok (.aload_n 0, 1) := by decide +kernel
theorem d_MO_look_31 : decode c_MO_look 31 = .ok (.getfield 52, 3) := by decide +kernel
theorem d_MO_look_34 : decode c_MO_look 34 = .ok (.isub, 1) := by decide +kernel
theorem d_MO_look_35 : decode c_MO_look 35 = .ok (.ireturn, 1) := by decide +kernel
theorem d_MO_look_36 : decode c_MO_look 36 = .ok (.aload_n 0, 1) := by decide +kernel
theorem d_MO_look_37 : decode c_MO_look 37 = .ok (.getfield 14, 3) := by decide +kernel
theorem d_MO_look_40 : decode c_MO_look 40 = .ok (.iload_n 1, 1) := by decide +kernel
theorem d_MO_look_41 : decode c_MO_look 41 = .ok (.iaload, 1) := by decide +kernel
theorem d_MO_look_42 : decode c_MO_look 42 = .ok (.istore_n 3, 1) := by decide +kernel
theorem d_MO_look_43 : decode c_MO_look 43 = .ok (.iload_n 3, 1) := by decide +kernel
theorem d_MO_look_44 : decode c_MO_look 44 = .ok (.ifCond .lt 24, 3) := by decide +kernel
theorem d_MO_look_47 : decode c_MO_look 47 = .ok (.iload_n 3, 1) := by decide +kernel
theorem d_MO_look_48 : decode c_MO_look 48 = .ok (.bipush 7, 2) := by decide +kernel
theorem d_MO_look_50 : decode c_MO_look 50 = .ok (.if_icmp .gt 18, 3) := by decide +kernel
theorem d_MO_look_53 : decode c_MO_look 53 = .ok (.aload_n 0, 1) := by decide +kernel
theorem d_MO_look_54 : decode c_MO_look 54 = .ok (.getfield 55, 3) := by decide +kernel
theorem d_MO_look_57 : decode c_MO_look 57 = .ok (.bipush 40, 2) := by decide +kernel
theorem d_MO_look_59 : decode c_MO_look 59 = .ok (.if_icmp .eq 9, 3) := by decide +kernel
theorem d_MO_look_62 : decode c_MO_look 62 = .ok (.iload_n 2, 1) := by decide +kernel
theorem d_MO_look_63 : decode c_MO_look 63 = .ok (.bipush 12, 2) := by decide +kernel
theorem d_MO_look_65 : decode c_MO_look 65 = .ok (.if_icmp .le 8, 3) := by decide +kernel
theorem d_MO_look_68 : decode c_MO_look 68 = .ok (.bipush (-100), 2) := by decide +kernel
theorem d_MO_look_70 : decode c_MO_look 70 = .ok (.iload_n 1, 1) := by decide +kernel
theorem d_MO_look_71 : decode c_MO_look 71 = .ok (.isub, 1) := by decide +kernel
theorem d_MO_look_72 : decode c_MO_look 72 = .ok (.ireturn, 1) := by decide +kernel
theorem d_MO_look_73 : decode c_MO_look 73 = .ok (.aload_n 0, 1) := by decide +kernel
theorem d_MO_look_74 : decode c_MO_look 74 = .ok (.getfield 18, 3) := by decide +kernel
theorem d_MO_look_77 : decode c_MO_look 77 = .ok (.aload_n 0, 1) := by decide +kernel
theorem d_MO_look_78 : decode c_MO_look 78 = .ok (.getfield 55, 3) := by decide +kernel
theorem d_MO_look_81 : decode c_MO_look 81 = .ok (.iload_n 1, 1) := by decide +kernel
theorem d_MO_look_82 : decode c_MO_look 82 = .ok (.iastore, 1) := by decide +kernel
theorem d_MO_look_83 : decode c_MO_look 83 = .ok (.aload_n 0, 1) := by decide +kernel
theorem d_MO_look_84 : decode c_MO_look 84 = .ok (.dup, 1) := by decide +kernel
theorem d_MO_look_85 : decode c_MO_look 85 = .ok (.getfield 55, 3) := by decide +kernel
theorem d_MO_look_88 : decode c_MO_look 88 = .ok (.iconst 1, 1) := by decide +kernel
theorem d_MO_look_89 : decode c_MO_look 89 = .ok (.iadd, 1) := by decide +kernel
theorem d_MO_look_90 : decode c_MO_look 90 = .ok (.putfield 55, 3) := by decide +kernel
theorem d_MO_look_93 : decode c_MO_look 93 = .ok (.iinc 1 1, 3) := by decide +kernel
theorem d_MO_look_96 : decode c_MO_look 96 = .ok (.iload_n 3, 1) := by decide +kernel
theorem d_MO_look_97 : decode c_MO_look 97 = .ok (.ifCond .eq 9, 3) := by decide +kernel
theorem d_MO_look_100 : decode c_MO_look 100 = .ok (.iload_n 3, 1) := by decide +kernel
theorem d_MO_look_101 : decode c_MO_look 101 = .ok (.bipush 7, 2) := by decide +kernel
theorem d_MO_look_103 : decode c_MO_look 103 = .ok (.if_icmp .ne 57, 3) := by decide +kernel
theorem d_MO_look_106 : decode c_MO_look 106 = .ok (.iload_n 1, 1) := by decide +kernel
theorem d_MO_look_107 : decode c_MO_look 107 = .ok (.aload_n 0, 1) := by decide +kernel
theorem d_MO_look_108 : decode c_MO_look 108 = .ok (.getfield 52, 3) := by decide +kernel
theorem d_MO_look_111 : decode c_MO_look 111 = .ok (.if_icmp .ne 11, 3) := by decide +kernel
theorem d_MO_look_114 : decode c_MO_look 114 = .ok (.bipush (-100), 2) := by decide +kernel
theorem d_MO_look_116 : decode c_MO_look 116 = .ok (.aload_n 0, 1) := by decide +kernel
theorem d_MO_look_117 : decode c_MO_look 117 = .ok (.getfield 52, 3) := by decide +kernel
theorem d_MO_look_120 : decode c_MO_look 120 = .ok (.isub, 1) := by decide +kernel
theorem d_MO_look_121 : decode c_MO_look 121 = .ok (.ireturn, 1) := by decide +kernel
theorem d_MO_look_122 : decode c_MO_look 122 = .ok (.aload_n 0, 1) := by decide +kernel
theorem d_MO_look_123 : decode c_MO_look 123 = .ok (.getfield 14, 3) := by decide +kernel
theorem d_MO_look_126 : decode c_MO_look 126 = .ok (.iload_n 1, 1) := by decide +kernel
theorem d_MO_look_127 : decode c_MO_look 127 = .ok (.iaload, 1) := by decide +kernel
theorem d_MO_look_128 : decode c_MO_look 128 = .ok (.ifCond .lt 24, 3) := by decide +kernel
theorem d_MO_look_131 : decode c_MO_look 131 = .ok (.aload_n 0, 1) := by decide +kernel
theorem d_MO_look_132 : decode c_MO_look 132 = .ok (.getfield 14, 3) := by decide +kernel
theorem d_MO_look_135 : decode c_MO_look 135 = .ok (.iload_n 1, 1) := by decide +kernel
theorem d_MO_look_136 : decode c_MO_look 136 = .ok (.iaload, 1) := by decide +kernel
theorem d_MO_look_137 : decode c_MO_look 137 = .ok (.iload_n 3, 1) := by decide +kernel
theorem d_MO_look_138 : decode c_MO_look 138 = .ok (.ifCond .ne 8, 3) := by decide +kernel
theorem d_MO_look_141 : decode c_MO_look 141 = .ok (.bipush 7, 2) := by decide +kernel
theorem d_MO_look_143 : decode c_MO_look 143 = .ok (.goto 6, 3) := by decide +kernel
theorem d_MO_look_146 : decode c_MO_look 146 = .ok (.sipush 255, 3) := by decide +kernel
theorem d_MO_look_149 : decode c_MO_look 149 = .ok (.if_icmp .le 8, 3) := by decide +kernel
theorem d_MO_look_152 : decode c_MO_look 152 = .ok (.bipush (-100), 2) := by decide +kernel
theorem d_MO_look_154 : decode c_MO_look 154 = .ok (.iload_n 1, 1) := by decide +kernel
theorem d_MO_look_155 : decode c_MO_look 155 = .ok (.isub, 1) := by decide +kernel
theorem d_MO_look_156 : decode c_MO_look 156 = .ok (.ireturn, 1) := by decide +kernel
theorem d_MO_look_157 : decode c_MO_look 157 = .ok (.iinc 1 1, 3) := by decide +kernel
theorem d_MO_look_160 : decode c_MO_look 160 = .ok (.iload_n 3, 1) := by decide +kernel
theorem d_MO_look_161 : decode c_MO_look 161 = .ok (.invokestatic 58, 3) := by decide +kernel
theorem d_MO_look_164 : decode c_MO_look 164 = .ok (.ifCond .le 19, 3) := by decide +kernel
theorem d_MO_look_167 : decode c_MO_look 167 = .ok (.iinc 2 1, 3) := by decide +kernel
theorem d_MO_look_170 : decode c_MO_look 170 = .ok (.aload_n 0, 1) := by decide +kernel
theorem d_MO_look_171 : decode c_MO_look 171 = .ok (.getfield 21, 3) := by decide +kernel
theorem d_MO_look_174 : decode c_MO_look 174 = .ok (.iload_n 2, 1) := by decide +kernel
theorem d_MO_look_175 : decode c_MO_look 175 = .ok (.iload_n 3, 1) := by decide +kernel
theorem d_MO_look_176 : decode c_MO_look 176 = .ok (.invokestatic 58, 3) := by decide +kernel
theorem d_MO_look_179 : decode c_MO_look 179 = .ok (.iastore, 1) := by decide +kernel
theorem d_MO_look_180 : decode c_MO_look 180 = .ok (.goto (-164), 3) := by decide +kernel
theorem d_MO_look_183 : decode c_MO_look 183 = .ok (.aload_n 0, 1) := by decide +kernel
theorem d_MO_look_184 : decode c_MO_look 184 = .ok (.getfield 21, 3) := by decide +kernel
theorem d_MO_look_187 : decode c_MO_look 187 = .ok (.iload_n 2, 1) := by decide +kernel
theorem d_MO_look_188 : decode c_MO_look 188 = .ok (.dup2, 1) := by decide +kernel
theorem d_MO_look_189 : decode c_MO_look 189 = .ok (.iaload, 1) := by decide +kernel
theorem d_MO_look_190 : decode c_MO_look 190 = .ok (.iconst 1, 1) := by decide +kernel
theorem d_MO_look_191 : decode c_MO_look 191 = .ok (.isub, 1) := by decide +kernel
theorem d_MO_look_192 : decode c_MO_look 192 = .ok (.iastore, 1) := by decide +kernel
theorem d_MO_look_193 : decode c_MO_look 193 = .ok (.iload_n 2, 1) := by decide +kernel
theorem d_MO_look_194 : decode c_MO_look 194 = .ok (.ifCond .le 32, 3) := by decide +kernel
theorem d_MO_look_197 : decode c_MO_look 197 = .ok (.aload_n 0, 1) := by decide +kernel
theorem d_MO_look_198 : decode c_MO_look 198 = .ok (.getfield 21, 3) := by decide +kernel
theorem d_MO_look_201 : decode c_MO_look 201 = .ok (.iload_n 2, 1) := by decide +kernel
theorem d_MO_look_202 : decode c_MO_look 202 = .ok (.iaload, 1) := by decide +kernel
theorem d_MO_look_203 : decode c_MO_look 203 = .ok (.ifCond .ne 23, 3) := by decide +kernel
theorem d_MO_look_206 : decode c_MO_look 206 = .ok (.iinc 2 (-1), 3) := by decide +kernel
theorem d_MO_look_209 : decode c_MO_look 209 = .ok (.iload_n 2, 1) := by decide +kernel
theorem d_MO_look_210 : decode c_MO_look 210 = .ok (.ifCond .le (-17), 3) := by decide +kernel
theorem d_MO_look_213 : decode c_MO_look 213 = .ok (.aload_n 0, 1) := by decide +kernel
theorem d_MO_look_214 : decode c_MO_look 214 = .ok (.getfield 21, 3) := by decide +kernel
theorem d_MO_look_217 : decode c_MO_look 217 = .ok (.iload_n 2, 1) := by decide +kernel
theorem d_MO_look_218 : decode c_MO_look 218 = .ok (.dup2, 1) := by decide +kernel
theorem d_MO_look_219 : decode c_MO_look 219 = .ok (.iaload, 1) := by decide +kernel
theorem d_MO_look_220 : decode c_MO_look 220 = .ok (.iconst 1, 1) := by decide +kernel
theorem d_MO_look_221 : decode c_MO_look 221 = .ok (.isub, 1) := by decide +kernel
theorem d_MO_look_222 : decode c_MO_look 222 = .ok (.iastore, 1) := by decide +kernel
theorem d_MO_look_223 : decode c_MO_look 223 = .ok (.goto (-30), 3) := by decide +kernel
theorem d_MO_look_226 : decode c_MO_look 226 = .ok (.goto (-210), 3) := by decide +kernel
theorem d_MO_look_229 : decode c_MO_look 229 = .ok (.iload_n 1, 1) := by decide +kernel
theorem d_MO_look_230 : decode c_MO_look 230 = .ok (.aload_n 0, 1) := by decide +kernel
theorem d_MO_look_231 : decode c_MO_look 231 = .ok (.getfield 52, 3) := by decide +kernel
theorem d_MO_look_234 : decode c_MO_look 234 = .ok (.if_icmp .ge 10, 3) := by decide +kernel
theorem d_MO_look_237 : decode c_MO_look 237 = .ok (.bipush (-100), 2) := by decide +kernel
theorem d_MO_look_239 : decode c_MO_look 239 = .ok (.iload_n 1, 1) := by decide +kernel
theorem d_MO_look_240 : decode c_MO_look 240 = .ok (.isub, 1) := by decide +kernel
theorem d_MO_look_241 : decode c_MO_look 241 = .ok (.goto 4, 3) := by decide +kernel
theorem d_MO_look_244 : decode c_MO_look 244 = .ok (.iconst 0, 1) := by decide +kernel
theorem d_MO_look_245 : decode c_MO_look 245 = .ok (.ireturn, 1) := by decide +kernel
theorem d_MO_children_0 : decode c_MO_children 0 = .ok (.iload_n 0, 1) := by decide +kernel
theorem d_MO_children_1 : decode c_MO_children 1 = .ok (.iconst 2, 1) := by decide +kernel
theorem d_MO_children_2 : decode c_MO_children 2 = .ok (.if_icmp .eq 8, 3) := by decide +kernel
theorem d_MO_children_5 : decode c_MO_children 5 = .ok (.iload_n 0, 1) := by decide +kernel
theorem d_MO_children_6 : decode c_MO_children 6 = .ok (.iconst 3, 1) := by decide +kernel
theorem d_MO_children_7 : decode c_MO_children 7 = .ok (.if_icmp .ne 7, 3) := by decide +kernel
theorem d_MO_children_10 : decode c_MO_children 10 = .ok (.iconst 2, 1) := by decide +kernel
theorem d_MO_children_11 : decode c_MO_children 11 = .ok (.goto 18, 3) := by decide +kernel
theorem d_MO_children_14 : decode c_MO_children 14 = .ok (.iload_n 0, 1) := by decide +kernel
theorem d_MO_children_15 : decode c_MO_children 15 = .ok (.ifCond .eq 9, 3) := by decide +kernel
theorem d_MO_children_18 : decode c_MO_children 18 = .ok (.iload_n 0, 1) := by decide +kernel
theorem d_MO_children_19 : decode c_MO_children 19 = .ok (.bipush 7, 2) := by decide +kernel
theorem d_MO_children_21 : decode c_MO_children 21 = .ok (.if_icmp .ne 7, 3) := by decide +kernel
theorem d_MO_children_24 : decode c_MO_children 24 = .ok (.iconst 0, 1) := by decide +kernel
theorem d_MO_children_25 : decode c_MO_children 25 = .ok (.goto 4, 3) := by decide +kernel
theorem d_MO_children_28 : decode c_MO_children 28 = .ok (.iconst 1, 1) := by decide +kernel
theorem d_MO_children_29 : decode c_MO_children 29 = .ok (.ireturn, 1) := by decide +kernel
theorem d_MO_times_0 : decode c_MO_times 0 = .ok (.iload_n 1, 1) := by decide +kernel
theorem d_MO_times_1 : decode c_MO_times 1 = .ok (.invokestatic 32, 3) := by decide +kernel
theorem d_MO_times_4 : decode c_MO_times 4 = .ok (.ifCond .eq 10, 3) := by decide +kernel
theorem d_MO_times_7 : decode c_MO_times 7 = .ok (.iload_n 2, 1) := by decide +kernel
theorem d_MO_times_8 : decode c_MO_times 8 = .ok (.invokestatic 32, 3) := by decide +kernel
theorem d_MO_times_11 : decode c_MO_times 11 = .ok (.ifCond .ne 7, 3) := by decide +kernel
theorem d_MO_times_14 : decode c_MO_times 14 = .ok (.ldc2_w 97, 3) := by decide +kernel
theorem d_MO_times_17 : decode c_MO_times 17 = .ok (.lreturn, 1) := by decide +kernel
theorem d_MO_times_18 : decode c_MO_times 18 = .ok (.aload_n 0, 1) := by decide +kernel
theorem d_MO_times_19 : decode c_MO_times 19 = .ok (.invokevirtual 99, 3) := by decide +kernel
theorem d_MO_times_22 : decode c_MO_times 22 = .ok (.ifCond .eq 17, 3) := by decide +kernel
theorem d_MO_times_25 : decode c_MO_times 25 = .ok (.aload_n 0, 1) := by decide +kernel
theorem d_MO_times_26 : decode c_MO_times 26 = .ok (.getfield 25, 3) := by decide +kernel
theorem d_MO_times_29 : decode c_MO_times 29 = .ok (.bipush 64, 2) := by decide +kernel
theorem d_MO_times_31 : decode c_MO_times 31 = .ok (.iload_n 1, 1) := by decide +kernel
theorem d_MO_times_32 : decode c_MO_times 32 = .ok (.imul, 1) := by decide +kernel
theorem d_MO_times_33 : decode c_MO_times 33 = .ok (.iload_n 2, 1) := by decide +kernel
theorem d_MO_times_34 : decode c_MO_times 34 = .ok (.iadd, 1) := by decide +kernel
theorem d_MO_times_35 : decode c_MO_times 35 = .ok (.laload, 1) := by decide +kernel
theorem d_MO_times_36 : decode c_MO_times 36 = .ok (.goto 6, 3) := by decide +kernel
theorem d_MO_times_39 : decode c_MO_times 39 = .ok (.ldc2_w 103, 3) := by decide +kernel
theorem d_MO_times_42 : decode c_MO_times 42 = .ok (.lreturn, 1) := by decide +kernel
theorem d_MO_reckon_0 : decode c_MO_reckon 0 = .ok (.aload_n 0, 1) := by decide +kernel
theorem d_MO_reckon_1 : decode c_MO_reckon 1 = .ok (.getfield 48, 3) := by decide +kernel
theorem d_MO_reckon_4 : decode c_MO_reckon 4 = .ok (.ifCond .eq 5, 3) := by decide +kernel
theorem d_MO_reckon_7 : decode c_MO_reckon 7 = .ok (.iconst 1, 1) := by decide +kernel
theorem d_MO_reckon_8 : decode c_MO_reckon 8 = .ok (.ireturn, 1) := by decide +kernel
theorem d_MO_reckon_9 : decode c_MO_reckon 9 = .ok (.aload_n 0, 1) := by decide +kernel
theorem d_MO_reckon_10 : decode c_MO_reckon 10 = .ok (.invokevirtual 76, 3) := by decide +kernel
theorem d_MO_reckon_13 : decode c_MO_reckon 13 = .ok (.ifCond .eq 5, 3) := by decide +kernel
theorem d_MO_reckon_16 : decode c_MO_reckon 16 = .ok (.iconst 0, 1) := by decide +kernel
theorem d_MO_reckon_17 : decode c_MO_reckon 17 = .ok (.ireturn, 1) := by decide +kernel
theorem d_MO_reckon_18 : decode c_MO_reckon 18 = .ok (.iconst 0, 1) := by decide +kernel
theorem d_MO_reckon_19 : decode c_MO_reckon 19 = .ok (.istore_n 1, 1) := by decide +kernel
theorem d_MO_reckon_20 : decode c_MO_reckon 20 = .ok (.aload_n 0, 1) := by decide +kernel
theorem d_MO_reckon_21 : decode c_MO_reckon 21 = .ok (.getfield 55, 3) := by decide +kernel
theorem d_MO_reckon_24 : decode c_MO_reckon 24 = .ok (.iconst 1, 1) := by decide +kernel
theorem d_MO_reckon_25 : decode c_MO_reckon 25 = .ok (.isub, 1) := by decide +kernel
theorem d_MO_reckon_26 : decode c_MO_reckon 26 = .ok (.istore_n 2, 1) := by decide +kernel
theorem d_MO_reckon_27 : decode c_MO_reckon 27 = .ok (.iload_n 2, 1) := by decide +kernel
theorem d_MO_reckon_28 : decode c_MO_reckon 28 = .ok (.ifCond .lt 233, 3) := by decide +kernel
theorem d_MO_reckon_31 : decode c_MO_reckon 31 = .ok (.aload_n 0, 1) := by decide +kernel
theorem d_MO_reckon_32 : decode c_MO_reckon 32 = .ok (.getfield 14, 3) := by decide +kernel
theorem d_MO_reckon_35 : decode c_MO_reckon 35 = .ok (.aload_n 0, 1) := by decide +kernel
theorem d_MO_reckon_36 : decode c_MO_reckon 36 = .ok (.getfield 18, 3) := by decide +kernel
theorem d_MO_reckon_39 : decode c_MO_reckon 39 = .ok (.iload_n 2, 1) := by decide +kernel
theorem d_MO_reckon_40 : decode c_MO_reckon 40 = .ok (.iaload, 1) := by decide +kernel
theorem d_MO_reckon_41 : decode c_MO_reckon 41 = .ok (.iaload, 1) := by decide +kernel
theorem d_MO_reckon_42 : decode c_MO_reckon 42 = .ok (.istore_n 3, 1) := by decide +kernel
theorem d_MO_reckon_43 : decode c_MO_reckon 43 = .ok (.sipush 4096, 3) := by decide +kernel
theorem d_MO_reckon_46 : decode c_MO_reckon 46 = .ok (.iload_n 1, 1) := by decide +kernel
theorem d_MO_reckon_47 : decode c_MO_reckon 47 = .ok (.iconst 1, 1) := by decide +kernel
theorem d_MO_reckon_48 : decode c_MO_reckon 48 = .ok (.isub, 1) := by decide +kernel
theorem d_MO_reckon_49 : decode c_MO_reckon 49 = .ok (.imul, 1) := by decide +kernel
theorem d_MO_reckon_50 : decode c_MO_reckon 50 = .ok (.istore 4, 2) := by decide +kernel
theorem d_MO_reckon_52 : decode c_MO_reckon 52 = .ok (.iload_n 3, 1) := by decide +kernel
theorem d_MO_reckon_53 : decode c_MO_reckon 53 = .ok (.ifCond .eq 9, 3) := by decide +kernel
theorem d_MO_reckon_56 : decode c_MO_reckon 56 = .ok (.iload_n 3, 1) := by decide +kernel
theorem d_MO_reckon_57 : decode c_MO_reckon 57 = .ok (.bipush 7, 2) := by decide +kernel
theorem d_MO_reckon_59 : decode c_MO_reckon 59 = .ok (.if_icmp .ne 52, 3) := by decide +kernel
theorem d_MO_reckon_62 : decode c_MO_reckon 62 = .ok (.aload_n 0, 1) := by decide +kernel
theorem d_MO_reckon_63 : decode c_MO_reckon 63 = .ok (.getfield 14, 3) := by decide +kernel
theorem d_MO_reckon_66 : decode c_MO_reckon 66 = .ok (.aload_n 0, 1) := by decide +kernel
theorem d_MO_reckon_67 : decode c_MO_reckon 67 = .ok (.getfield 18, 3) := by decide +kernel
theorem d_MO_reckon_70 : decode c_MO_reckon 70 = .ok (.iload_n 2, 1) := by decide +kernel
theorem d_MO_reckon_71 : decode c_MO_reckon 71 = .ok (.iaload, 1) := by decide +kernel
theorem d_MO_reckon_72 : decode c_MO_reckon 72 = .ok (.iconst 1, 1) := by decide +kernel
theorem d_MO_reckon_73 : decode c_MO_reckon 73 = .ok (.iadd, 1) := by decide +kernel
theorem d_MO_reckon_74 : decode c_MO_reckon 74 = .ok (.iaload, 1) := by decide +kernel
theorem d_MO_reckon_75 : decode c_MO_reckon 75 = .ok (.istore 5, 2) := by decide +kernel
theorem d_MO_reckon_77 : decode c_MO_reckon 77 = .ok (.aload_n 0, 1) := by decide +kernel
theorem d_MO_reckon_78 : decode c_MO_reckon 78 = .ok (.sipush 4096, 3) := by decide +kernel
theorem d_MO_reckon_81 : decode c_MO_reckon 81 = .ok (.iload_n 1, 1) := by decide +kernel
theorem d_MO_reckon_82 : decode c_MO_reckon 82 = .ok (.imul, 1) := by decide +kernel
theorem d_MO_reckon_83 : decode c_MO_reckon 83 = .ok (.iload_n 3, 1) := by decide +kernel
theorem d_MO_reckon_84 : decode c_MO_reckon 84 = .ok (.ifCond .ne 10, 3) := by decide +kernel
theorem d_MO_reckon_87 : decode c_MO_reckon 87 = .ok (.iconst 1, 1) := by decide +kernel
theorem d_MO_reckon_88 : decode c_MO_reckon 88 = .ok (.iload 5, 2) := by decide +kernel
theorem d_MO_reckon_90 : decode c_MO_reckon 90 = .ok (.ishl, 1) := by decide +kernel
theorem d_MO_reckon_91 : decode c_MO_reckon 91 = .ok (.goto 11, 3) := by decide +kernel
theorem d_MO_reckon_94 : decode c_MO_reckon 94 = .ok (.sipush 255, 3) := by decide +kernel
theorem d_MO_reckon_97 : decode c_MO_reckon 97 = .ok (.iload 5, 2) := by decide +kernel
theorem d_MO_reckon_99 : decode c_MO_reckon 99 = .ok (.iconst (-1), 1) := by decide +kernel
theorem d_MO_reckon_100 : decode c_MO_reckon 100 = .ok (.ixor, 1) := by decide +kernel
theorem d_MO_reckon_101 : decode c_MO_reckon 101 = .ok (.iand, 1) := by decide +kernel
theorem d_MO_reckon_102 : decode c_MO_reckon 102 = .ok (.invokevirtual 80, 3) := by decide +kernel
theorem d_MO_reckon_105 : decode c_MO_reckon 105 = .ok (.iinc 1 1, 3) := by decide +kernel
theorem d_MO_reckon_108 : decode c_MO_reckon 108 = .ok (.goto 147, 3) := by decide +kernel
theorem d_MO_reckon_111 : decode c_MO_reckon 111 = .ok (.iload_n 3, 1) := by decide +kernel
theorem d_MO_reckon_112 : decode c_MO_reckon 112 = .ok (.iconst 1, 1) := by decide +kernel
theorem d_MO_reckon_113 : decode c_MO_reckon 113 = .ok (.if_icmp .ne 12, 3) := by decide +kernel
theorem d_MO_reckon_116 : decode c_MO_reckon 116 = .ok (.aload_n 0, 1) := by decide +kernel
theorem d_MO_reckon_117 : decode c_MO_reckon 117 = .ok (.iload 4, 2) := by decide +kernel
theorem d_MO_reckon_119 : decode c_MO_reckon 119 = .ok (.invokevirtual 84, 3) := by decide +kernel
theorem d_MO_reckon_122 : decode c_MO_reckon 122 = .ok (.goto 133, 3) := by decide +kernel
theorem d_MO_reckon_125 : decode c_MO_reckon 125 = .ok (.iload_n 3, 1) := by decide +kernel
theorem d_MO_reckon_126 : decode c_MO_reckon 126 = .ok (.iconst 2, 1) := by decide +kernel
theorem d_MO_reckon_127 : decode c_MO_reckon 127 = .ok (.if_icmp .ne 27, 3) := by decide +kernel
theorem d_MO_reckon_130 : decode c_MO_reckon 130 = .ok (.aload_n 0, 1) := by decide +kernel
theorem d_MO_reckon_131 : decode c_MO_reckon 131 = .ok (.iload 4, 2) := by decide +kernel
theorem d_MO_reckon_133 : decode c_MO_reckon 133 = .ok (.iload 4, 2) := by decide +kernel
theorem d_MO_reckon_135 : decode c_MO_reckon 135 = .ok (.sipush 4096, 3) := by decide +kernel
theorem d_MO_reckon_138 : decode c_MO_reckon 138 = .ok (.isub, 1) := by decide +kernel
theorem d_MO_reckon_139 : decode c_MO_reckon 139 = .ok (.invokevirtual 88, 3) := by decide +kernel
theorem d_MO_reckon_142 : decode c_MO_reckon 142 = .ok (.aload_n 0, 1) := by decide +kernel
theorem d_MO_reckon_143 : decode c_MO_reckon 143 = .ok (.iload 4, 2) := by decide +kernel
theorem d_MO_reckon_145 : decode c_MO_reckon 145 = .ok (.invokevirtual 91, 3) := by decide +kernel
theorem d_MO_reckon_148 : decode c_MO_reckon 148 = .ok (.iinc 1 (-1), 3) := by decide +kernel
theorem d_MO_reckon_151 : decode c_MO_reckon 151 = .ok (.goto 104, 3) := by decide +kernel
theorem d_MO_reckon_154 : decode c_MO_reckon 154 = .ok (.iload_n 3, 1) := by decide +kernel
theorem d_MO_reckon_155 : decode c_MO_reckon 155 = .ok (.iconst 3, 1) := by decide +kernel
theorem d_MO_reckon_156 : decode c_MO_reckon 156 = .ok (.if_icmp .ne 68, 3) := by decide +kernel
theorem d_MO_reckon_159 : decode c_MO_reckon 159 = .ok (.iconst 0, 1) := by decide +kernel
theorem d_MO_reckon_160 : decode c_MO_reckon 160 = .ok (.istore 5, 2) := by decide +kernel
theorem d_MO_reckon_162 : decode c_MO_reckon 162 = .ok (.iload 5, 2) := by decide +kernel
theorem d_MO_reckon_164 : decode c_MO_reckon 164 = .ok (.sipush 4096, 3) := by decide +kernel
theorem d_MO_reckon_167 : decode c_MO_reckon 167 = .ok (.if_icmp .ge 51, 3) := by decide +kernel
theorem d_MO_reckon_170 : decode c_MO_reckon 170 = .ok (.aload_n 0, 1) := by decide +kernel
theorem d_MO_reckon_171 : decode c_MO_reckon 171 = .ok (.getfield 25, 3) := by decide +kernel
theorem d_MO_reckon_174 : decode c_MO_reckon 174 = .ok (.iload 4, 2) := by decide +kernel
theorem d_MO_reckon_176 : decode c_MO_reckon 176 = .ok (.sipush 4096, 3) := by decide +kernel
theorem d_MO_reckon_179 : decode c_MO_reckon 179 = .ok (.isub, 1) := by decide +kernel
theorem d_MO_reckon_180 : decode c_MO_reckon 180 = .ok (.iload 5, 2) := by decide +kernel
theorem d_MO_reckon_182 : decode c_MO_reckon 182 = .ok (.iadd, 1) := by decide +kernel
theorem d_MO_reckon_183 : decode c_MO_reckon 183 = .ok (.aload_n 0, 1) := by decide +kernel
theorem d_MO_reckon_184 : decode c_MO_reckon 184 = .ok (.getfield 25, 3) := by decide +kernel
theorem d_MO_reckon_187 : decode c_MO_reckon 187 = .ok (.iload 4, 2) := by decide +kernel
theorem d_MO_reckon_189 : decode c_MO_reckon 189 = .ok (.sipush 4096, 3) := by decide +kernel
theorem d_MO_reckon_192 : decode c_MO_reckon 192 = .ok (.isub, 1) := by decide +kernel
theorem d_MO_reckon_193 : decode c_MO_reckon 193 = .ok (.iload 5, 2) := by decide +kernel
theorem d_MO_reckon_195 : decode c_MO_reckon 195 = .ok (.iadd, 1) := by decide +kernel
theorem d_MO_reckon_196 : decode c_MO_reckon 196 = .ok (.laload, 1) := by decide +kernel
theorem d_MO_reckon_197 : decode c_MO_reckon 197 = .ok (.aload_n 0, 1) := by decide +kernel
theorem d_MO_reckon_198 : decode c_MO_reckon 198 = .ok (.getfield 25, 3) := by decide +kernel
theorem d_MO_reckon_201 : decode c_MO_reckon 201 = .ok (.iload 4, 2) := by decide +kernel
theorem d_MO_reckon_203 : decode c_MO_reckon 203 = .ok (.iload 5, 2) := by decide +kernel
theorem d_MO_reckon_205 : decode c_MO_reckon 205 = .ok (.iadd, 1) := by decide +kernel
theorem d_MO_reckon_206 : decode c_MO_reckon 206 = .ok (.laload, 1) := by decide +kernel
theorem d_MO_reckon_207 : decode c_MO_reckon 207 = .ok (.ladd, 1) := by decide +kernel
theorem d_MO_reckon_208 : decode c_MO_reckon 208 = .ok (.invokestatic 68, 3) := by decide +kernel
theorem d_MO_reckon_211 : decode c_MO_reckon 211 = .ok (.lastore, 1) := by decide +kernel
theorem d_MO_reckon_212 : decode c_MO_reckon 212 = .ok (.iinc 5 1, 3) := by decide +kernel
theorem d_MO_reckon_215 : decode c_MO_reckon 215 = .ok (.goto (-53), 3) := by decide +kernel
theorem d_MO_reckon_218 : decode c_MO_reckon 218 = .ok (.iinc 1 (-1), 3) := by decide +kernel
theorem d_MO_reckon_221 : decode c_MO_reckon 221 = .ok (.goto 34, 3) := by decide +kernel
theorem d_MO_reckon_224 : decode c_MO_reckon 224 = .ok (.iload_n 3, 1) := by decide +kernel
theorem d_MO_reckon_225 : decode c_MO_reckon 225 = .ok (.iconst 4, 1) := by decide +kernel
theorem d_MO_reckon_226 : decode c_MO_reckon 226 = .ok (.if_icmp .ne 13, 3) := by decide +kernel
theorem d_MO_reckon_229 : decode c_MO_reckon 229 = .ok (.aload_n 0, 1) := by decide +kernel
theorem d_MO_reckon_230 : decode c_MO_reckon 230 = .ok (.iload 4, 2) := by decide +kernel
theorem d_MO_reckon_232 : decode c_MO_reckon 232 = .ok (.iconst 1, 1) := by decide +kernel
theorem d_MO_reckon_233 : decode c_MO_reckon 233 = .ok (.invokevirtual 72, 3) := by decide +kernel
theorem d_MO_reckon_236 : decode c_MO_reckon 236 = .ok (.goto 19, 3) := by decide +kernel
theorem d_MO_reckon_239 : decode c_MO_reckon 239 = .ok (.aload_n 0, 1) := by decide +kernel
theorem d_MO_reckon_240 : decode c_MO_reckon 240 = .ok (.iload 4, 2) := by decide +kernel
theorem d_MO_reckon_242 : decode c_MO_reckon 242 = .ok (.iload_n 3, 1) := by decide +kernel
theorem d_MO_reckon_243 : decode c_MO_reckon 243 = .ok (.iconst 5, 1) := by decide +kernel
theorem d_MO_reckon_244 : decode c_MO_reckon 244 = .ok (.if_icmp .ne 7, 3) := by decide +kernel
theorem d_MO_reckon_247 : decode c_MO_reckon 247 = .ok (.iconst 1, 1) := by decide +kernel
theorem d_MO_reckon_248 : decode c_MO_reckon 248 = .ok (.goto 4, 3) := by decide +kernel
theorem d_MO_reckon_251 : decode c_MO_reckon 251 = .ok (.iconst 0, 1) := by decide +kernel
theorem d_MO_reckon_252 : decode c_MO_reckon 252 = .ok (.invokevirtual 94, 3) := by decide +kernel
theorem d_MO_reckon_255 : decode c_MO_reckon 255 = .ok (.iinc 2 (-1), 3) := by decide +kernel
theorem d_MO_reckon_258 : decode c_MO_reckon 258 = .ok (.goto (-231), 3) := by decide +kernel
theorem d_MO_reckon_261 : decode c_MO_reckon 261 = .ok (.aload_n 0, 1) := by decide +kernel
theorem d_MO_reckon_262 : decode c_MO_reckon 262 = .ok (.iconst 1, 1) := by decide +kernel
theorem d_MO_reckon_263 : decode c_MO_reckon 263 = .ok (.putfield 48, 3) := by decide +kernel
theorem d_MO_reckon_266 : decode c_MO_reckon 266 = .ok (.iconst 1, 1) := by decide +kernel
theorem d_MO_reckon_267 : decode c_MO_reckon 267 = .ok (.ireturn, 1) := by decide +kernel
theorem d_MO_edgesOf_0 : decode c_MO_edgesOf 0 = .ok (.iconst 0, 1) := by decide +kernel
theorem d_MO_edgesOf_1 : decode c_MO_edgesOf 1 = .ok (.istore_n 3, 1) := by decide +kernel
theorem d_MO_edgesOf_2 : decode c_MO_edgesOf 2 = .ok (.iload_n 3, 1) := by decide +kernel
theorem d_MO_edgesOf_3 : decode c_MO_edgesOf 3 = .ok (.sipush 4096, 3) := by decide +kernel
theorem d_MO_edgesOf_6 : decode c_MO_edgesOf 6 = .ok (.if_icmp .ge 74, 3) := by decide +kernel
theorem d_MO_edgesOf_9 : decode c_MO_edgesOf 9 = .ok (.lconst 0, 1) := by decide +kernel
theorem d_MO_edgesOf_10 : decode c_MO_edgesOf 10 = .ok (.lstore 4, 2) := by decide +kernel
theorem d_MO_edgesOf_12 : decode c_MO_edgesOf 12 = .ok (.iconst 0, 1) := by decide +kernel
theorem d_MO_edgesOf_13 : decode c_MO_edgesOf 13 = .ok (.istore 6, 2) := by decide +kernel
theorem d_MO_edgesOf_15 : decode c_MO_edgesOf 15 = .ok (.iload 6, 2) := by decide +kernel
theorem d_MO_edgesOf_17 : decode c_MO_edgesOf 17 = .ok (.bipush 8, 2) := by decide +kernel
theorem d_MO_edgesOf_19 : decode c_MO_edgesOf 19 = .ok (.if_icmp .ge 45, 3) := by decide +kernel
theorem d_MO_edgesOf_22 : decode c_MO_edgesOf 22 = .ok (.lload 4, 2) := by decide +kernel
theorem d_MO_edgesOf_24 : decode c_MO_edgesOf 24 = .ok (.iload_n 2, 1) := by decide +kernel
theorem d_MO_edgesOf_25 : decode c_MO_edgesOf 25 = .ok (.iload 6, 2) := by decide +kernel
theorem d_MO_edgesOf_27 : decode c_MO_edgesOf 27 = .ok (.ishr, 1) := by decide +kernel
theorem d_MO_edgesOf_28 : decode c_MO_edgesOf 28 = .ok (.iconst 1, 1) := by decide +kernel
theorem d_MO_edgesOf_29 : decode c_MO_edgesOf 29 = .ok (.iand, 1) := by decide +kernel
theorem d_MO_edgesOf_30 : decode c_MO_edgesOf 30 = .ok (.iconst 1, 1) := by decide +kernel
theorem d_MO_edgesOf_31 : decode c_MO_edgesOf 31 = .ok (.if_icmp .ne 23, 3) := by decide +kernel
theorem d_MO_edgesOf_34 : decode c_MO_edgesOf 34 = .ok (.aload_n 0, 1) := by decide +kernel
theorem d_MO_edgesOf_35 : decode c_MO_edgesOf 35 = .ok (.getfield 8, 3) := by decide +kernel
theorem d_MO_edgesOf_38 : decode c_MO_edgesOf 38 = .ok (.sipush 4096, 3) := by decide +kernel
theorem d_MO_edgesOf_41 : decode c_MO_edgesOf 41 = .ok (.iload 6, 2) := by decide +kernel
theorem d_MO_edgesOf_43 : decode c_MO_edgesOf 43 = .ok (.imul, 1) := by decide +kernel
theorem d_MO_edgesOf_44 : decode c_MO_edgesOf 44 = .ok (.iload_n 3, 1) := by decide +kernel
theorem d_MO_edgesOf_45 : decode c_MO_edgesOf 45 = .ok (.iadd, 1) := by decide +kernel
theorem d_MO_edgesOf_46 : decode c_MO_edgesOf 46 = .ok (.baload, 1) := by decide +kernel
theorem d_MO_edgesOf_47 : decode c_MO_edgesOf 47 = .ok (.ifCond .eq 7, 3) := by decide +kernel
theorem d_MO_edgesOf_50 : decode c_MO_edgesOf 50 = .ok (.lconst 1, 1) := by decide +kernel
theorem d_MO_edgesOf_51 : decode c_MO_edgesOf 51 = .ok (.goto 4, 3) := by decide +kernel
theorem d_MO_edgesOf_54 : decode c_MO_edgesOf 54 = .ok (.lconst 0, 1) := by decide +kernel
theorem d_MO_edgesOf_55 : decode c_MO_edgesOf 55 = .ok (.ladd, 1) := by decide +kernel
theorem d_MO_edgesOf_56 : decode c_MO_edgesOf 56 = .ok (.lstore 4, 2) := by decide +kernel
theorem d_MO_edgesOf_58 : decode c_MO_edgesOf 58 = .ok (.iinc 6 1, 3) := by decide +kernel
theorem d_MO_edgesOf_61 : decode c_MO_edgesOf 61 = .ok (.goto (-46), 3) := by decide +kernel
theorem d_MO_edgesOf_64 : decode c_MO_edgesOf 64 = .ok (.aload_n 0, 1) := by decide +kernel
theorem d_MO_edgesOf_65 : decode c_MO_edgesOf 65 = .ok (.getfield 25, 3) := by decide +kernel
theorem d_MO_edgesOf_68 : decode c_MO_edgesOf 68 = .ok (.iload_n 1, 1) := by decide +kernel
theorem d_MO_edgesOf_69 : decode c_MO_edgesOf 69 = .ok (.iload_n 3, 1) := by decide +kernel
theorem d_MO_edgesOf_70 : decode c_MO_edgesOf 70 = .ok (.iadd, 1) := by decide +kernel
theorem d_MO_edgesOf_71 : decode c_MO_edgesOf 71 = .ok (.lload 4, 2) := by decide +kernel
theorem d_MO_edgesOf_73 : decode c_MO_edgesOf 73 = .ok (.lastore, 1) := by decide +kernel
theorem d_MO_edgesOf_74 : decode c_MO_edgesOf 74 = .ok (.iinc 3 1, 3) := by decide +kernel
theorem d_MO_edgesOf_77 : decode c_MO_edgesOf 77 = .ok (.goto (-75), 3) := by decide +kernel
theorem d_MO_edgesOf_80 : decode c_MO_edgesOf 80 = .ok (.return_, 1) := by decide +kernel
theorem d_MO_turn_0 : decode c_MO_turn 0 = .ok (.iconst 0, 1) := by decide +kernel
theorem d_MO_turn_1 : decode c_MO_turn 1 = .ok (.istore_n 2, 1) := by decide +kernel
theorem d_MO_turn_2 : decode c_MO_turn 2 = .ok (.iload_n 2, 1) := by decide +kernel
theorem d_MO_turn_3 : decode c_MO_turn 3 = .ok (.bipush 64, 2) := by decide +kernel
theorem d_MO_turn_5 : decode c_MO_turn 5 = .ok (.if_icmp .ge 78, 3) := by decide +kernel
theorem d_MO_turn_8 : decode c_MO_turn 8 = .ok (.iconst 0, 1) := by decide +kernel
theorem d_MO_turn_9 : decode c_MO_turn 9 = .ok (.istore_n 3, 1) := by decide +kernel
theorem d_MO_turn_10 : decode c_MO_turn 10 = .ok (.iload_n 3, 1) := by decide +kernel
theorem d_MO_turn_11 : decode c_MO_turn 11 = .ok (.iload_n 2, 1) := by decide +kernel
theorem d_MO_turn_12 : decode c_MO_turn 12 = .ok (.if_icmp .ge 65, 3) := by decide +kernel
theorem d_MO_turn_15 : decode c_MO_turn 15 = .ok (.aload_n 0, 1) := by decide +kernel
theorem d_MO_turn_16 : decode c_MO_turn 16 = .ok (.getfield 25, 3) := by decide +kernel
theorem d_MO_turn_19 : decode c_MO_turn 19 = .ok (.iload_n 1, 1) := by decide +kernel
theorem d_MO_turn_20 : decode c_MO_turn 20 = .ok (.bipush 64, 2) := by decide +kernel
theorem d_MO_turn_22 : decode c_MO_turn 22 = .ok (.iload_n 2, 1) := by decide +kernel
theorem d_MO_turn_23 : decode c_MO_turn 23 = .ok (.imul, 1) := by decide +kernel
theorem d_MO_turn_24 : decode c_MO_turn 24 = .ok (.iadd, 1) := by decide +kernel
theorem d_MO_turn_25 : decode c_MO_turn 25 = .ok (.iload_n 3, 1) := by decide +kernel
theorem d_MO_turn_26 : decode c_MO_turn 26 = .ok (.iadd, 1) := by decide +kernel
theorem d_MO_turn_27 : decode c_MO_turn 27 = .ok (.laload, 1) := by decide +kernel
theorem d_MO_turn_28 : decode c_MO_turn 28 = .ok (.lstore 4, 2) := by decide +kernel
theorem d_MO_turn_30 : decode c_MO_turn 30 = .ok (.aload_n 0, 1) := by decide +kernel
theorem d_MO_turn_31 : decode c_MO_turn 31 = .ok (.getfield 25, 3) := by decide +kernel
theorem d_MO_turn_34 : decode c_MO_turn 34 = .ok (.iload_n 1, 1) := by decide +kernel
theorem d_MO_turn_35 : decode c_MO_turn 35 = .ok (.bipush 64, 2) := by decide +kernel
theorem d_MO_turn_37 : decode c_MO_turn 37 = .ok (.iload_n 2, 1) := by decide +kernel
theorem d_MO_turn_38 : decode c_MO_turn 38 = .ok (.imul, 1) := by decide +kernel
theorem d_MO_turn_39 : decode c_MO_turn 39 = .ok (.iadd, 1) := by decide +kernel
theorem d_MO_turn_40 : decode c_MO_turn 40 = .ok (.iload_n 3, 1) := by decide +kernel
theorem d_MO_turn_41 : decode c_MO_turn 41 = .ok (.iadd, 1) := by decide +kernel
theorem d_MO_turn_42 : decode c_MO_turn 42 = .ok (.aload_n 0, 1) := by decide +kernel
theorem d_MO_turn_43 : decode c_MO_turn 43 = .ok (.getfield 25, 3) := by decide +kernel
theorem d_MO_turn_46 : decode c_MO_turn 46 = .ok (.iload_n 1, 1) := by decide +kernel
theorem d_MO_turn_47 : decode c_MO_turn 47 = .ok (.bipush 64, 2) := by decide +kernel
theorem d_MO_turn_49 : decode c_MO_turn 49 = .ok (.iload_n 3, 1) := by decide +kernel
theorem d_MO_turn_50 : decode c_MO_turn 50 = .ok (.imul, 1) := by decide +kernel
theorem d_MO_turn_51 : decode c_MO_turn 51 = .ok (.iadd, 1) := by decide +kernel
theorem d_MO_turn_52 : decode c_MO_turn 52 = .ok (.iload_n 2, 1) := by decide +kernel
theorem d_MO_turn_53 : decode c_MO_turn 53 = .ok (.iadd, 1) := by decide +kernel
theorem d_MO_turn_54 : decode c_MO_turn 54 = .ok (.laload, 1) := by decide +kernel
theorem d_MO_turn_55 : decode c_MO_turn 55 = .ok (.lastore, 1) := by decide +kernel
theorem d_MO_turn_56 : decode c_MO_turn 56 = .ok (.aload_n 0, 1) := by decide +kernel
theorem d_MO_turn_57 : decode c_MO_turn 57 = .ok (.getfield 25, 3) := by decide +kernel
theorem d_MO_turn_60 : decode c_MO_turn 60 = .ok (.iload_n 1, 1) := by decide +kernel
theorem d_MO_turn_61 : decode c_MO_turn 61 = .ok (.bipush 64, 2) := by decide +kernel
theorem d_MO_turn_63 : decode c_MO_turn 63 = .ok (.iload_n 3, 1) := by decide +kernel
theorem d_MO_turn_64 : decode c_MO_turn 64 = .ok (.imul, 1) := by decide +kernel
theorem d_MO_turn_65 : decode c_MO_turn 65 = .ok (.iadd, 1) := by decide +kernel
theorem d_MO_turn_66 : decode c_MO_turn 66 = .ok (.iload_n 2, 1) := by decide +kernel
theorem d_MO_turn_67 : decode c_MO_turn 67 = .ok (.iadd, 1) := by decide +kernel
theorem d_MO_turn_68 : decode c_MO_turn 68 = .ok (.lload 4, 2) := by decide +kernel
theorem d_MO_turn_70 : decode c_MO_turn 70 = .ok (.lastore, 1) := by decide +kernel
theorem d_MO_turn_71 : decode c_MO_turn 71 = .ok (.iinc 3 1, 3) := by decide +kernel
theorem d_MO_turn_74 : decode c_MO_turn 74 = .ok (.goto (-64), 3) := by decide +kernel
theorem d_MO_turn_77 : decode c_MO_turn 77 = .ok (.iinc 2 1, 3) := by decide +kernel
theorem d_MO_turn_80 : decode c_MO_turn 80 = .ok (.goto (-78), 3) := by decide +kernel
theorem d_MO_turn_83 : decode c_MO_turn 83 = .ok (.return_, 1) := by decide +kernel
theorem d_MO_chain_0 : decode c_MO_chain 0 = .ok (.aload_n 0, 1) := by decide +kernel
theorem d_MO_chain_1 : decode c_MO_chain 1 = .ok (.getfield 29, 3) := by decide +kernel
theorem d_MO_chain_4 : decode c_MO_chain 4 = .ok (.astore_n 3, 1) := by decide +kernel
theorem d_MO_chain_5 : decode c_MO_chain 5 = .ok (.iconst 0, 1) := by decide +kernel
theorem d_MO_chain_6 : decode c_MO_chain 6 = .ok (.istore 4, 2) := by decide +kernel
theorem d_MO_chain_8 : decode c_MO_chain 8 = .ok (.iload 4, 2) := by decide +kernel
theorem d_MO_chain_10 : decode c_MO_chain 10 = .ok (.bipush 64, 2) := by decide +kernel
theorem d_MO_chain_12 : decode c_MO_chain 12 = .ok (.if_icmp .ge 156, 3) := by decide +kernel
theorem d_MO_chain_15 : decode c_MO_chain 15 = .ok (.iconst 0, 1) := by decide +kernel
theorem d_MO_chain_16 : decode c_MO_chain 16 = .ok (.istore 5, 2) := by decide +kernel
theorem d_MO_chain_18 : decode c_MO_chain 18 = .ok (.iload 5, 2) := by decide +kernel
theorem d_MO_chain_20 : decode c_MO_chain 20 = .ok (.bipush 64, 2) := by decide +kernel
theorem d_MO_chain_22 : decode c_MO_chain 22 = .ok (.if_icmp .ge 14, 3) := by decide +kernel
theorem d_MO_chain_25 : decode c_MO_chain 25 = .ok (.aload_n 3, 1) := by decide +kernel
theorem d_MO_chain_26 : decode c_MO_chain 26 = .ok (.iload 5, 2) := by decide +kernel
theorem d_MO_chain_28 : decode c_MO_chain 28 = .ok (.lconst 0, 1) := by decide +kernel
theorem d_MO_chain_29 : decode c_MO_chain 29 = .ok (.lastore, 1) := by decide +kernel
theorem d_MO_chain_30 : decode c_MO_chain 30 = .ok (.iinc 5 1, 3) := by decide +kernel
theorem d_MO_chain_33 : decode c_MO_chain 33 = .ok (.goto (-15), 3) := by decide +kernel
theorem d_MO_chain_36 : decode c_MO_chain 36 = .ok (.iconst 0, 1) := by decide +kernel
theorem d_MO_chain_37 : decode c_MO_chain 37 = .ok (.istore 5, 2) := by decide +kernel
theorem d_MO_chain_39 : decode c_MO_chain 39 = .ok (.iload 5, 2) := by decide +kernel
theorem d_MO_chain_41 : decode c_MO_chain 41 = .ok (.bipush 64, 2) := by decide +kernel
theorem d_MO_chain_43 : decode c_MO_chain 43 = .ok (.if_icmp .ge 84, 3) := by decide +kernel
theorem d_MO_chain_46 : decode c_MO_chain 46 = .ok (.aload_n 0, 1) := by decide +kernel
theorem d_MO_chain_47 : decode c_MO_chain 47 = .ok (.getfield 25, 3) := by decide +kernel
theorem d_MO_chain_50 : decode c_MO_chain 50 = .ok (.iload_n 1, 1) := by decide +kernel
theorem d_MO_chain_51 : decode c_MO_chain 51 = .ok (.bipush 64, 2) := by decide +kernel
theorem d_MO_chain_53 : decode c_MO_chain 53 = .ok (.iload 4, 2) := by decide +kernel
theorem d_MO_chain_55 : decode c_MO_chain 55 = .ok (.imul, 1) := by decide +kernel
theorem d_MO_chain_56 : decode c_MO_chain 56 = .ok (.iadd, 1) := by decide +kernel
theorem d_MO_chain_57 : decode c_MO_chain 57 = .ok (.iload 5, 2) := by decide +kernel
theorem d_MO_chain_59 : decode c_MO_chain 59 = .ok (.iadd, 1) := by decide +kernel
theorem d_MO_chain_60 : decode c_MO_chain 60 = .ok (.laload, 1) := by decide +kernel
theorem d_MO_chain_61 : decode c_MO_chain 61 = .ok (.lstore 6, 2) := by decide +kernel
theorem d_MO_chain_63 : decode c_MO_chain 63 = .ok (.lload 6, 2) := by decide +kernel
theorem d_MO_chain_65 : decode c_MO_chain 65 = .ok (.lconst 0, 1) := by decide +kernel
theorem d_MO_chain_66 : decode c_MO_chain 66 = .ok (.lcmp, 1) := by decide +kernel
theorem d_MO_chain_67 : decode c_MO_chain 67 = .ok (.ifCond .ne 6, 3) := by decide +kernel
theorem d_MO_chain_70 : decode c_MO_chain 70 = .ok (.goto 51, 3) := by decide +kernel
theorem d_MO_chain_73 : decode c_MO_chain 73 = .ok (.iconst 0, 1) := by decide +kernel
theorem d_MO_chain_74 : decode c_MO_chain 74 = .ok (.istore 8, 2) := by decide +kernel
theorem d_MO_chain_76 : decode c_MO_chain 76 = .ok (.iload 8, 2) := by decide +kernel
theorem d_MO_chain_78 : decode c_MO_chain 78 = .ok (.bipush 64, 2) := by decide +kernel
theorem d_MO_chain_80 : decode c_MO_chain 80 = .ok (.if_icmp .ge 41, 3) := by decide +kernel
theorem d_MO_chain_83 : decode c_MO_chain 83 = .ok (.aload_n 3, 1) := by decide +kernel
theorem d_MO_chain_84 : decode c_MO_chain 84 = .ok (.iload 8, 2) := by decide +kernel
theorem d_MO_chain_86 : decode c_MO_chain 86 = .ok (.aload_n 3, 1) := by decide +kernel
theorem d_MO_chain_87 : decode c_MO_chain 87 = .ok (.iload 8, 2) := by decide +kernel
theorem d_MO_chain_89 : decode c_MO_chain 89 = .ok (.laload, 1) := by decide +kernel
theorem d_MO_chain_90 : decode c_MO_chain 90 = .ok (.lload 6, 2) := by decide +kernel
theorem d_MO_chain_92 : decode c_MO_chain 92 = .ok (.aload_n 0, 1) := by decide +kernel
theorem d_MO_chain_93 : decode c_MO_chain 93 = .ok (.getfield 25, 3) := by decide +kernel
theorem d_MO_chain_96 : decode c_MO_chain 96 = .ok (.iload_n 2, 1) := by decide +kernel
theorem d_MO_chain_97 : decode c_MO_chain 97 = .ok (.bipush 64, 2) := by decide +kernel
theorem d_MO_chain_99 : decode c_MO_chain 99 = .ok (.iload 5, 2) := by decide +kernel
theorem d_MO_chain_101 : decode c_MO_chain 101 = .ok (.imul, 1) := by decide +kernel
theorem d_MO_chain_102 : decode c_MO_chain 102 = .ok (.iadd, 1) := by decide +kernel
theorem d_MO_chain_103 : decode c_MO_chain 103 = .ok (.iload 8, 2) := by decide +kernel
theorem d_MO_chain_105 : decode c_MO_chain 105 = .ok (.iadd, 1) := by decide +kernel
theorem d_MO_chain_106 : decode c_MO_chain 106 = .ok (.laload, 1) := by decide +kernel
theorem d_MO_chain_107 : decode c_MO_chain 107 = .ok (.invokestatic 64, 3) := by decide +kernel
theorem d_MO_chain_110 : decode c_MO_chain 110 = .ok (.ladd, 1) := by decide +kernel
theorem d_MO_chain_111 : decode c_MO_chain 111 = .ok (.invokestatic 68, 3) := by decide +kernel
theorem d_MO_chain_114 : decode c_MO_chain 114 = .ok (.lastore, 1) := by decide +kernel
theorem d_MO_chain_115 : decode c_MO_chain 115 = .ok (.iinc 8 1, 3) := by decide +kernel
theorem d_MO_chain_118 : decode c_MO_chain 118 = .ok (.goto (-42), 3) := by decide +kernel
theorem d_MO_chain_121 : decode c_MO_chain 121 = .ok (.iinc 5 1, 3) := by decide +kernel
theorem d_MO_chain_124 : decode c_MO_chain 124 = .ok (.goto (-85), 3) := by decide +kernel
theorem d_MO_chain_127 : decode c_MO_chain 127 = .ok (.iconst 0, 1) := by decide +kernel
theorem d_MO_chain_128 : decode c_MO_chain 128 = .ok (.istore 5, 2) := by decide +kernel
theorem d_MO_chain_130 : decode c_MO_chain 130 = .ok (.iload 5, 2) := by decide +kernel
theorem d_MO_chain_132 : decode c_MO_chain 132 = .ok (.bipush 64, 2) := by decide +kernel
theorem d_MO_chain_134 : decode c_MO_chain 134 = .ok (.if_icmp .ge 28, 3) := by decide +kernel
theorem d_MO_chain_137 : decode c_MO_chain 137 = .ok (.aload_n 0, 1) := by decide +kernel
theorem d_MO_chain_138 : decode c_MO_chain 138 = .ok (.getfield 25, 3) := by decide +kernel
theorem d_MO_chain_141 : decode c_MO_chain 141 = .ok (.iload_n 1, 1) := by decide +kernel
theorem d_MO_chain_142 : decode c_MO_chain 142 = .ok (.bipush 64, 2) := by decide +kernel
theorem d_MO_chain_144 : decode c_MO_chain 144 = .ok (.iload 4, 2) := by decide +kernel
theorem d_MO_chain_146 : decode c_MO_chain 146 = .ok (.imul, 1) := by decide +kernel
theorem d_MO_chain_147 : decode c_MO_chain 147 = .ok (.iadd, 1) := by decide +kernel
theorem d_MO_chain_148 : decode c_MO_chain 148 = .ok (.iload 5, 2) := by decide +kernel
theorem d_MO_chain_150 : decode c_MO_chain 150 = .ok (.iadd, 1) := by decide +kernel
theorem d_MO_chain_151 : decode c_MO_chain 151 = .ok (.aload_n 3, 1) := by decide +kernel
theorem d_MO_chain_152 : decode c_MO_chain 152 = .ok (.iload 5, 2) := by decide +kernel
theorem d_MO_chain_154 : decode c_MO_chain 154 = .ok (.laload, 1) := by decide +kernel
theorem d_MO_chain_155 : decode c_MO_chain 155 = .ok (.lastore, 1) := by decide +kernel
theorem d_MO_chain_156 : decode c_MO_chain 156 = .ok (.iinc 5 1, 3) := by decide +kernel
theorem d_MO_chain_159 : decode c_MO_chain 159 = .ok (.goto (-29), 3) := by decide +kernel
theorem d_MO_chain_162 : decode c_MO_chain 162 = .ok (.iinc 4 1, 3) := by decide +kernel
theorem d_MO_chain_165 : decode c_MO_chain 165 = .ok (.goto (-157), 3) := by decide +kernel
theorem d_MO_chain_168 : decode c_MO_chain 168 = .ok (.return_, 1) := by decide +kernel
theorem d_MO_product_0 : decode c_MO_product 0 = .ok (.lload_n 0, 1) := by decide +kernel
theorem d_MO_product_1 : decode c_MO_product 1 = .ok (.lconst 0, 1) := by decide +kernel
theorem d_MO_product_2 : decode c_MO_product 2 = .ok (.lcmp, 1) := by decide +kernel
theorem d_MO_product_3 : decode c_MO_product 3 = .ok (.ifCond .eq 9, 3) := by decide +kernel
theorem d_MO_product_6 : decode c_MO_product 6 = .ok (.lload_n 2, 1) := by decide +kernel
theorem d_MO_product_7 : decode c_MO_product 7 = .ok (.lconst 0, 1) := by decide +kernel
theorem d_MO_product_8 : decode c_MO_product 8 = .ok (.lcmp, 1) := by decide +kernel
theorem d_MO_product_9 : decode c_MO_product 9 = .ok (.ifCond .ne 7, 3) := by decide +kernel
theorem d_MO_product_12 : decode c_MO_product 12 = .ok (.lconst 0, 1) := by decide +kernel
theorem d_MO_product_13 : decode c_MO_product 13 = .ok (.goto 22, 3) := by decide +kernel
theorem d_MO_product_16 : decode c_MO_product 16 = .ok (.lload_n 2, 1) := by decide +kernel
theorem d_MO_product_17 : decode c_MO_product 17 = .ok (.ldc2_w 62, 3) := by decide +kernel
theorem d_MO_product_20 : decode c_MO_product 20 = .ok (.lload_n 0, 1) := by decide +kernel
theorem d_MO_product_21 : decode c_MO_product 21 = .ok (.ldiv, 1) := by decide +kernel
theorem d_MO_product_22 : decode c_MO_product 22 = .ok (.lcmp, 1) := by decide +kernel
theorem d_MO_product_23 : decode c_MO_product 23 = .ok (.ifCond .le 9, 3) := by decide +kernel
theorem d_MO_product_26 : decode c_MO_product 26 = .ok (.ldc2_w 62, 3) := by decide +kernel
theorem d_MO_product_29 : decode c_MO_product 29 = .ok (.goto 6, 3) := by decide +kernel
theorem d_MO_product_32 : decode c_MO_product 32 = .ok (.lload_n 0, 1) := by decide +kernel
theorem d_MO_product_33 : decode c_MO_product 33 = .ok (.lload_n 2, 1) := by decide +kernel
theorem d_MO_product_34 : decode c_MO_product 34 = .ok (.lmul, 1) := by decide +kernel
theorem d_MO_product_35 : decode c_MO_product 35 = .ok (.lreturn, 1) := by decide +kernel
theorem d_MO_least_0 : decode c_MO_least 0 = .ok (.lload_n 0, 1) := by decide +kernel
theorem d_MO_least_1 : decode c_MO_least 1 = .ok (.ldc2_w 62, 3) := by decide +kernel
theorem d_MO_least_4 : decode c_MO_least 4 = .ok (.lcmp, 1) := by decide +kernel
theorem d_MO_least_5 : decode c_MO_least 5 = .ok (.ifCond .le 9, 3) := by decide +kernel
theorem d_MO_least_8 : decode c_MO_least 8 = .ok (.ldc2_w 62, 3) := by decide +kernel
theorem d_MO_least_11 : decode c_MO_least 11 = .ok (.goto 4, 3) := by decide +kernel
theorem d_MO_least_14 : decode c_MO_least 14 = .ok (.lload_n 0, 1) := by decide +kernel
theorem d_MO_least_15 : decode c_MO_least 15 = .ok (.lreturn, 1) := by decide +kernel
theorem d_MO_fall_0 : decode c_MO_fall 0 = .ok (.iconst 0, 1) := by decide +kernel
theorem d_MO_fall_1 : decode c_MO_fall 1 = .ok (.istore_n 2, 1) := by decide +kernel
theorem d_MO_fall_2 : decode c_MO_fall 2 = .ok (.iload_n 2, 1) := by decide +kernel
theorem d_MO_fall_3 : decode c_MO_fall 3 = .ok (.sipush 4096, 3) := by decide +kernel
theorem d_MO_fall_6 : decode c_MO_fall 6 = .ok (.if_icmp .ge 29, 3) := by decide +kernel
theorem d_MO_fall_9 : decode c_MO_fall 9 = .ok (.aload_n 0, 1) := by decide +kernel
theorem d_MO_fall_10 : decode c_MO_fall 10 = .ok (.getfield 25, 3) := by decide +kernel
theorem d_MO_fall_13 : decode c_MO_fall 13 = .ok (.iload_n 1, 1) := by decide +kernel
theorem d_MO_fall_14 : decode c_MO_fall 14 = .ok (.sipush 4096, 3) := by decide +kernel
theorem d_MO_fall_17 : decode c_MO_fall 17 = .ok (.isub, 1) := by decide +kernel
theorem d_MO_fall_18 : decode c_MO_fall 18 = .ok (.iload_n 2, 1) := by decide +kernel
theorem d_MO_fall_19 : decode c_MO_fall 19 = .ok (.iadd, 1) := by decide +kernel
theorem d_MO_fall_20 : decode c_MO_fall 20 = .ok (.aload_n 0, 1) := by decide +kernel
theorem d_MO_fall_21 : decode c_MO_fall 21 = .ok (.getfield 25, 3) := by decide +kernel
theorem d_MO_fall_24 : decode c_MO_fall 24 = .ok (.iload_n 1, 1) := by decide +kernel
theorem d_MO_fall_25 : decode c_MO_fall 25 = .ok (.iload_n 2, 1) := by decide +kernel
theorem d_MO_fall_26 : decode c_MO_fall 26 = .ok (.iadd, 1) := by decide +kernel
theorem d_MO_fall_27 : decode c_MO_fall 27 = .ok (.laload, 1) := by decide +kernel
theorem d_MO_fall_28 : decode c_MO_fall 28 = .ok (.lastore, 1) := by decide +kernel
theorem d_MO_fall_29 : decode c_MO_fall 29 = .ok (.iinc 2 1, 3) := by decide +kernel
theorem d_MO_fall_32 : decode c_MO_fall 32 = .ok (.goto (-30), 3) := by decide +kernel
theorem d_MO_fall_35 : decode c_MO_fall 35 = .ok (.return_, 1) := by decide +kernel
theorem d_MO_mark_0 : decode c_MO_mark 0 = .ok (.iconst 0, 1) := by decide +kernel
theorem d_MO_mark_1 : decode c_MO_mark 1 = .ok (.istore_n 3, 1) := by decide +kernel
theorem d_MO_mark_2 : decode c_MO_mark 2 = .ok (.iload_n 3, 1) := by decide +kernel
theorem d_MO_mark_3 : decode c_MO_mark 3 = .ok (.sipush 4096, 3) := by decide +kernel
theorem d_MO_mark_6 : decode c_MO_mark 6 = .ok (.if_icmp .ge 62, 3) := by decide +kernel
theorem d_MO_mark_9 : decode c_MO_mark 9 = .ok (.aload_n 0, 1) := by decide +kernel
theorem d_MO_mark_10 : decode c_MO_mark 10 = .ok (.getfield 25, 3) := by decide +kernel
theorem d_MO_mark_13 : decode c_MO_mark 13 = .ok (.iload_n 1, 1) := by decide +kernel
theorem d_MO_mark_14 : decode c_MO_mark 14 = .ok (.iload_n 3, 1) := by decide +kernel
theorem d_MO_mark_15 : decode c_MO_mark 15 = .ok (.iadd, 1) := by decide +kernel
theorem d_MO_mark_16 : decode c_MO_mark 16 = .ok (.laload, 1) := by decide +kernel
theorem d_MO_mark_17 : decode c_MO_mark 17 = .ok (.lconst 0, 1) := by decide +kernel
theorem d_MO_mark_18 : decode c_MO_mark 18 = .ok (.lcmp, 1) := by decide +kernel
theorem d_MO_mark_19 : decode c_MO_mark 19 = .ok (.ifCond .gt 18, 3) := by decide +kernel
theorem d_MO_mark_22 : decode c_MO_mark 22 = .ok (.iload_n 2, 1) := by decide +kernel
theorem d_MO_mark_23 : decode c_MO_mark 23 = .ok (.ifCond .eq 18, 3) := by decide +kernel
theorem d_MO_mark_26 : decode c_MO_mark 26 = .ok (.iload_n 3, 1) := by decide +kernel
theorem d_MO_mark_27 : decode c_MO_mark 27 = .ok (.bipush 64, 2) := by decide +kernel
theorem d_MO_mark_29 : decode c_MO_mark 29 = .ok (.idiv, 1) := by decide +kernel
theorem d_MO_mark_30 : decode c_MO_mark 30 = .ok (.iload_n 3, 1) := by decide +kernel
theorem d_MO_mark_31 : decode c_MO_mark 31 = .ok (.bipush 64, 2) := by decide +kernel
theorem d_MO_mark_33 : decode c_MO_mark 33 = .ok (.irem, 1) := by decide +kernel
theorem d_MO_mark_34 : decode c_MO_mark 34 = .ok (.if_icmp .ne 7, 3) := by decide +kernel
theorem d_MO_mark_37 : decode c_MO_mark 37 = .ok (.iconst 1, 1) := by decide +kernel
theorem d_MO_mark_38 : decode c_MO_mark 38 = .ok (.goto 4, 3) := by decide +kernel
theorem d_MO_mark_41 : decode c_MO_mark 41 = .ok (.iconst 0, 1) := by decide +kernel
theorem d_MO_mark_42 : decode c_MO_mark 42 = .ok (.istore 4, 2) := by decide +kernel
theorem d_MO_mark_44 : decode c_MO_mark 44 = .ok (.aload_n 0, 1) := by decide +kernel
theorem d_MO_mark_45 : decode c_MO_mark 45 = .ok (.getfield 25, 3) := by decide +kernel
theorem d_MO_mark_48 : decode c_MO_mark 48 = .ok (.iload_n 1, 1) := by decide +kernel
theorem d_MO_mark_49 : decode c_MO_mark 49 = .ok (.iload_n 3, 1) := by decide +kernel
theorem d_MO_mark_50 : decode c_MO_mark 50 = .ok (.iadd, 1) := by decide +kernel
theorem d_MO_mark_51 : decode c_MO_mark 51 = .ok (.iload 4, 2) := by decide +kernel
theorem d_MO_mark_53 : decode c_MO_mark 53 = .ok (.ifCond .eq 7, 3) := by decide +kernel
theorem d_MO_mark_56 : decode c_MO_mark 56 = .ok (.lconst 1, 1) := by decide +kernel
theorem d_MO_mark_57 : decode c_MO_mark 57 = .ok (.goto 4, 3) := by decide +kernel
theorem d_MO_mark_60 : decode c_MO_mark 60 = .ok (.lconst 0, 1) := by decide +kernel
theorem d_MO_mark_61 : decode c_MO_mark 61 = .ok (.lastore, 1) := by decide +kernel
theorem d_MO_mark_62 : decode c_MO_mark 62 = .ok (.iinc 3 1, 3) := by decide +kernel
theorem d_MO_mark_65 : decode c_MO_mark 65 = .ok (.goto (-63), 3) := by decide +kernel
theorem d_MO_mark_68 : decode c_MO_mark 68 = .ok (.return_, 1) := by decide +kernel
theorem d_MO_close_0 : decode c_MO_close 0 = .ok (.aload_n 0, 1) := by decide +kernel
theorem d_MO_close_1 : decode c_MO_close 1 = .ok (.iload_n 1, 1) := by decide +kernel
theorem d_MO_close_2 : decode c_MO_close 2 = .ok (.iload_n 2, 1) := by decide +kernel
theorem d_MO_close_3 : decode c_MO_close 3 = .ok (.invokevirtual 72, 3) := by decide +kernel
theorem d_MO_close_6 : decode c_MO_close 6 = .ok (.iconst 0, 1) := by decide +kernel
theorem d_MO_close_7 : decode c_MO_close 7 = .ok (.istore_n 3, 1) := by decide +kernel
theorem d_MO_close_8 : decode c_MO_close 8 = .ok (.iload_n 3, 1) := by decide +kernel
theorem d_MO_close_9 : decode c_MO_close 9 = .ok (.bipush 64, 2) := by decide +kernel
theorem d_MO_close_11 : decode c_MO_close 11 = .ok (.if_icmp .ge 95, 3) := by decide +kernel
theorem d_MO_close_14 : decode c_MO_close 14 = .ok (.iconst 0, 1) := by decide +kernel
theorem d_MO_close_15 : decode c_MO_close 15 = .ok (.istore 4, 2) := by decide +kernel
theorem d_MO_close_17 : decode c_MO_close 17 = .ok (.iload 4, 2) := by decide +kernel
theorem d_MO_close_19 : decode c_MO_close 19 = .ok (.bipush 64, 2) := by decide +kernel
theorem d_MO_close_21 : decode c_MO_close 21 = .ok (.if_icmp .ge 79, 3) := by decide +kernel
theorem d_MO_close_24 : decode c_MO_close 24 = .ok (.aload_n 0, 1) := by decide +kernel
theorem d_MO_close_25 : decode c_MO_close 25 = .ok (.getfield 25, 3) := by decide +kernel
theorem d_MO_close_28 : decode c_MO_close 28 = .ok (.iload_n 1, 1) := by decide +kernel
theorem d_MO_close_29 : decode c_MO_close 29 = .ok (.bipush 64, 2) := by decide +kernel
theorem d_MO_close_31 : decode c_MO_close 31 = .ok (.iload 4, 2) := by decide +kernel
theorem d_MO_close_33 : decode c_MO_close 33 = .ok (.imul, 1) := by decide +kernel
theorem d_MO_close_34 : decode c_MO_close 34 = .ok (.iadd, 1) := by decide +kernel
theorem d_MO_close_35 : decode c_MO_close 35 = .ok (.iload_n 3, 1) := by decide +kernel
theorem d_MO_close_36 : decode c_MO_close 36 = .ok (.iadd, 1) := by decide +kernel
theorem d_MO_close_37 : decode c_MO_close 37 = .ok (.laload, 1) := by decide +kernel
theorem d_MO_close_38 : decode c_MO_close 38 = .ok (.lconst 0, 1) := by decide +kernel
theorem d_MO_close_39 : decode c_MO_close 39 = .ok (.lcmp, 1) := by decide +kernel
theorem d_MO_close_40 : decode c_MO_close 40 = .ok (.ifCond .ne 6, 3) := by decide +kernel
theorem d_MO_close_43 : decode c_MO_close 43 = .ok (.goto 51, 3) := by decide +kernel
theorem d_MO_close_46 : decode c_MO_close 46 = .ok (.iconst 0, 1) := by decide +kernel
theorem d_MO_close_47 : decode c_MO_close 47 = .ok (.istore 5, 2) := by decide +kernel
theorem d_MO_close_49 : decode c_MO_close 49 = .ok (.iload 5, 2) := by decide +kernel
theorem d_MO_close_51 : decode c_MO_close 51 = .ok (.bipush 64, 2) := by decide +kernel
theorem d_MO_close_53 : decode c_MO_close 53 = .ok (.if_icmp .ge 41, 3) := by decide +kernel
theorem d_MO_close_56 : decode c_MO_close 56 = .ok (.aload_n 0, 1) := by decide +kernel
theorem d_MO_close_57 : decode c_MO_close 57 = .ok (.getfield 25, 3) := by decide +kernel
theorem d_MO_close_60 : decode c_MO_close 60 = .ok (.iload_n 1, 1) := by decide +kernel
theorem d_MO_close_61 : decode c_MO_close 61 = .ok (.bipush 64, 2) := by decide +kernel
theorem d_MO_close_63 : decode c_MO_close 63 = .ok (.iload 4, 2) := by decide +kernel
theorem d_MO_close_65 : decode c_MO_close 65 = .ok (.imul, 1) := by decide +kernel
theorem d_MO_close_66 : decode c_MO_close 66 = .ok (.iadd, 1) := by decide +kernel
theorem d_MO_close_67 : decode c_MO_close 67 = .ok (.iload 5, 2) := by decide +kernel
theorem d_MO_close_69 : decode c_MO_close 69 = .ok (.iadd, 1) := by decide +kernel
theorem d_MO_close_70 : decode c_MO_close 70 = .ok (.dup2, 1) := by decide +kernel
theorem d_MO_close_71 : decode c_MO_close 71 = .ok (.laload, 1) := by decide +kernel
theorem d_MO_close_72 : decode c_MO_close 72 = .ok (.aload_n 0, 1) := by decide +kernel
theorem d_MO_close_73 : decode c_MO_close 73 = .ok (.getfield 25, 3) := by decide +kernel
theorem d_MO_close_76 : decode c_MO_close 76 = .ok (.iload_n 1, 1) := by decide +kernel
theorem d_MO_close_77 : decode c_MO_close 77 = .ok (.bipush 64, 2) := by decide +kernel
theorem d_MO_close_79 : decode c_MO_close 79 = .ok (.iload_n 3, 1) := by decide +kernel
theorem d_MO_close_80 : decode c_MO_close 80 = .ok (.imul, 1) := by decide +kernel
theorem d_MO_close_81 : decode c_MO_close 81 = .ok (.iadd, 1) := by decide +kernel
theorem d_MO_close_82 : decode c_MO_close 82 = .ok (.iload 5, 2) := by decide +kernel
theorem d_MO_close_84 : decode c_MO_close 84 = .ok (.iadd, 1) := by decide +kernel
theorem d_MO_close_85 : decode c_MO_close 85 = .ok (.laload, 1) := by decide +kernel
theorem d_MO_close_86 : decode c_MO_close 86 = .ok (.lor, 1) := by decide +kernel
theorem d_MO_close_87 : decode c_MO_close 87 = .ok (.lastore, 1) := by decide +kernel
theorem d_MO_close_88 : decode c_MO_close 88 = .ok (.iinc 5 1, 3) := by decide +kernel
theorem d_MO_close_91 : decode c_MO_close 91 = .ok (.goto (-42), 3) := by decide +kernel
theorem d_MO_close_94 : decode c_MO_close 94 = .ok (.iinc 4 1, 3) := by decide +kernel
theorem d_MO_close_97 : decode c_MO_close 97 = .ok (.goto (-80), 3) := by decide +kernel
theorem d_MO_close_100 : decode c_MO_close 100 = .ok (.iinc 3 1, 3) := by decide +kernel
theorem d_MO_close_103 : decode c_MO_close 103 = .ok (.goto (-95), 3) := by decide +kernel
theorem d_MO_close_106 : decode c_MO_close 106 = .ok (.return_, 1) := by decide +kernel
theorem d_MO_ends_0 : decode c_MO_ends 0 = .ok (.iload_n 1, 1) := by decide +kernel
theorem d_MO_ends_1 : decode c_MO_ends 1 = .ok (.invokestatic 32, 3) := by decide +kernel
theorem d_MO_ends_4 : decode c_MO_ends 4 = .ok (.ifCond .ne 5, 3) := by decide +kernel
theorem d_MO_ends_7 : decode c_MO_ends 7 = .ok (.iconst (-1), 1) := by decide +kernel
theorem d_MO_ends_8 : decode c_MO_ends 8 = .ok (.ireturn, 1) := by decide +kernel
theorem d_MO_ends_9 : decode c_MO_ends 9 = .ok (.aload_n 0, 1) := by decide +kernel
theorem d_MO_ends_10 : decode c_MO_ends 10 = .ok (.invokevirtual 99, 3) := by decide +kernel
theorem d_MO_ends_13 : decode c_MO_ends 13 = .ok (.ifCond .ne 6, 3) := by decide +kernel
theorem d_MO_ends_16 : decode c_MO_ends 16 = .ok (.bipush (-2), 2) := by decide +kernel
theorem d_MO_ends_18 : decode c_MO_ends 18 = .ok (.ireturn, 1) := by decide +kernel
theorem d_MO_ends_19 : decode c_MO_ends 19 = .ok (.iconst 0, 1) := by decide +kernel
theorem d_MO_ends_20 : decode c_MO_ends 20 = .ok (.istore_n 2, 1) := by decide +kernel
theorem d_MO_ends_21 : decode c_MO_ends 21 = .ok (.iconst 0, 1) := by decide +kernel
theorem d_MO_ends_22 : decode c_MO_ends 22 = .ok (.istore_n 3, 1) := by decide +kernel
theorem d_MO_ends_23 : decode c_MO_ends 23 = .ok (.iload_n 3, 1) := by decide +kernel
theorem d_MO_ends_24 : decode c_MO_ends 24 = .ok (.bipush 64, 2) := by decide +kernel
theorem d_MO_ends_26 : decode c_MO_ends 26 = .ok (.if_icmp .ge 33, 3) := by decide +kernel
theorem d_MO_ends_29 : decode c_MO_ends 29 = .ok (.iload_n 2, 1) := by decide +kernel
theorem d_MO_ends_30 : decode c_MO_ends 30 = .ok (.aload_n 0, 1) := by decide +kernel
theorem d_MO_ends_31 : decode c_MO_ends 31 = .ok (.getfield 25, 3) := by decide +kernel
theorem d_MO_ends_34 : decode c_MO_ends 34 = .ok (.bipush 64, 2) := by decide +kernel
theorem d_MO_ends_36 : decode c_MO_ends 36 = .ok (.iload_n 1, 1) := by decide +kernel
theorem d_MO_ends_37 : decode c_MO_ends 37 = .ok (.imul, 1) := by decide +kernel
theorem d_MO_ends_38 : decode c_MO_ends 38 = .ok (.iload_n 3, 1) := by decide +kernel
theorem d_MO_ends_39 : decode c_MO_ends 39 = .ok (.iadd, 1) := by decide +kernel
theorem d_MO_ends_40 : decode c_MO_ends 40 = .ok (.laload, 1) := by decide +kernel
theorem d_MO_ends_41 : decode c_MO_ends 41 = .ok (.lconst 0, 1) := by decide +kernel
theorem d_MO_ends_42 : decode c_MO_ends 42 = .ok (.lcmp, 1) := by decide +kernel
theorem d_MO_ends_43 : decode c_MO_ends 43 = .ok (.ifCond .le 7, 3) := by decide +kernel
theorem d_MO_ends_46 : decode c_MO_ends 46 = .ok (.iconst 1, 1) := by decide +kernel
theorem d_MO_ends_47 : decode c_MO_ends 47 = .ok (.goto 4, 3) := by decide +kernel
theorem d_MO_ends_50 : decode c_MO_ends 50 = .ok (.iconst 0, 1) := by decide +kernel
theorem d_MO_ends_51 : decode c_MO_ends 51 = .ok (.iadd, 1) := by decide +kernel
theorem d_MO_ends_52 : decode c_MO_ends 52 = .ok (.istore_n 2, 1) := by decide +kernel
theorem d_MO_ends_53 : decode c_MO_ends 53 = .ok (.iinc 3 1, 3) := by decide +kernel
theorem d_MO_ends_56 : decode c_MO_ends 56 = .ok (.goto (-33), 3) := by decide +kernel
theorem d_MO_ends_59 : decode c_MO_ends 59 = .ok (.iload_n 2, 1) := by decide +kernel
theorem d_MO_ends_60 : decode c_MO_ends 60 = .ok (.ireturn, 1) := by decide +kernel
theorem d_MO_reached_0 : decode c_MO_reached 0 = .ok (.iload_n 1, 1) := by decide +kernel
theorem d_MO_reached_1 : decode c_MO_reached 1 = .ok (.invokestatic 32, 3) := by decide +kernel
theorem d_MO_reached_4 : decode c_MO_reached 4 = .ok (.ifCond .eq 10, 3) := by decide +kernel
theorem d_MO_reached_7 : decode c_MO_reached 7 = .ok (.aload_n 0, 1) := by decide +kernel
theorem d_MO_reached_8 : decode c_MO_reached 8 = .ok (.invokevirtual 99, 3) := by decide +kernel
theorem d_MO_reached_11 : decode c_MO_reached 11 = .ok (.ifCond .ne 5, 3) := by decide +kernel
theorem d_MO_reached_14 : decode c_MO_reached 14 = .ok (.lconst 0, 1) := by decide +kernel
theorem d_MO_reached_15 : decode c_MO_reached 15 = .ok (.lreturn, 1) := by decide +kernel
theorem d_MO_reached_16 : decode c_MO_reached 16 = .ok (.lconst 0, 1) := by decide +kernel
theorem d_MO_reached_17 : decode c_MO_reached 17 = .ok (.lstore_n 2, 1) := by decide +kernel
theorem d_MO_reached_18 : decode c_MO_reached 18 = .ok (.iconst 0, 1) := by decide +kernel
theorem d_MO_reached_19 : decode c_MO_reached 19 = .ok (.istore 4, 2) := by decide +kernel
theorem d_MO_reached_21 : decode c_MO_reached 21 = .ok (.iload 4, 2) := by decide +kernel
theorem d_MO_reached_23 : decode c_MO_reached 23 = .ok (.bipush 64, 2) := by decide +kernel
theorem d_MO_reached_25 : decode c_MO_reached 25 = .ok (.if_icmp .ge 37, 3) := by decide +kernel
theorem d_MO_reached_28 : decode c_MO_reached 28 = .ok (.lload_n 2, 1) := by decide +kernel
theorem d_MO_reached_29 : decode c_MO_reached 29 = .ok (.aload_n 0, 1) := by decide +kernel
theorem d_MO_reached_30 : decode c_MO_reached 30 = .ok (.getfield 25, 3) := by decide +kernel
theorem d_MO_reached_33 : decode c_MO_reached 33 = .ok (.bipush 64, 2) := by decide +kernel
theorem d_MO_reached_35 : decode c_MO_reached 35 = .ok (.iload_n 1, 1) := by decide +kernel
theorem d_MO_reached_36 : decode c_MO_reached 36 = .ok (.imul, 1) := by decide +kernel
theorem d_MO_reached_37 : decode c_MO_reached 37 = .ok (.iload 4, 2) := by decide +kernel
theorem d_MO_reached_39 : decode c_MO_reached 39 = .ok (.iadd, 1) := by decide +kernel
theorem d_MO_reached_40 : decode c_MO_reached 40 = .ok (.laload, 1) := by decide +kernel
theorem d_MO_reached_41 : decode c_MO_reached 41 = .ok (.lconst 0, 1) := by decide +kernel
theorem d_MO_reached_42 : decode c_MO_reached 42 = .ok (.lcmp, 1) := by decide +kernel
theorem d_MO_reached_43 : decode c_MO_reached 43 = .ok (.ifCond .le 10, 3) := by decide +kernel
theorem d_MO_reached_46 : decode c_MO_reached 46 = .ok (.lconst 1, 1) := by decide +kernel
theorem d_MO_reached_47 : decode c_MO_reached 47 = .ok (.iload 4, 2) := by decide +kernel
theorem d_MO_reached_49 : decode c_MO_reached 49 = .ok (.lshl, 1) := by decide +kernel
theorem d_MO_reached_50 : decode c_MO_reached 50 = .ok (.goto 4, 3) := by decide +kernel
theorem d_MO_reached_53 : decode c_MO_reached 53 = .ok (.lconst 0, 1) := by decide +kernel
theorem d_MO_reached_54 : decode c_MO_reached 54 = .ok (.lor, 1) := by decide +kernel
theorem d_MO_reached_55 : decode c_MO_reached 55 = .ok (.lstore_n 2, 1) := by decide +kernel
theorem d_MO_reached_56 : decode c_MO_reached 56 = .ok (.iinc 4 1, 3) := by decide +kernel
theorem d_MO_reached_59 : decode c_MO_reached 59 = .ok (.goto (-38), 3) := by decide +kernel
theorem d_MO_reached_62 : decode c_MO_reached 62 = .ok (.lload_n 2, 1) := by decide +kernel
theorem d_MO_reached_63 : decode c_MO_reached 63 = .ok (.lreturn, 1) := by decide +kernel
theorem d_MO_all_0 : decode c_MO_all 0 = .ok (.iload_n 1, 1) := by decide +kernel
theorem d_MO_all_1 : decode c_MO_all 1 = .ok (.invokestatic 32, 3) := by decide +kernel
theorem d_MO_all_4 : decode c_MO_all 4 = .ok (.ifCond .ne 7, 3) := by decide +kernel
theorem d_MO_all_7 : decode c_MO_all 7 = .ok (.ldc2_w 97, 3) := by decide +kernel
theorem d_MO_all_10 : decode c_MO_all 10 = .ok (.lreturn, 1) := by decide +kernel
theorem d_MO_all_11 : decode c_MO_all 11 = .ok (.aload_n 0, 1) := by decide +kernel
theorem d_MO_all_12 : decode c_MO_all 12 = .ok (.invokevirtual 99, 3) := by decide +kernel
theorem d_MO_all_15 : decode c_MO_all 15 = .ok (.ifCond .ne 7, 3) := by decide +kernel
theorem d_MO_all_18 : decode c_MO_all 18 = .ok (.ldc2_w 103, 3) := by decide +kernel
theorem d_MO_all_21 : decode c_MO_all 21 = .ok (.lreturn, 1) := by decide +kernel
theorem d_MO_all_22 : decode c_MO_all 22 = .ok (.lconst 0, 1) := by decide +kernel
theorem d_MO_all_23 : decode c_MO_all 23 = .ok (.lstore_n 2, 1) := by decide +kernel
theorem d_MO_all_24 : decode c_MO_all 24 = .ok (.iconst 0, 1) := by decide +kernel
theorem d_MO_all_25 : decode c_MO_all 25 = .ok (.istore 4, 2) := by decide +kernel
theorem d_MO_all_27 : decode c_MO_all 27 = .ok (.iload 4, 2) := by decide +kernel
theorem d_MO_all_29 : decode c_MO_all 29 = .ok (.bipush 64, 2) := by decide +kernel
theorem d_MO_all_31 : decode c_MO_all 31 = .ok (.if_icmp .ge 27, 3) := by decide +kernel
theorem d_MO_all_34 : decode c_MO_all 34 = .ok (.lload_n 2, 1) := by decide +kernel
theorem d_MO_all_35 : decode c_MO_all 35 = .ok (.aload_n 0, 1) := by decide +kernel
theorem d_MO_all_36 : decode c_MO_all 36 = .ok (.getfield 25, 3) := by decide +kernel
theorem d_MO_all_39 : decode c_MO_all 39 = .ok (.bipush 64, 2) := by decide +kernel
theorem d_MO_all_41 : decode c_MO_all 41 = .ok (.iload_n 1, 1) := by decide +kernel
theorem d_MO_all_42 : decode c_MO_all 42 = .ok (.imul, 1) := by decide +kernel
theorem d_MO_all_43 : decode c_MO_all 43 = .ok (.iload 4, 2) := by decide +kernel
theorem d_MO_all_45 : decode c_MO_all 45 = .ok (.iadd, 1) := by decide +kernel
theorem d_MO_all_46 : decode c_MO_all 46 = .ok (.laload, 1) := by decide +kernel
theorem d_MO_all_47 : decode c_MO_all 47 = .ok (.ladd, 1) := by decide +kernel
theorem d_MO_all_48 : decode c_MO_all 48 = .ok (.invokestatic 68, 3) := by decide +kernel
theorem d_MO_all_51 : decode c_MO_all 51 = .ok (.lstore_n 2, 1) := by decide +kernel
theorem d_MO_all_52 : decode c_MO_all 52 = .ok (.iinc 4 1, 3) := by decide +kernel
theorem d_MO_all_55 : decode c_MO_all 55 = .ok (.goto (-28), 3) := by decide +kernel
theorem d_MO_all_58 : decode c_MO_all 58 = .ok (.lload_n 2, 1) := by decide +kernel
theorem d_MO_all_59 : decode c_MO_all 59 = .ok (.lreturn, 1) := by decide +kernel
theorem d_MO_reaching_0 : decode c_MO_reaching 0 = .ok (.iload_n 1, 1) := by decide +kernel
theorem d_MO_reaching_1 : decode c_MO_reaching 1 = .ok (.invokestatic 32, 3) := by decide +kernel
theorem d_MO_reaching_4 : decode c_MO_reaching 4 = .ok (.ifCond .eq 10, 3) := by decide +kernel
theorem d_MO_reaching_7 : decode c_MO_reaching 7 = .ok (.aload_n 0, 1) := by decide +kernel
theorem d_MO_reaching_8 : decode c_MO_reaching 8 = .ok (.invokevirtual 99, 3) := by decide +kernel
theorem d_MO_reaching_11 : decode c_MO_reaching 11 = .ok (.ifCond .ne 5, 3) := by decide +kernel
theorem d_MO_reaching_14 : decode c_MO_reaching 14 = .ok (.lconst 0, 1) := by decide +kernel
theorem d_MO_reaching_15 : decode c_MO_reaching 15 = .ok (.lreturn, 1) := by decide +kernel
theorem d_MO_reaching_16 : decode c_MO_reaching 16 = .ok (.lconst 0, 1) := by decide +kernel
theorem d_MO_reaching_17 : decode c_MO_reaching 17 = .ok (.lstore_n 2, 1) := by decide +kernel
theorem d_MO_reaching_18 : decode c_MO_reaching 18 = .ok (.iconst 0, 1) := by decide +kernel
theorem d_MO_reaching_19 : decode c_MO_reaching 19 = .ok (.istore 4, 2) := by decide +kernel
theorem d_MO_reaching_21 : decode c_MO_reaching 21 = .ok (.iload 4, 2) := by decide +kernel
theorem d_MO_reaching_23 : decode c_MO_reaching 23 = .ok (.bipush 64, 2) := by decide +kernel
theorem d_MO_reaching_25 : decode c_MO_reaching 25 = .ok (.if_icmp .ge 37, 3) := by decide +kernel
theorem d_MO_reaching_28 : decode c_MO_reaching 28 = .ok (.lload_n 2, 1) := by decide +kernel
theorem d_MO_reaching_29 : decode c_MO_reaching 29 = .ok (.aload_n 0, 1) := by decide +kernel
theorem d_MO_reaching_30 : decode c_MO_reaching 30 = .ok (.getfield 25, 3) := by decide +kernel
theorem d_MO_reaching_33 : decode c_MO_reaching 33 = .ok (.bipush 64, 2) := by decide +kernel
theorem d_MO_reaching_35 : decode c_MO_reaching 35 = .ok (.iload 4, 2) := by decide +kernel
theorem d_MO_reaching_37 : decode c_MO_reaching 37 = .ok (.imul, 1) := by decide +kernel
theorem d_MO_reaching_38 : decode c_MO_reaching 38 = .ok (.iload_n 1, 1) := by decide +kernel
theorem d_MO_reaching_39 : decode c_MO_reaching 39 = .ok (.iadd, 1) := by decide +kernel
theorem d_MO_reaching_40 : decode c_MO_reaching 40 = .ok (.laload, 1) := by decide +kernel
theorem d_MO_reaching_41 : decode c_MO_reaching 41 = .ok (.lconst 0, 1) := by decide +kernel
theorem d_MO_reaching_42 : decode c_MO_reaching 42 = .ok (.lcmp, 1) := by decide +kernel
theorem d_MO_reaching_43 : decode c_MO_reaching 43 = .ok (.ifCond .le 10, 3) := by decide +kernel
theorem d_MO_reaching_46 : decode c_MO_reaching 46 = .ok (.lconst 1, 1) := by decide +kernel
theorem d_MO_reaching_47 : decode c_MO_reaching 47 = .ok (.iload 4, 2) := by decide +kernel
theorem d_MO_reaching_49 : decode c_MO_reaching 49 = .ok (.lshl, 1) := by decide +kernel
theorem d_MO_reaching_50 : decode c_MO_reaching 50 = .ok (.goto 4, 3) := by decide +kernel
theorem d_MO_reaching_53 : decode c_MO_reaching 53 = .ok (.lconst 0, 1) := by decide +kernel
theorem d_MO_reaching_54 : decode c_MO_reaching 54 = .ok (.lor, 1) := by decide +kernel
theorem d_MO_reaching_55 : decode c_MO_reaching 55 = .ok (.lstore_n 2, 1) := by decide +kernel
theorem d_MO_reaching_56 : decode c_MO_reaching 56 = .ok (.iinc 4 1, 3) := by decide +kernel
theorem d_MO_reaching_59 : decode c_MO_reaching 59 = .ok (.goto (-38), 3) := by decide +kernel
theorem d_MO_reaching_62 : decode c_MO_reaching 62 = .ok (.lload_n 2, 1) := by decide +kernel
theorem d_MO_reaching_63 : decode c_MO_reaching 63 = .ok (.lreturn, 1) := by decide +kernel
theorem d_MO_pairs_0 : decode c_MO_pairs 0 = .ok (.aload_n 0, 1) := by decide +kernel
theorem d_MO_pairs_1 : decode c_MO_pairs 1 = .ok (.invokevirtual 99, 3) := by decide +kernel
theorem d_MO_pairs_4 : decode c_MO_pairs 4 = .ok (.ifCond .ne 6, 3) := by decide +kernel
theorem d_MO_pairs_7 : decode c_MO_pairs 7 = .ok (.bipush (-2), 2) := by decide +kernel
theorem d_MO_pairs_9 : decode c_MO_pairs 9 = .ok (.ireturn, 1) := by decide +kernel
theorem d_MO_pairs_10 : decode c_MO_pairs 10 = .ok (.iconst 0, 1) := by decide +kernel
theorem d_MO_pairs_11 : decode c_MO_pairs 11 = .ok (.istore_n 1, 1) := by decide +kernel
theorem d_MO_pairs_12 : decode c_MO_pairs 12 = .ok (.iconst 0, 1) := by decide +kernel
theorem d_MO_pairs_13 : decode c_MO_pairs 13 = .ok (.istore_n 2, 1) := by decide +kernel
theorem d_MO_pairs_14 : decode c_MO_pairs 14 = .ok (.iload_n 2, 1) := by decide +kernel
theorem d_MO_pairs_15 : decode c_MO_pairs 15 = .ok (.sipush 4096, 3) := by decide +kernel
theorem d_MO_pairs_18 : decode c_MO_pairs 18 = .ok (.if_icmp .ge 28, 3) := by decide +kernel
theorem d_MO_pairs_21 : decode c_MO_pairs 21 = .ok (.iload_n 1, 1) := by decide +kernel
theorem d_MO_pairs_22 : decode c_MO_pairs 22 = .ok (.aload_n 0, 1) := by decide +kernel
theorem d_MO_pairs_23 : decode c_MO_pairs 23 = .ok (.getfield 25, 3) := by decide +kernel
theorem d_MO_pairs_26 : decode c_MO_pairs 26 = .ok (.iload_n 2, 1) := by decide +kernel
theorem d_MO_pairs_27 : decode c_MO_pairs 27 = .ok (.laload, 1) := by decide +kernel
theorem d_MO_pairs_28 : decode c_MO_pairs 28 = .ok (.lconst 0, 1) := by decide +kernel
theorem d_MO_pairs_29 : decode c_MO_pairs 29 = .ok (.lcmp, 1) := by decide +kernel
theorem d_MO_pairs_30 : decode c_MO_pairs 30 = .ok (.ifCond .le 7, 3) := by decide +kernel
theorem d_MO_pairs_33 : decode c_MO_pairs 33 = .ok (.iconst 1, 1) := by decide +kernel
theorem d_MO_pairs_34 : decode c_MO_pairs 34 = .ok (.goto 4, 3) := by decide +kernel
theorem d_MO_pairs_37 : decode c_MO_pairs 37 = .ok (.iconst 0, 1) := by decide +kernel
theorem d_MO_pairs_38 : decode c_MO_pairs 38 = .ok (.iadd, 1) := by decide +kernel
theorem d_MO_pairs_39 : decode c_MO_pairs 39 = .ok (.istore_n 1, 1) := by decide +kernel
theorem d_MO_pairs_40 : decode c_MO_pairs 40 = .ok (.iinc 2 1, 3) := by decide +kernel
theorem d_MO_pairs_43 : decode c_MO_pairs 43 = .ok (.goto (-29), 3) := by decide +kernel
theorem d_MO_pairs_46 : decode c_MO_pairs 46 = .ok (.iload_n 1, 1) := by decide +kernel
theorem d_MO_pairs_47 : decode c_MO_pairs 47 = .ok (.ireturn, 1) := by decide +kernel
end
section
/-! DECODE ROWS -/
theorem d_PA_init_0 : decode c_PA_init 0 = .ok (.aload_n 0, 1) := by decide +kernel
theorem d_PA_init_1 : decode c_PA_init 1 = .ok (.invokespecial 3, 3) := by decide +kernel
theorem d_PA_init_4 : decode c_PA_init 4 = .ok (.aload_n 0, 1) := by decide +kernel
theorem d_PA_init_5 : decode c_PA_init 5 = .ok (.bipush 60, 2) := by decide +kernel
theorem d_PA_init_7 : decode c_PA_init 7 = .ok (.newarray .int, 2) := by decide +kernel
theorem d_PA_init_9 : decode c_PA_init 9 = .ok (.putfield 9, 3) := by decide +kernel
theorem d_PA_init_12 : decode c_PA_init 12 = .ok (.aload_n 0, 1) := by decide +kernel
theorem d_PA_init_13 : decode c_PA_init 13 = .ok (.bipush 40, 2) := by decide +kernel
theorem d_PA_init_15 : decode c_PA_init 15 = .ok (.newarray .int, 2) := by decide +kernel
theorem d_PA_init_17 : decode c_PA_init 17 = .ok (.putfield 15, 3) := by decide +kernel
theorem d_PA_init_20 : decode c_PA_init 20 = .ok (.aload_n 0, 1) := by decide +kernel
theorem d_PA_init_21 : decode c_PA_init 21 = .ok (.bipush 40, 2) := by decide +kernel
theorem d_PA_init_23 : decode c_PA_init 23 = .ok (.newarray .int, 2) := by decide +kernel
theorem d_PA_init_25 : decode c_PA_init 25 = .ok (.putfield 18, 3) := by decide +kernel
theorem d_PA_init_28 : decode c_PA_init 28 = .ok (.aload_n 0, 1) := by decide +kernel
theorem d_PA_init_29 : decode c_PA_init 29 = .ok (.bipush 40, 2) := by decide +kernel
theorem d_PA_init_31 : decode c_PA_init 31 = .ok (.newarray .int, 2) := by decide +kernel
theorem d_PA_init_33 : decode c_PA_init 33 = .ok (.putfield 21, 3) := by decide +kernel
theorem d_PA_init_36 : decode c_PA_init 36 = .ok (.aload_n 0, 1) := by decide +kernel
theorem d_PA_init_37 : decode c_PA_init 37 = .ok (.bipush (-100), 2) := by decide +kernel
theorem d_PA_init_39 : decode c_PA_init 39 = .ok (.putfield 24, 3) := by decide +kernel
theorem d_PA_init_42 : decode c_PA_init 42 = .ok (.return_, 1) := by decide +kernel
theorem d_PA_append_0 : decode c_PA_append 0 = .ok (.aload_n 0, 1) := by decide +kernel
theorem d_PA_append_1 : decode c_PA_append 1 = .ok (.getfield 28, 3) := by decide +kernel
theorem d_PA_append_4 : decode c_PA_append 4 = .ok (.bipush 60, 2) := by decide +kernel
theorem d_PA_append_6 : decode c_PA_append 6 = .ok (.if_icmp .lt 6, 3) := by decide +kernel
theorem d_PA_append_9 : decode c_PA_append 9 = .ok (.bipush (-3), 2) := by decide +kernel
theorem d_PA_append_11 : decode c_PA_append 11 = .ok (.ireturn, 1) := by decide +kernel
theorem d_PA_append_12 : decode c_PA_append 12 = .ok (.aload_n 0, 1) := by decide +kernel
theorem d_PA_append_13 : decode c_PA_append 13 = .ok (.getfield 9, 3) := by decide +kernel
theorem d_PA_append_16 : decode c_PA_append 16 = .ok (.aload_n 0, 1) := by decide +kernel
theorem d_PA_append_17 : decode c_PA_append 17 = .ok (.getfield 28, 3) := by decide +kernel
theorem d_PA_append_20 : decode c_PA_append 20 = .ok (.iload_n 1, 1) := by decide +kernel
theorem d_PA_append_21 : decode c_PA_append 21 = .ok (.iastore, 1) := by decide +kernel
theorem d_PA_append_22 : decode c_PA_append 22 = .ok (.aload_n 0, 1) := by decide +kernel
theorem d_PA_append_23 : decode c_PA_append 23 = .ok (.dup, 1) := by decide +kernel
theorem d_PA_append_24 : decode c_PA_append 24 = .ok (.getfield 28, 3) := by decide +kernel
theorem d_PA_append_27 : decode c_PA_append 27 = .ok (.iconst 1, 1) := by decide +kernel
theorem d_PA_append_28 : decode c_PA_append 28 = .ok (.iadd, 1) := by decide +kernel
theorem d_PA_append_29 : decode c_PA_append 29 = .ok (.putfield 28, 3) := by decide +kernel
theorem d_PA_append_32 : decode c_PA_append 32 = .ok (.aload_n 0, 1) := by decide +kernel
theorem d_PA_append_33 : decode c_PA_append 33 = .ok (.invokevirtual 31, 3) := by decide +kernel
theorem d_PA_append_36 : decode c_PA_append 36 = .ok (.aload_n 0, 1) := by decide +kernel
theorem d_PA_append_37 : decode c_PA_append 37 = .ok (.getfield 28, 3) := by decide +kernel
theorem d_PA_append_40 : decode c_PA_append 40 = .ok (.ireturn, 1) := by decide +kernel
theorem d_PA_readWords_0 : decode c_PA_readWords 0 = .ok (.aload_n 0, 1) := by decide +kernel
theorem d_PA_readWords_1 : decode c_PA_readWords 1 = .ok (.iconst 0, 1) := by decide +kernel
theorem d_PA_readWords_2 : decode c_PA_readWords 2 = .ok (.putfield 34, 3) := by decide +kernel
theorem d_PA_readWords_5 : decode c_PA_readWords 5 = .ok (.aload_n 0, 1) := by decide +kernel
theorem d_PA_readWords_6 : decode c_PA_readWords 6 = .ok (.iconst 0, 1) := by decide +kernel
theorem d_PA_readWords_7 : decode c_PA_readWords 7 = .ok (.iconst 1, 1) := by decide +kernel
theorem d_PA_readWords_8 : decode c_PA_readWords 8 = .ok (.invokevirtual 37, 3) := by decide +kernel
theorem d_PA_readWords_11 : decode c_PA_readWords 11 = .ok (.istore_n 1, 1) := by decide +kernel
theorem d_PA_readWords_12 : decode c_PA_readWords 12 = .ok (.iload_n 1, 1) := by decide +kernel
theorem d_PA_readWords_13 : decode c_PA_readWords 13 = .ok (.ifCond .ge 11, 3) := by decide +kernel
theorem d_PA_readWords_16 : decode c_PA_readWords 16 = .ok (.aload_n 0, 1) := by decide +kernel
theorem d_PA_readWords_17 : decode c_PA_readWords 17 = .ok (.iload_n 1, 1) := by decide +kernel
theorem d_PA_readWords_18 : decode c_PA_readWords 18 = .ok (.putfield 24, 3) := by decide +kernel
theorem d_PA_readWords_21 : decode c_PA_readWords 21 = .ok (.goto 23, 3) := by decide +kernel
theorem d_PA_readWords_24 : decode c_PA_readWords 24 = .ok (.aload_n 0, 1) := by decide +kernel
theorem d_PA_readWords_25 : decode c_PA_readWords 25 = .ok (.iload_n 1, 1) := by decide +kernel
theorem d_PA_readWords_26 : decode c_PA_readWords 26 = .ok (.aload_n 0, 1) := by decide +kernel
theorem d_PA_readWords_27 : decode c_PA_readWords 27 = .ok (.getfield 28, 3) := by decide +kernel
theorem d_PA_readWords_30 : decode c_PA_readWords 30 = .ok (.if_icmp .ge 10, 3) := by decide +kernel
theorem d_PA_readWords_33 : decode c_PA_readWords 33 = .ok (.iload_n 1, 1) := by decide +kernel
theorem d_PA_readWords_34 : decode c_PA_readWords 34 = .ok (.invokestatic 41, 3) := by decide +kernel
theorem d_PA_readWords_37 : decode c_PA_readWords 37 = .ok (.goto 4, 3) := by decide +kernel
theorem d_PA_readWords_40 : decode c_PA_readWords 40 = .ok (.iconst 0, 1) := by decide +kernel
theorem d_PA_readWords_41 : decode c_PA_readWords 41 = .ok (.putfield 24, 3) := by decide +kernel
theorem d_PA_readWords_44 : decode c_PA_readWords 44 = .ok (.return_, 1) := by decide +kernel
theorem d_PA_readPart_0 : decode c_PA_readPart 0 = .ok (.iload_n 2, 1) := by decide +kernel
theorem d_PA_readPart_1 : decode c_PA_readPart 1 = .ok (.bipush 12, 2) := by decide +kernel
theorem d_PA_readPart_3 : decode c_PA_readPart 3 = .ok (.if_icmp .gt 23, 3) := by decide +kernel
theorem d_PA_readPart_6 : decode c_PA_readPart 6 = .ok (.aload_n 0, 1) := by decide +kernel
theorem d_PA_readPart_7 : decode c_PA_readPart 7 = .ok (.getfield 34, 3) := by decide +kernel
theorem d_PA_readPart_10 : decode c_PA_readPart 10 = .ok (.bipush 40, 2) := by decide +kernel
theorem d_PA_readPart_12 : decode c_PA_readPart 12 = .ok (.if_icmp .ge 14, 3) := by decide +kernel
theorem d_PA_readPart_15 : decode c_PA_readPart 15 = .ok (.aload_n 0, 1) := by decide +kernel
theorem d_PA_readPart_16 : decode c_PA_readPart 16 = .ok (.iload_n 1, 1) := by decide +kernel
theorem d_PA_readPart_17 : decode c_PA_readPart 17 = .ok (.iconst 0, 1) := by decide +kernel
theorem d_PA_readPart_18 : decode c_PA_readPart 18 = .ok (.bipush 7, 2) := by decide +kernel
theorem d_PA_readPart_20 : decode c_PA_readPart 20 = .ok (.invokevirtual 45, 3) := by decide +kernel
theorem d_PA_readPart_23 : decode c_PA_readPart 23 = .ok (.ifCond .ne 8, 3) := by decide +kernel
theorem d_PA_readPart_26 : decode c_PA_readPart 26 = .ok (.iload_n 1, 1) := by decide +kernel
theorem d_PA_readPart_27 : decode c_PA_readPart 27 = .ok (.invokestatic 41, 3) := by decide +kernel
theorem d_PA_readPart_30 : decode c_PA_readPart 30 = .ok (.ireturn, 1) := by decide +kernel
theorem d_PA_readPart_31 : decode c_PA_readPart 31 = .ok (.aload_n 0, 1) := by decide +kernel
theorem d_PA_readPart_32 : decode c_PA_readPart 32 = .ok (.getfield 34, 3) := by decide +kernel
theorem d_PA_readPart_35 : decode c_PA_readPart 35 = .ok (.istore_n 3, 1) := by decide +kernel
theorem d_PA_readPart_36 : decode c_PA_readPart 36 = .ok (.aload_n 0, 1) := by decide +kernel
theorem d_PA_readPart_37 : decode c_PA_readPart 37 = .ok (.getfield 9, 3) := by decide +kernel
theorem d_PA_readPart_40 : decode c_PA_readPart 40 = .ok (.iload_n 1, 1) := by decide +kernel
theorem d_PA_readPart_41 : decode c_PA_readPart 41 = .ok (.iaload, 1) := by decide +kernel
theorem d_PA_readPart_42 : decode c_PA_readPart 42 = .ok (.istore 4, 2) := by decide +kernel
theorem d_PA_readPart_44 : decode c_PA_readPart 44 = .ok (.aload_n 0, 1) := by decide +kernel
theorem d_PA_readPart_45 : decode c_PA_readPart 45 = .ok (.dup, 1) := by decide +kernel
theorem d_PA_readPart_46 : decode c_PA_readPart 46 = .ok (.getfield 34, 3) := by decide +kernel
theorem d_PA_readPart_49 : decode c_PA_readPart 49 = .ok (.iconst 1, 1) := by decide +kernel
theorem d_PA_readPart_50 : decode c_PA_readPart 50 = .ok (.iadd, 1) := by decide +kernel
theorem d_PA_readPart_51 : decode c_PA_readPart 51 = .ok (.putfield 34, 3) := by decide +kernel
theorem d_PA_readPart_54 : decode c_PA_readPart 54 = .ok (.aload_n 0, 1) := by decide +kernel
theorem d_PA_readPart_55 : decode c_PA_readPart 55 = .ok (.getfield 15, 3) := by decide +kernel
theorem d_PA_readPart_58 : decode c_PA_readPart 58 = .ok (.iload_n 3, 1) := by decide +kernel
theorem d_PA_readPart_59 : decode c_PA_readPart 59 = .ok (.iload 4, 2) := by decide +kernel
theorem d_PA_readPart_61 : decode c_PA_readPart 61 = .ok (.iastore, 1) := by decide +kernel
theorem d_PA_readPart_62 : decode c_PA_readPart 62 = .ok (.aload_n 0, 1) := by decide +kernel
theorem d_PA_readPart_63 : decode c_PA_readPart 63 = .ok (.getfield 18, 3) := by decide +kernel
theorem d_PA_readPart_66 : decode c_PA_readPart 66 = .ok (.iload_n 3, 1) := by decide +kernel
theorem d_PA_readPart_67 : decode c_PA_readPart 67 = .ok (.iconst 0, 1) := by decide +kernel
theorem d_PA_readPart_68 : decode c_PA_readPart 68 = .ok (.iastore, 1) := by decide +kernel
theorem d_PA_readPart_69 : decode c_PA_readPart 69 = .ok (.aload_n 0, 1) := by decide +kernel
theorem d_PA_readPart_70 : decode c_PA_readPart 70 = .ok (.getfield 21, 3) := by decide +kernel
theorem d_PA_readPart_73 : decode c_PA_readPart 73 = .ok (.iload_n 3, 1) := by decide +kernel
theorem d_PA_readPart_74 : decode c_PA_readPart 74 = .ok (.iload_n 3, 1) := by decide +kernel
theorem d_PA_readPart_75 : decode c_PA_readPart 75 = .ok (.iastore, 1) := by decide +kernel
theorem d_PA_readPart_76 : decode c_PA_readPart 76 = .ok (.iload 4, 2) := by decide +kernel
theorem d_PA_readPart_78 : decode c_PA_readPart 78 = .ok (.ifCond .eq 10, 3) := by decide +kernel
theorem d_PA_readPart_81 : decode c_PA_readPart 81 = .ok (.iload 4, 2) := by decide +kernel
theorem d_PA_readPart_83 : decode c_PA_readPart 83 = .ok (.bipush 7, 2) := by decide +kernel
theorem d_PA_readPart_85 : decode c_PA_readPart 85 = .ok (.if_icmp .ne 12, 3) := by decide +kernel
theorem d_PA_readPart_88 : decode c_PA_readPart 88 = .ok (.aload_n 0, 1) := by decide +kernel
theorem d_PA_readPart_89 : decode c_PA_readPart 89 = .ok (.iload_n 3, 1) := by decide +kernel
theorem d_PA_readPart_90 : decode c_PA_readPart 90 = .ok (.iload_n 1, 1) := by decide +kernel
theorem d_PA_readPart_91 : decode c_PA_readPart 91 = .ok (.iconst 1, 1) := by decide +kernel
theorem d_PA_readPart_92 : decode c_PA_readPart 92 = .ok (.iadd, 1) := by decide +kernel
theorem d_PA_readPart_93 : decode c_PA_readPart 93 = .ok (.invokevirtual 49, 3) := by decide +kernel
theorem d_PA_readPart_96 : decode c_PA_readPart 96 = .ok (.ireturn, 1) := by decide +kernel
theorem d_PA_readPart_97 : decode c_PA_readPart 97 = .ok (.aload_n 0, 1) := by decide +kernel
theorem d_PA_readPart_98 : decode c_PA_readPart 98 = .ok (.iload_n 1, 1) := by decide +kernel
theorem d_PA_readPart_99 : decode c_PA_readPart 99 = .ok (.iconst 1, 1) := by decide +kernel
theorem d_PA_readPart_100 : decode c_PA_readPart 100 = .ok (.iadd, 1) := by decide +kernel
theorem d_PA_readPart_101 : decode c_PA_readPart 101 = .ok (.iload_n 2, 1) := by decide +kernel
theorem d_PA_readPart_102 : decode c_PA_readPart 102 = .ok (.iconst 1, 1) := by decide +kernel
theorem d_PA_readPart_103 : decode c_PA_readPart 103 = .ok (.iadd, 1) := by decide +kernel
theorem d_PA_readPart_104 : decode c_PA_readPart 104 = .ok (.invokevirtual 37, 3) := by decide +kernel
theorem d_PA_readPart_107 : decode c_PA_readPart 107 = .ok (.istore 5, 2) := by decide +kernel
theorem d_PA_readPart_109 : decode c_PA_readPart 109 = .ok (.iload 5, 2) := by decide +kernel
theorem d_PA_readPart_111 : decode c_PA_readPart 111 = .ok (.ifCond .lt 15, 3) := by decide +kernel
theorem d_PA_readPart_114 : decode c_PA_readPart 114 = .ok (.iload 4, 2) := by decide +kernel
theorem d_PA_readPart_116 : decode c_PA_readPart 116 = .ok (.iconst 2, 1) := by decide +kernel
theorem d_PA_readPart_117 : decode c_PA_readPart 117 = .ok (.if_icmp .eq 12, 3) := by decide +kernel
theorem d_PA_readPart_120 : decode c_PA_readPart 120 = .ok (.iload 4, 2) := by decide +kernel
theorem d_PA_readPart_122 : decode c_PA_readPart 122 = .ok (.iconst 3, 1) := by decide +kernel
theorem d_PA_readPart_123 : decode c_PA_readPart 123 = .ok (.if_icmp .eq 6, 3) := by decide +kernel
theorem d_PA_readPart_126 : decode c_PA_readPart 126 = .ok (.iload 5, 2) := by decide +kernel
theorem d_PA_readPart_128 : decode c_PA_readPart 128 = .ok (.ireturn, 1) := by decide +kernel
theorem d_PA_readPart_129 : decode c_PA_readPart 129 = .ok (.aload_n 0, 1) := by decide +kernel
theorem d_PA_readPart_130 : decode c_PA_readPart 130 = .ok (.getfield 21, 3) := by decide +kernel
theorem d_PA_readPart_133 : decode c_PA_readPart 133 = .ok (.iload_n 3, 1) := by decide +kernel
theorem d_PA_readPart_134 : decode c_PA_readPart 134 = .ok (.aload_n 0, 1) := by decide +kernel
theorem d_PA_readPart_135 : decode c_PA_readPart 135 = .ok (.getfield 34, 3) := by decide +kernel
theorem d_PA_readPart_138 : decode c_PA_readPart 138 = .ok (.iastore, 1) := by decide +kernel
theorem d_PA_readPart_139 : decode c_PA_readPart 139 = .ok (.aload_n 0, 1) := by decide +kernel
theorem d_PA_readPart_140 : decode c_PA_readPart 140 = .ok (.iload 5, 2) := by decide +kernel
theorem d_PA_readPart_142 : decode c_PA_readPart 142 = .ok (.iload_n 2, 1) := by decide +kernel
theorem d_PA_readPart_143 : decode c_PA_readPart 143 = .ok (.iconst 1, 1) := by decide +kernel
theorem d_PA_readPart_144 : decode c_PA_readPart 144 = .ok (.iadd, 1) := by decide +kernel
theorem d_PA_readPart_145 : decode c_PA_readPart 145 = .ok (.invokevirtual 37, 3) := by decide +kernel
theorem d_PA_readPart_148 : decode c_PA_readPart 148 = .ok (.ireturn, 1) := by decide +kernel
theorem d_PA_isWithin_0 : decode c_PA_isWithin 0 = .ok (.iload_n 1, 1) := by decide +kernel
theorem d_PA_isWithin_1 : decode c_PA_isWithin 1 = .ok (.ifCond .lt 35, 3) := by decide +kernel
theorem d_PA_isWithin_4 : decode c_PA_isWithin 4 = .ok (.iload_n 1, 1) := by decide +kernel
theorem d_PA_isWithin_5 : decode c_PA_isWithin 5 = .ok (.aload_n 0, 1) := by decide +kernel
theorem d_PA_isWithin_6 : decode c_PA_isWithin 6 = .ok (.getfield 28, 3) := by decide +kernel
theorem d_PA_isWithin_9 : decode c_PA_isWithin 9 = .ok (.if_icmp .ge 27, 3) := by decide +kernel
theorem d_PA_isWithin_12 : decode c_PA_isWithin 12 = .ok (.aload_n 0, 1) := by decide +kernel
theorem d_PA_isWithin_13 : decode c_PA_isWithin 13 = .ok (.getfield 9, 3) := by decide +kernel
theorem d_PA_isWithin_16 : decode c_PA_isWithin 16 = .ok (.iload_n 1, 1) := by decide +kernel
theorem d_PA_isWithin_17 : decode c_PA_isWithin 17 = .ok (.iaload, 1) := by decide +kernel
theorem d_PA_isWithin_18 : decode c_PA_isWithin 18 = .ok (.iload_n 2, 1) := by decide +kernel
theorem d_PA_isWithin_19 : decode c_PA_isWithin 19 = .ok (.if_icmp .lt 17, 3) := by decide +kernel
theorem d_PA_isWithin_22 : decode c_PA_isWithin 22 = .ok (.aload_n 0, 1) := by decide +kernel
theorem d_PA_isWithin_23 : decode c_PA_isWithin 23 = .ok (.getfield 9, 3) := by decide +kernel
theorem d_PA_isWithin_26 : decode c_PA_isWithin 26 = .ok (.iload_n 1, 1) := by decide +kernel
theorem d_PA_isWithin_27 : decode c_PA_isWithin 27 = .ok (.iaload, 1) := by decide +kernel
theorem d_PA_isWithin_28 : decode c_PA_isWithin 28 = .ok (.iload_n 3, 1) := by decide +kernel
theorem d_PA_isWithin_29 : decode c_PA_isWithin 29 = .ok (.if_icmp .gt 7, 3) := by decide +kernel
theorem d_PA_isWithin_32 : decode c_PA_isWithin 32 = .ok (.iconst 1, 1) := by decide +kernel
theorem d_PA_isWithin_33 : decode c_PA_isWithin 33 = .ok (.goto 4, 3) := by decide +kernel
theorem d_PA_isWithin_36 : decode c_PA_isWithin 36 = .ok (.iconst 0, 1) := by decide +kernel
theorem d_PA_isWithin_37 : decode c_PA_isWithin 37 = .ok (.ireturn, 1) := by decide +kernel
theorem d_PA_faultAt_0 : decode c_PA_faultAt 0 = .ok (.bipush (-100), 2) := by decide +kernel
theorem d_PA_faultAt_2 : decode c_PA_faultAt 2 = .ok (.iload_n 0, 1) := by decide +kernel
theorem d_PA_faultAt_3 : decode c_PA_faultAt 3 = .ok (.isub, 1) := by decide +kernel
theorem d_PA_faultAt_4 : decode c_PA_faultAt 4 = .ok (.ireturn, 1) := by decide +kernel
theorem d_PA_readLabels_0 : decode c_PA_readLabels 0 = .ok (.aload_n 0, 1) := by decide +kernel
theorem d_PA_readLabels_1 : decode c_PA_readLabels 1 = .ok (.getfield 15, 3) := by decide +kernel
theorem d_PA_readLabels_4 : decode c_PA_readLabels 4 = .ok (.iload_n 1, 1) := by decide +kernel
theorem d_PA_readLabels_5 : decode c_PA_readLabels 5 = .ok (.iaload, 1) := by decide +kernel
theorem d_PA_readLabels_6 : decode c_PA_readLabels 6 = .ok (.ifCond .ne 7, 3) := by decide +kernel
theorem d_PA_readLabels_9 : decode c_PA_readLabels 9 = .ok (.iconst 1, 1) := by decide +kernel
theorem d_PA_readLabels_10 : decode c_PA_readLabels 10 = .ok (.goto 4, 3) := by decide +kernel
theorem d_PA_readLabels_13 : decode c_PA_readLabels 13 = .ok (.iconst 0, 1) := by decide +kernel
theorem d_PA_readLabels_14 : decode c_PA_readLabels 14 = .ok (.istore_n 3, 1) := by decide +kernel
theorem d_PA_readLabels_15 : decode c_PA_readLabels 15 = .ok (.aload_n 0, 1) := by decide +kernel
theorem d_PA_readLabels_16 : decode c_PA_readLabels 16 = .ok (.iload_n 2, 1) := by decide +kernel
theorem d_PA_readLabels_17 : decode c_PA_readLabels 17 = .ok (.iconst 0, 1) := by decide +kernel
theorem d_PA_readLabels_18 : decode c_PA_readLabels 18 = .ok (.iload_n 3, 1) := by decide +kernel
theorem d_PA_readLabels_19 : decode c_PA_readLabels 19 = .ok (.ifCond .eq 8, 3) := by decide +kernel
theorem d_PA_readLabels_22 : decode c_PA_readLabels 22 = .ok (.bipush 7, 2) := by decide +kernel
theorem d_PA_readLabels_24 : decode c_PA_readLabels 24 = .ok (.goto 6, 3) := by decide +kernel
theorem d_PA_readLabels_27 : decode c_PA_readLabels 27 = .ok (.sipush 255, 3) := by decide +kernel
theorem d_PA_readLabels_30 : decode c_PA_readLabels 30 = .ok (.invokevirtual 45, 3) := by decide +kernel
theorem d_PA_readLabels_33 : decode c_PA_readLabels 33 = .ok (.ifCond .ne 8, 3) := by decide +kernel
theorem d_PA_readLabels_36 : decode c_PA_readLabels 36 = .ok (.iload_n 2, 1) := by decide +kernel
theorem d_PA_readLabels_37 : decode c_PA_readLabels 37 = .ok (.invokestatic 41, 3) := by decide +kernel
theorem d_PA_readLabels_40 : decode c_PA_readLabels 40 = .ok (.ireturn, 1) := by decide +kernel
theorem d_PA_readLabels_41 : decode c_PA_readLabels 41 = .ok (.aload_n 0, 1) := by decide +kernel
theorem d_PA_readLabels_42 : decode c_PA_readLabels 42 = .ok (.getfield 9, 3) := by decide +kernel
theorem d_PA_readLabels_45 : decode c_PA_readLabels 45 = .ok (.iload_n 2, 1) := by decide +kernel
theorem d_PA_readLabels_46 : decode c_PA_readLabels 46 = .ok (.iaload, 1) := by decide +kernel
theorem d_PA_readLabels_47 : decode c_PA_readLabels 47 = .ok (.istore 4, 2) := by decide +kernel
theorem d_PA_readLabels_49 : decode c_PA_readLabels 49 = .ok (.aload_n 0, 1) := by decide +kernel
theorem d_PA_readLabels_50 : decode c_PA_readLabels 50 = .ok (.getfield 18, 3) := by decide +kernel
theorem d_PA_readLabels_53 : decode c_PA_readLabels 53 = .ok (.iload_n 1, 1) := by decide +kernel
theorem d_PA_readLabels_54 : decode c_PA_readLabels 54 = .ok (.iload_n 3, 1) := by decide +kernel
theorem d_PA_readLabels_55 : decode c_PA_readLabels 55 = .ok (.ifCond .eq 10, 3) := by decide +kernel
theorem d_PA_readLabels_58 : decode c_PA_readLabels 58 = .ok (.iconst 1, 1) := by decide +kernel
theorem d_PA_readLabels_59 : decode c_PA_readLabels 59 = .ok (.iload 4, 2) := by decide +kernel
theorem d_PA_readLabels_61 : decode c_PA_readLabels 61 = .ok (.ishl, 1) := by decide +kernel
theorem d_PA_readLabels_62 : decode c_PA_readLabels 62 = .ok (.goto 9, 3) := by decide +kernel
theorem d_PA_readLabels_65 : decode c_PA_readLabels 65 = .ok (.sipush 255, 3) := by decide +kernel
theorem d_PA_readLabels_68 : decode c_PA_readLabels 68 = .ok (.iload 4, 2) := by decide +kernel
theorem d_PA_readLabels_70 : decode c_PA_readLabels 70 = .ok (.isub, 1) := by decide +kernel
theorem d_PA_readLabels_71 : decode c_PA_readLabels 71 = .ok (.iastore, 1) := by decide +kernel
theorem d_PA_readLabels_72 : decode c_PA_readLabels 72 = .ok (.iload_n 2, 1) := by decide +kernel
theorem d_PA_readLabels_73 : decode c_PA_readLabels 73 = .ok (.iconst 1, 1) := by decide +kernel
theorem d_PA_readLabels_74 : decode c_PA_readLabels 74 = .ok (.iadd, 1) := by decide +kernel
theorem d_PA_readLabels_75 : decode c_PA_readLabels 75 = .ok (.ireturn, 1) := by decide +kernel
theorem d_PA_empty_0 : decode c_PA_empty 0 = .ok (.aload_n 0, 1) := by decide +kernel
theorem d_PA_empty_1 : decode c_PA_empty 1 = .ok (.getfield 28, 3) := by decide +kernel
theorem d_PA_empty_4 : decode c_PA_empty 4 = .ok (.istore_n 1, 1) := by decide +kernel
theorem d_PA_empty_5 : decode c_PA_empty 5 = .ok (.aload_n 0, 1) := by decide +kernel
theorem d_PA_empty_6 : decode c_PA_empty 6 = .ok (.iconst 0, 1) := by decide +kernel
theorem d_PA_empty_7 : decode c_PA_empty 7 = .ok (.putfield 28, 3) := by decide +kernel
theorem d_PA_empty_10 : decode c_PA_empty 10 = .ok (.aload_n 0, 1) := by decide +kernel
theorem d_PA_empty_11 : decode c_PA_empty 11 = .ok (.invokevirtual 31, 3) := by decide +kernel
theorem d_PA_empty_14 : decode c_PA_empty 14 = .ok (.iload_n 1, 1) := by decide +kernel
theorem d_PA_empty_15 : decode c_PA_empty 15 = .ok (.ireturn, 1) := by decide +kernel
theorem d_PA_isJust_0 : decode c_PA_isJust 0 = .ok (.aload_n 0, 1) := by decide +kernel
theorem d_PA_isJust_1 : decode c_PA_isJust 1 = .ok (.getfield 24, 3) := by decide +kernel
theorem d_PA_isJust_4 : decode c_PA_isJust 4 = .ok (.ifCond .ne 7, 3) := by decide +kernel
theorem d_PA_isJust_7 : decode c_PA_isJust 7 = .ok (.iconst 1, 1) := by decide +kernel
theorem d_PA_isJust_8 : decode c_PA_isJust 8 = .ok (.goto 4, 3) := by decide +kernel
theorem d_PA_isJust_11 : decode c_PA_isJust 11 = .ok (.iconst 0, 1) := by decide +kernel
theorem d_PA_isJust_12 : decode c_PA_isJust 12 = .ok (.ireturn, 1) := by decide +kernel
end
section
/-! DECODE ROWS -/
theorem d_PF_init_0 : decode c_PF_init 0 = .ok (.aload_n 0, 1) := by decide +kernel
theorem d_PF_init_1 : decode c_PF_init 1 = .ok (.invokespecial 1, 3) := by decide +kernel
theorem d_PF_init_4 : decode c_PF_init 4 = .ok (.aload_n 0, 1) := by decide +kernel
theorem d_PF_init_5 : decode c_PF_init 5 = .ok (.new 7, 3) := by decide +kernel
theorem d_PF_init_8 : decode c_PF_init 8 = .ok (.dup, 1) := by decide +kernel
theorem d_PF_init_9 : decode c_PF_init 9 = .ok (.invokespecial 9, 3) := by decide +kernel
theorem d_PF_init_12 : decode c_PF_init 12 = .ok (.putfield 10, 3) := by decide +kernel
theorem d_PF_init_15 : decode c_PF_init 15 = .ok (.aload_n 0, 1) := by decide +kernel
theorem d_PF_init_16 : decode c_PF_init 16 = .ok (.new 16, 3) := by decide +kernel
theorem d_PF_init_19 : decode c_PF_init 19 = .ok (.dup, 1) := by decide +kernel
theorem d_PF_init_20 : decode c_PF_init 20 = .ok (.invokespecial 18, 3) := by decide +kernel
theorem d_PF_init_23 : decode c_PF_init 23 = .ok (.putfield 19, 3) := by decide +kernel
theorem d_PF_init_26 : decode c_PF_init 26 = .ok (.aload_n 0, 1) := by decide +kernel
theorem d_PF_init_27 : decode c_PF_init 27 = .ok (.new 23, 3) := by decide +kernel
theorem d_PF_init_30 : decode c_PF_init 30 = .ok (.dup, 1) := by decide +kernel
theorem d_PF_init_31 : decode c_PF_init 31 = .ok (.aload_n 0, 1) := by decide +kernel
theorem d_PF_init_32 : decode c_PF_init 32 = .ok (.getfield 10, 3) := by decide +kernel
theorem d_PF_init_35 : decode c_PF_init 35 = .ok (.aload_n 0, 1) := by decide +kernel
theorem d_PF_init_36 : decode c_PF_init 36 = .ok (.getfield 19, 3) := by decide +kernel
theorem d_PF_init_39 : decode c_PF_init 39 = .ok (.invokespecial 25, 3) := by decide +kernel
theorem d_PF_init_42 : decode c_PF_init 42 = .ok (.putfield 28, 3) := by decide +kernel
theorem d_PF_init_45 : decode c_PF_init 45 = .ok (.aload_n 0, 1) := by decide +kernel
theorem d_PF_init_46 : decode c_PF_init 46 = .ok (.new 32, 3) := by decide +kernel
theorem d_PF_init_49 : decode c_PF_init 49 = .ok (.dup, 1) := by decide +kernel
theorem d_PF_init_50 : decode c_PF_init 50 = .ok (.aload_n 0, 1) := by decide +kernel
theorem d_PF_init_51 : decode c_PF_init 51 = .ok (.getfield 10, 3) := by decide +kernel
theorem d_PF_init_54 : decode c_PF_init 54 = .ok (.aload_n 0, 1) := by decide +kernel
theorem d_PF_init_55 : decode c_PF_init 55 = .ok (.getfield 19, 3) := by decide +kernel
theorem d_PF_init_58 : decode c_PF_init 58 = .ok (.aload_n 0, 1) := by decide +kernel
theorem d_PF_init_59 : decode c_PF_init 59 = .ok (.getfield 28, 3) := by decide +kernel
theorem d_PF_init_62 : decode c_PF_init 62 = .ok (.invokespecial 34, 3) := by decide +kernel
theorem d_PF_init_65 : decode c_PF_init 65 = .ok (.putfield 37, 3) := by decide +kernel
theorem d_PF_init_68 : decode c_PF_init 68 = .ok (.return_, 1) := by decide +kernel
theorem d_PF_edge_0 : decode c_PF_edge 0 = .ok (.aload_n 0, 1) := by decide +kernel
theorem d_PF_edge_1 : decode c_PF_edge 1 = .ok (.getfield 10, 3) := by decide +kernel
theorem d_PF_edge_4 : decode c_PF_edge 4 = .ok (.iload_n 1, 1) := by decide +kernel
theorem d_PF_edge_5 : decode c_PF_edge 5 = .ok (.iload_n 2, 1) := by decide +kernel
theorem d_PF_edge_6 : decode c_PF_edge 6 = .ok (.iload_n 3, 1) := by decide +kernel
theorem d_PF_edge_7 : decode c_PF_edge 7 = .ok (.invokevirtual 41, 3) := by decide +kernel
theorem d_PF_edge_10 : decode c_PF_edge 10 = .ok (.istore 4, 2) := by decide +kernel
theorem d_PF_edge_12 : decode c_PF_edge 12 = .ok (.iload 4, 2) := by decide +kernel
theorem d_PF_edge_14 : decode c_PF_edge 14 = .ok (.iconst 1, 1) := by decide +kernel
theorem d_PF_edge_15 : decode c_PF_edge 15 = .ok (.if_icmp .ne 7, 3) := by decide +kernel
theorem d_PF_edge_18 : decode c_PF_edge 18 = .ok (.aload_n 0, 1) := by decide +kernel
theorem d_PF_edge_19 : decode c_PF_edge 19 = .ok (.invokevirtual 45, 3) := by decide +kernel
theorem d_PF_edge_22 : decode c_PF_edge 22 = .ok (.iload 4, 2) := by decide +kernel
theorem d_PF_edge_24 : decode c_PF_edge 24 = .ok (.ireturn, 1) := by decide +kernel
theorem d_PF_isPoint_0 : decode c_PF_isPoint 0 = .ok (.iload_n 0, 1) := by decide +kernel
theorem d_PF_isPoint_1 : decode c_PF_isPoint 1 = .ok (.ifCond .lt 13, 3) := by decide +kernel
theorem d_PF_isPoint_4 : decode c_PF_isPoint 4 = .ok (.iload_n 0, 1) := by decide +kernel
theorem d_PF_isPoint_5 : decode c_PF_isPoint 5 = .ok (.bipush 64, 2) := by decide +kernel
theorem d_PF_isPoint_7 : decode c_PF_isPoint 7 = .ok (.if_icmp .ge 7, 3) := by decide +kernel
theorem d_PF_isPoint_10 : decode c_PF_isPoint 10 = .ok (.iconst 1, 1) := by decide +kernel
theorem d_PF_isPoint_11 : decode c_PF_isPoint 11 = .ok (.goto 4, 3) := by decide +kernel
theorem d_PF_isPoint_14 : decode c_PF_isPoint 14 = .ok (.iconst 0, 1) := by decide +kernel
theorem d_PF_isPoint_15 : decode c_PF_isPoint 15 = .ok (.ireturn, 1) := by decide +kernel
theorem d_PF_isLabel_0 : decode c_PF_isLabel 0 = .ok (.iload_n 0, 1) := by decide +kernel
theorem d_PF_isLabel_1 : decode c_PF_isLabel 1 = .ok (.ifCond .lt 13, 3) := by decide +kernel
theorem d_PF_isLabel_4 : decode c_PF_isLabel 4 = .ok (.iload_n 0, 1) := by decide +kernel
theorem d_PF_isLabel_5 : decode c_PF_isLabel 5 = .ok (.bipush 8, 2) := by decide +kernel
theorem d_PF_isLabel_7 : decode c_PF_isLabel 7 = .ok (.if_icmp .ge 7, 3) := by decide +kernel
theorem d_PF_isLabel_10 : decode c_PF_isLabel 10 = .ok (.iconst 1, 1) := by decide +kernel
theorem d_PF_isLabel_11 : decode c_PF_isLabel 11 = .ok (.goto 4, 3) := by decide +kernel
theorem d_PF_isLabel_14 : decode c_PF_isLabel 14 = .ok (.iconst 0, 1) := by decide +kernel
theorem d_PF_isLabel_15 : decode c_PF_isLabel 15 = .ok (.ireturn, 1) := by decide +kernel
theorem d_PF_holds_0 : decode c_PF_holds 0 = .ok (.lload_n 0, 1) := by decide +kernel
theorem d_PF_holds_1 : decode c_PF_holds 1 = .ok (.iload_n 2, 1) := by decide +kernel
theorem d_PF_holds_2 : decode c_PF_holds 2 = .ok (.lushr, 1) := by decide +kernel
theorem d_PF_holds_3 : decode c_PF_holds 3 = .ok (.lconst 1, 1) := by decide +kernel
theorem d_PF_holds_4 : decode c_PF_holds 4 = .ok (.land, 1) := by decide +kernel
theorem d_PF_holds_5 : decode c_PF_holds 5 = .ok (.lconst 0, 1) := by decide +kernel
theorem d_PF_holds_6 : decode c_PF_holds 6 = .ok (.lcmp, 1) := by decide +kernel
theorem d_PF_holds_7 : decode c_PF_holds 7 = .ok (.ifCond .eq 7, 3) := by decide +kernel
theorem d_PF_holds_10 : decode c_PF_holds 10 = .ok (.iconst 1, 1) := by decide +kernel
theorem d_PF_holds_11 : decode c_PF_holds 11 = .ok (.goto 4, 3) := by decide +kernel
theorem d_PF_holds_14 : decode c_PF_holds 14 = .ok (.iconst 0, 1) := by decide +kernel
theorem d_PF_holds_15 : decode c_PF_holds 15 = .ok (.ireturn, 1) := by decide +kernel
theorem d_PF_bit_0 : decode c_PF_bit 0 = .ok (.lconst 1, 1) := by decide +kernel
theorem d_PF_bit_1 : decode c_PF_bit 1 = .ok (.iload_n 0, 1) := by decide +kernel
theorem d_PF_bit_2 : decode c_PF_bit 2 = .ok (.lshl, 1) := by decide +kernel
theorem d_PF_bit_3 : decode c_PF_bit 3 = .ok (.lreturn, 1) := by decide +kernel
theorem d_PF_forget_0 : decode c_PF_forget 0 = .ok (.aload_n 0, 1) := by decide +kernel
theorem d_PF_forget_1 : decode c_PF_forget 1 = .ok (.getfield 28, 3) := by decide +kernel
theorem d_PF_forget_4 : decode c_PF_forget 4 = .ok (.iconst 0, 1) := by decide +kernel
theorem d_PF_forget_5 : decode c_PF_forget 5 = .ok (.putfield 104, 3) := by decide +kernel
theorem d_PF_forget_8 : decode c_PF_forget 8 = .ok (.aload_n 0, 1) := by decide +kernel
theorem d_PF_forget_9 : decode c_PF_forget 9 = .ok (.getfield 37, 3) := by decide +kernel
theorem d_PF_forget_12 : decode c_PF_forget 12 = .ok (.iconst (-1), 1) := by decide +kernel
theorem d_PF_forget_13 : decode c_PF_forget 13 = .ok (.putfield 108, 3) := by decide +kernel
theorem d_PF_forget_16 : decode c_PF_forget 16 = .ok (.return_, 1) := by decide +kernel
theorem d_PF_drop_0 : decode c_PF_drop 0 = .ok (.aload_n 0, 1) := by decide +kernel
theorem d_PF_drop_1 : decode c_PF_drop 1 = .ok (.getfield 10, 3) := by decide +kernel
theorem d_PF_drop_4 : decode c_PF_drop 4 = .ok (.iload_n 1, 1) := by decide +kernel
theorem d_PF_drop_5 : decode c_PF_drop 5 = .ok (.iload_n 2, 1) := by decide +kernel
theorem d_PF_drop_6 : decode c_PF_drop 6 = .ok (.iload_n 3, 1) := by decide +kernel
theorem d_PF_drop_7 : decode c_PF_drop 7 = .ok (.invokevirtual 48, 3) := by decide +kernel
theorem d_PF_drop_10 : decode c_PF_drop 10 = .ok (.istore 4, 2) := by decide +kernel
theorem d_PF_drop_12 : decode c_PF_drop 12 = .ok (.iload 4, 2) := by decide +kernel
theorem d_PF_drop_14 : decode c_PF_drop 14 = .ok (.iconst 1, 1) := by decide +kernel
theorem d_PF_drop_15 : decode c_PF_drop 15 = .ok (.if_icmp .ne 7, 3) := by decide +kernel
theorem d_PF_drop_18 : decode c_PF_drop 18 = .ok (.aload_n 0, 1) := by decide +kernel
theorem d_PF_drop_19 : decode c_PF_drop 19 = .ok (.invokevirtual 45, 3) := by decide +kernel
theorem d_PF_drop_22 : decode c_PF_drop 22 = .ok (.iload 4, 2) := by decide +kernel
theorem d_PF_drop_24 : decode c_PF_drop 24 = .ok (.ireturn, 1) := by decide +kernel
theorem d_PF_edges_0 : decode c_PF_edges 0 = .ok (.aload_n 0, 1) := by decide +kernel
theorem d_PF_edges_1 : decode c_PF_edges 1 = .ok (.getfield 10, 3) := by decide +kernel
theorem d_PF_edges_4 : decode c_PF_edges 4 = .ok (.getfield 51, 3) := by decide +kernel
theorem d_PF_edges_7 : decode c_PF_edges 7 = .ok (.ireturn, 1) := by decide +kernel
theorem d_PF_word_0 : decode c_PF_word 0 = .ok (.aload_n 0, 1) := by decide +kernel
theorem d_PF_word_1 : decode c_PF_word 1 = .ok (.getfield 19, 3) := by decide +kernel
theorem d_PF_word_4 : decode c_PF_word 4 = .ok (.iload_n 1, 1) := by decide +kernel
theorem d_PF_word_5 : decode c_PF_word 5 = .ok (.invokevirtual 55, 3) := by decide +kernel
theorem d_PF_word_8 : decode c_PF_word 8 = .ok (.istore_n 2, 1) := by decide +kernel
theorem d_PF_word_9 : decode c_PF_word 9 = .ok (.aload_n 0, 1) := by decide +kernel
theorem d_PF_word_10 : decode c_PF_word 10 = .ok (.invokevirtual 45, 3) := by decide +kernel
theorem d_PF_word_13 : decode c_PF_word 13 = .ok (.iload_n 2, 1) := by decide +kernel
theorem d_PF_word_14 : decode c_PF_word 14 = .ok (.ireturn, 1) := by decide +kernel
theorem d_PF_clear_0 : decode c_PF_clear 0 = .ok (.aload_n 0, 1) := by decide +kernel
theorem d_PF_clear_1 : decode c_PF_clear 1 = .ok (.getfield 19, 3) := by decide +kernel
theorem d_PF_clear_4 : decode c_PF_clear 4 = .ok (.invokevirtual 59, 3) := by decide +kernel
theorem d_PF_clear_7 : decode c_PF_clear 7 = .ok (.istore_n 1, 1) := by decide +kernel
theorem d_PF_clear_8 : decode c_PF_clear 8 = .ok (.aload_n 0, 1) := by decide +kernel
theorem d_PF_clear_9 : decode c_PF_clear 9 = .ok (.invokevirtual 45, 3) := by decide +kernel
theorem d_PF_clear_12 : decode c_PF_clear 12 = .ok (.iload_n 1, 1) := by decide +kernel
theorem d_PF_clear_13 : decode c_PF_clear 13 = .ok (.ireturn, 1) := by decide +kernel
theorem d_PF_look_0 : decode c_PF_look 0 = .ok (.aload_n 0, 1) := by decide +kernel
theorem d_PF_look_1 : decode c_PF_look 1 = .ok (.getfield 19, 3) := by decide +kernel
theorem d_PF_look_4 : decode c_PF_look 4 = .ok (.getfield 63, 3) := by decide +kernel
theorem d_PF_look_7 : decode c_PF_look 7 = .ok (.ireturn, 1) := by decide +kernel
theorem d_PF_times_0 : decode c_PF_times 0 = .ok (.iload_n 1, 1) := by decide +kernel
theorem d_PF_times_1 : decode c_PF_times 1 = .ok (.invokestatic 66, 3) := by decide +kernel
theorem d_PF_times_4 : decode c_PF_times 4 = .ok (.ifCond .eq 10, 3) := by decide +kernel
theorem d_PF_times_7 : decode c_PF_times 7 = .ok (.iload_n 2, 1) := by decide +kernel
theorem d_PF_times_8 : decode c_PF_times 8 = .ok (.invokestatic 66, 3) := by decide +kernel
theorem d_PF_times_11 : decode c_PF_times 11 = .ok (.ifCond .ne 7, 3) := by decide +kernel
theorem d_PF_times_14 : decode c_PF_times 14 = .ok (.ldc2_w 70, 3) := by decide +kernel
theorem d_PF_times_17 : decode c_PF_times 17 = .ok (.lreturn, 1) := by decide +kernel
theorem d_PF_times_18 : decode c_PF_times 18 = .ok (.aload_n 0, 1) := by decide +kernel
theorem d_PF_times_19 : decode c_PF_times 19 = .ok (.getfield 19, 3) := by decide +kernel
theorem d_PF_times_22 : decode c_PF_times 22 = .ok (.invokevirtual 72, 3) := by decide +kernel
theorem d_PF_times_25 : decode c_PF_times 25 = .ok (.ifCond .ne 7, 3) := by decide +kernel
theorem d_PF_times_28 : decode c_PF_times 28 = .ok (.ldc2_w 76, 3) := by decide +kernel
theorem d_PF_times_31 : decode c_PF_times 31 = .ok (.lreturn, 1) := by decide +kernel
theorem d_PF_times_32 : decode c_PF_times 32 = .ok (.aload_n 0, 1) := by decide +kernel
theorem d_PF_times_33 : decode c_PF_times 33 = .ok (.getfield 37, 3) := by decide +kernel
theorem d_PF_times_36 : decode c_PF_times 36 = .ok (.iload_n 1, 1) := by decide +kernel
theorem d_PF_times_37 : decode c_PF_times 37 = .ok (.invokevirtual 78, 3) := by decide +kernel
theorem d_PF_times_40 : decode c_PF_times 40 = .ok (.iload_n 2, 1) := by decide +kernel
theorem d_PF_times_41 : decode c_PF_times 41 = .ok (.laload, 1) := by decide +kernel
theorem d_PF_times_42 : decode c_PF_times 42 = .ok (.lreturn, 1) := by decide +kernel
theorem d_PF_sumOf_0 : decode c_PF_sumOf 0 = .ok (.lload_n 0, 1) := by decide +kernel
theorem d_PF_sumOf_1 : decode c_PF_sumOf 1 = .ok (.lload_n 2, 1) := by decide +kernel
theorem d_PF_sumOf_2 : decode c_PF_sumOf 2 = .ok (.ladd, 1) := by decide +kernel
theorem d_PF_sumOf_3 : decode c_PF_sumOf 3 = .ok (.lstore 4, 2) := by decide +kernel
theorem d_PF_sumOf_5 : decode c_PF_sumOf 5 = .ok (.lload 4, 2) := by decide +kernel
theorem d_PF_sumOf_7 : decode c_PF_sumOf 7 = .ok (.ldc2_w 111, 3) := by decide +kernel
theorem d_PF_sumOf_10 : decode c_PF_sumOf 10 = .ok (.lcmp, 1) := by decide +kernel
theorem d_PF_sumOf_11 : decode c_PF_sumOf 11 = .ok (.ifCond .ge 8, 3) := by decide +kernel
theorem d_PF_sumOf_14 : decode c_PF_sumOf 14 = .ok (.lload 4, 2) := by decide +kernel
theorem d_PF_sumOf_16 : decode c_PF_sumOf 16 = .ok (.goto 6, 3) := by decide +kernel
theorem d_PF_sumOf_19 : decode c_PF_sumOf 19 = .ok (.ldc2_w 111, 3) := by decide +kernel
theorem d_PF_sumOf_22 : decode c_PF_sumOf 22 = .ok (.lreturn, 1) := by decide +kernel
theorem d_PF_ends_0 : decode c_PF_ends 0 = .ok (.iload_n 1, 1) := by decide +kernel
theorem d_PF_ends_1 : decode c_PF_ends 1 = .ok (.invokestatic 66, 3) := by decide +kernel
theorem d_PF_ends_4 : decode c_PF_ends 4 = .ok (.ifCond .ne 5, 3) := by decide +kernel
theorem d_PF_ends_7 : decode c_PF_ends 7 = .ok (.iconst (-1), 1) := by decide +kernel
theorem d_PF_ends_8 : decode c_PF_ends 8 = .ok (.ireturn, 1) := by decide +kernel
theorem d_PF_ends_9 : decode c_PF_ends 9 = .ok (.aload_n 0, 1) := by decide +kernel
theorem d_PF_ends_10 : decode c_PF_ends 10 = .ok (.getfield 19, 3) := by decide +kernel
theorem d_PF_ends_13 : decode c_PF_ends 13 = .ok (.invokevirtual 72, 3) := by decide +kernel
theorem d_PF_ends_16 : decode c_PF_ends 16 = .ok (.ifCond .ne 6, 3) := by decide +kernel
theorem d_PF_ends_19 : decode c_PF_ends 19 = .ok (.bipush (-2), 2) := by decide +kernel
theorem d_PF_ends_21 : decode c_PF_ends 21 = .ok (.ireturn, 1) := by decide +kernel
theorem d_PF_ends_22 : decode c_PF_ends 22 = .ok (.aload_n 0, 1) := by decide +kernel
theorem d_PF_ends_23 : decode c_PF_ends 23 = .ok (.getfield 28, 3) := by decide +kernel
theorem d_PF_ends_26 : decode c_PF_ends 26 = .ok (.invokevirtual 82, 3) := by decide +kernel
theorem d_PF_ends_29 : decode c_PF_ends 29 = .ok (.iload_n 1, 1) := by decide +kernel
theorem d_PF_ends_30 : decode c_PF_ends 30 = .ok (.laload, 1) := by decide +kernel
theorem d_PF_ends_31 : decode c_PF_ends 31 = .ok (.invokestatic 86, 3) := by decide +kernel
theorem d_PF_ends_34 : decode c_PF_ends 34 = .ok (.ireturn, 1) := by decide +kernel
theorem d_PF_reached_0 : decode c_PF_reached 0 = .ok (.aload_n 0, 1) := by decide +kernel
theorem d_PF_reached_1 : decode c_PF_reached 1 = .ok (.getfield 19, 3) := by decide +kernel
theorem d_PF_reached_4 : decode c_PF_reached 4 = .ok (.invokevirtual 72, 3) := by decide +kernel
theorem d_PF_reached_7 : decode c_PF_reached 7 = .ok (.ifCond .ne 5, 3) := by decide +kernel
theorem d_PF_reached_10 : decode c_PF_reached 10 = .ok (.lconst 0, 1) := by decide +kernel
theorem d_PF_reached_11 : decode c_PF_reached 11 = .ok (.lreturn, 1) := by decide +kernel
theorem d_PF_reached_12 : decode c_PF_reached 12 = .ok (.iload_n 1, 1) := by decide +kernel
theorem d_PF_reached_13 : decode c_PF_reached 13 = .ok (.invokestatic 66, 3) := by decide +kernel
theorem d_PF_reached_16 : decode c_PF_reached 16 = .ok (.ifCond .ne 7, 3) := by decide +kernel
theorem d_PF_reached_19 : decode c_PF_reached 19 = .ok (.ldc2_w 70, 3) := by decide +kernel
theorem d_PF_reached_22 : decode c_PF_reached 22 = .ok (.lreturn, 1) := by decide +kernel
theorem d_PF_reached_23 : decode c_PF_reached 23 = .ok (.aload_n 0, 1) := by decide +kernel
theorem d_PF_reached_24 : decode c_PF_reached 24 = .ok (.getfield 28, 3) := by decide +kernel
theorem d_PF_reached_27 : decode c_PF_reached 27 = .ok (.invokevirtual 82, 3) := by decide +kernel
theorem d_PF_reached_30 : decode c_PF_reached 30 = .ok (.iload_n 1, 1) := by decide +kernel
theorem d_PF_reached_31 : decode c_PF_reached 31 = .ok (.laload, 1) := by decide +kernel
theorem d_PF_reached_32 : decode c_PF_reached 32 = .ok (.lreturn, 1) := by decide +kernel
theorem d_PF_all_0 : decode c_PF_all 0 = .ok (.iload_n 1, 1) := by decide +kernel
theorem d_PF_all_1 : decode c_PF_all 1 = .ok (.invokestatic 66, 3) := by decide +kernel
theorem d_PF_all_4 : decode c_PF_all 4 = .ok (.ifCond .ne 7, 3) := by decide +kernel
theorem d_PF_all_7 : decode c_PF_all 7 = .ok (.ldc2_w 70, 3) := by decide +kernel
theorem d_PF_all_10 : decode c_PF_all 10 = .ok (.lreturn, 1) := by decide +kernel
theorem d_PF_all_11 : decode c_PF_all 11 = .ok (.aload_n 0, 1) := by decide +kernel
theorem d_PF_all_12 : decode c_PF_all 12 = .ok (.getfield 19, 3) := by decide +kernel
theorem d_PF_all_15 : decode c_PF_all 15 = .ok (.invokevirtual 72, 3) := by decide +kernel
theorem d_PF_all_18 : decode c_PF_all 18 = .ok (.ifCond .ne 7, 3) := by decide +kernel
theorem d_PF_all_21 : decode c_PF_all 21 = .ok (.ldc2_w 76, 3) := by decide +kernel
theorem d_PF_all_24 : decode c_PF_all 24 = .ok (.lreturn, 1) := by decide +kernel
theorem d_PF_all_25 : decode c_PF_all 25 = .ok (.aload_n 0, 1) := by decide +kernel
theorem d_PF_all_26 : decode c_PF_all 26 = .ok (.getfield 37, 3) := by decide +kernel
theorem d_PF_all_29 : decode c_PF_all 29 = .ok (.iload_n 1, 1) := by decide +kernel
theorem d_PF_all_30 : decode c_PF_all 30 = .ok (.invokevirtual 78, 3) := by decide +kernel
theorem d_PF_all_33 : decode c_PF_all 33 = .ok (.astore_n 2, 1) := by decide +kernel
theorem d_PF_all_34 : decode c_PF_all 34 = .ok (.lconst 0, 1) := by decide +kernel
theorem d_PF_all_35 : decode c_PF_all 35 = .ok (.lstore_n 3, 1) := by decide +kernel
theorem d_PF_all_36 : decode c_PF_all 36 = .ok (.iconst 0, 1) := by decide +kernel
theorem d_PF_all_37 : decode c_PF_all 37 = .ok (.istore 5, 2) := by decide +kernel
theorem d_PF_all_39 : decode c_PF_all 39 = .ok (.iload 5, 2) := by decide +kernel
theorem d_PF_all_41 : decode c_PF_all 41 = .ok (.bipush 64, 2) := by decide +kernel
theorem d_PF_all_43 : decode c_PF_all 43 = .ok (.if_icmp .ge 18, 3) := by decide +kernel
theorem d_PF_all_46 : decode c_PF_all 46 = .ok (.lload_n 3, 1) := by decide +kernel
theorem d_PF_all_47 : decode c_PF_all 47 = .ok (.aload_n 2, 1) := by decide +kernel
theorem d_PF_all_48 : decode c_PF_all 48 = .ok (.iload 5, 2) := by decide +kernel
theorem d_PF_all_50 : decode c_PF_all 50 = .ok (.laload, 1) := by decide +kernel
theorem d_PF_all_51 : decode c_PF_all 51 = .ok (.invokestatic 92, 3) := by decide +kernel
theorem d_PF_all_54 : decode c_PF_all 54 = .ok (.lstore_n 3, 1) := by decide +kernel
theorem d_PF_all_55 : decode c_PF_all 55 = .ok (.iinc 5 1, 3) := by decide +kernel
theorem d_PF_all_58 : decode c_PF_all 58 = .ok (.goto (-19), 3) := by decide +kernel
theorem d_PF_all_61 : decode c_PF_all 61 = .ok (.lload_n 3, 1) := by decide +kernel
theorem d_PF_all_62 : decode c_PF_all 62 = .ok (.lreturn, 1) := by decide +kernel
theorem d_PF_reaching_0 : decode c_PF_reaching 0 = .ok (.aload_n 0, 1) := by decide +kernel
theorem d_PF_reaching_1 : decode c_PF_reaching 1 = .ok (.getfield 19, 3) := by decide +kernel
theorem d_PF_reaching_4 : decode c_PF_reaching 4 = .ok (.invokevirtual 72, 3) := by decide +kernel
theorem d_PF_reaching_7 : decode c_PF_reaching 7 = .ok (.ifCond .eq 10, 3) := by decide +kernel
theorem d_PF_reaching_10 : decode c_PF_reaching 10 = .ok (.iload_n 1, 1) := by decide +kernel
theorem d_PF_reaching_11 : decode c_PF_reaching 11 = .ok (.invokestatic 66, 3) := by decide +kernel
theorem d_PF_reaching_14 : decode c_PF_reaching 14 = .ok (.ifCond .ne 5, 3) := by decide +kernel
theorem d_PF_reaching_17 : decode c_PF_reaching 17 = .ok (.lconst 0, 1) := by decide +kernel
theorem d_PF_reaching_18 : decode c_PF_reaching 18 = .ok (.lreturn, 1) := by decide +kernel
theorem d_PF_reaching_19 : decode c_PF_reaching 19 = .ok (.aload_n 0, 1) := by decide +kernel
theorem d_PF_reaching_20 : decode c_PF_reaching 20 = .ok (.getfield 28, 3) := by decide +kernel
theorem d_PF_reaching_23 : decode c_PF_reaching 23 = .ok (.invokevirtual 82, 3) := by decide +kernel
theorem d_PF_reaching_26 : decode c_PF_reaching 26 = .ok (.astore_n 2, 1) := by decide +kernel
theorem d_PF_reaching_27 : decode c_PF_reaching 27 = .ok (.lconst 0, 1) := by decide +kernel
theorem d_PF_reaching_28 : decode c_PF_reaching 28 = .ok (.lstore_n 3, 1) := by decide +kernel
theorem d_PF_reaching_29 : decode c_PF_reaching 29 = .ok (.iconst 0, 1) := by decide +kernel
theorem d_PF_reaching_30 : decode c_PF_reaching 30 = .ok (.istore 5, 2) := by decide +kernel
theorem d_PF_reaching_32 : decode c_PF_reaching 32 = .ok (.iload 5, 2) := by decide +kernel
theorem d_PF_reaching_34 : decode c_PF_reaching 34 = .ok (.bipush 64, 2) := by decide +kernel
theorem d_PF_reaching_36 : decode c_PF_reaching 36 = .ok (.if_icmp .ge 28, 3) := by decide +kernel
theorem d_PF_reaching_39 : decode c_PF_reaching 39 = .ok (.aload_n 2, 1) := by decide +kernel
theorem d_PF_reaching_40 : decode c_PF_reaching 40 = .ok (.iload 5, 2) := by decide +kernel
theorem d_PF_reaching_42 : decode c_PF_reaching 42 = .ok (.laload, 1) := by decide +kernel
theorem d_PF_reaching_43 : decode c_PF_reaching 43 = .ok (.iload_n 1, 1) := by decide +kernel
theorem d_PF_reaching_44 : decode c_PF_reaching 44 = .ok (.invokestatic 96, 3) := by decide +kernel
theorem d_PF_reaching_47 : decode c_PF_reaching 47 = .ok (.ifCond .eq 11, 3) := by decide +kernel
theorem d_PF_reaching_50 : decode c_PF_reaching 50 = .ok (.lload_n 3, 1) := by decide +kernel
theorem d_PF_reaching_51 : decode c_PF_reaching 51 = .ok (.iload 5, 2) := by decide +kernel
theorem d_PF_reaching_53 : decode c_PF_reaching 53 = .ok (.invokestatic 100, 3) := by decide +kernel
theorem d_PF_reaching_56 : decode c_PF_reaching 56 = .ok (.lor, 1) := by decide +kernel
theorem d_PF_reaching_57 : decode c_PF_reaching 57 = .ok (.lstore_n 3, 1) := by decide +kernel
theorem d_PF_reaching_58 : decode c_PF_reaching 58 = .ok (.iinc 5 1, 3) := by decide +kernel
theorem d_PF_reaching_61 : decode c_PF_reaching 61 = .ok (.goto (-29), 3) := by decide +kernel
theorem d_PF_reaching_64 : decode c_PF_reaching 64 = .ok (.lload_n 3, 1) := by decide +kernel
theorem d_PF_reaching_65 : decode c_PF_reaching 65 = .ok (.lreturn, 1) := by decide +kernel
theorem d_PF_pairs_0 : decode c_PF_pairs 0 = .ok (.aload_n 0, 1) := by decide +kernel
theorem d_PF_pairs_1 : decode c_PF_pairs 1 = .ok (.getfield 19, 3) := by decide +kernel
theorem d_PF_pairs_4 : decode c_PF_pairs 4 = .ok (.invokevirtual 72, 3) := by decide +kernel
theorem d_PF_pairs_7 : decode c_PF_pairs 7 = .ok (.ifCond .ne 6, 3) := by decide +kernel
theorem d_PF_pairs_10 : decode c_PF_pairs 10 = .ok (.bipush (-2), 2) := by decide +kernel
theorem d_PF_pairs_12 : decode c_PF_pairs 12 = .ok (.ireturn, 1) := by decide +kernel
theorem d_PF_pairs_13 : decode c_PF_pairs 13 = .ok (.aload_n 0, 1) := by decide +kernel
theorem d_PF_pairs_14 : decode c_PF_pairs 14 = .ok (.getfield 28, 3) := by decide +kernel
theorem d_PF_pairs_17 : decode c_PF_pairs 17 = .ok (.invokevirtual 82, 3) := by decide +kernel
theorem d_PF_pairs_20 : decode c_PF_pairs 20 = .ok (.astore_n 1, 1) := by decide +kernel
theorem d_PF_pairs_21 : decode c_PF_pairs 21 = .ok (.iconst 0, 1) := by decide +kernel
theorem d_PF_pairs_22 : decode c_PF_pairs 22 = .ok (.istore_n 2, 1) := by decide +kernel
theorem d_PF_pairs_23 : decode c_PF_pairs 23 = .ok (.iconst 0, 1) := by decide +kernel
theorem d_PF_pairs_24 : decode c_PF_pairs 24 = .ok (.istore_n 3, 1) := by decide +kernel
theorem d_PF_pairs_25 : decode c_PF_pairs 25 = .ok (.iload_n 3, 1) := by decide +kernel
theorem d_PF_pairs_26 : decode c_PF_pairs 26 = .ok (.bipush 64, 2) := by decide +kernel
theorem d_PF_pairs_28 : decode c_PF_pairs 28 = .ok (.if_icmp .ge 18, 3) := by decide +kernel
theorem d_PF_pairs_31 : decode c_PF_pairs 31 = .ok (.iload_n 2, 1) := by decide +kernel
theorem d_PF_pairs_32 : decode c_PF_pairs 32 = .ok (.aload_n 1, 1) := by decide +kernel
theorem d_PF_pairs_33 : decode c_PF_pairs 33 = .ok (.iload_n 3, 1) := by decide +kernel
theorem d_PF_pairs_34 : decode c_PF_pairs 34 = .ok (.laload, 1) := by decide +kernel
theorem d_PF_pairs_35 : decode c_PF_pairs 35 = .ok (.invokestatic 86, 3) := by decide +kernel
theorem d_PF_pairs_38 : decode c_PF_pairs 38 = .ok (.iadd, 1) := by decide +kernel
theorem d_PF_pairs_39 : decode c_PF_pairs 39 = .ok (.istore_n 2, 1) := by decide +kernel
theorem d_PF_pairs_40 : decode c_PF_pairs 40 = .ok (.iinc 3 1, 3) := by decide +kernel
theorem d_PF_pairs_43 : decode c_PF_pairs 43 = .ok (.goto (-18), 3) := by decide +kernel
theorem d_PF_pairs_46 : decode c_PF_pairs 46 = .ok (.iload_n 2, 1) := by decide +kernel
theorem d_PF_pairs_47 : decode c_PF_pairs 47 = .ok (.ireturn, 1) := by decide +kernel
end
section
/-! DECODE ROWS -/
theorem d_RE_init_0 : decode c_RE_init 0 = .ok (.aload_n 0, 1) := by decide +kernel
theorem d_RE_init_1 : decode c_RE_init 1 = .ok (.invokespecial 3, 3) := by decide +kernel
theorem d_RE_init_4 : decode c_RE_init 4 = .ok (.aload_n 0, 1) := by decide +kernel
theorem d_RE_init_5 : decode c_RE_init 5 = .ok (.bipush 40, 2) := by decide +kernel
theorem d_RE_init_7 : decode c_RE_init 7 = .ok (.bipush 64, 2) := by decide +kernel
theorem d_RE_init_9 : decode c_RE_init 9 = .ok (.multianewarray 9 2, 4) := by decide +kernel
theorem d_RE_init_13 : decode c_RE_init 13 = .ok (.putfield 11, 3) := by decide +kernel
theorem d_RE_init_16 : decode c_RE_init 16 = .ok (.aload_n 0, 1) := by decide +kernel
theorem d_RE_init_17 : decode c_RE_init 17 = .ok (.aload_n 1, 1) := by decide +kernel
theorem d_RE_init_18 : decode c_RE_init 18 = .ok (.putfield 16, 3) := by decide +kernel
theorem d_RE_init_21 : decode c_RE_init 21 = .ok (.aload_n 0, 1) := by decide +kernel
theorem d_RE_init_22 : decode c_RE_init 22 = .ok (.aload_n 2, 1) := by decide +kernel
theorem d_RE_init_23 : decode c_RE_init 23 = .ok (.putfield 20, 3) := by decide +kernel
theorem d_RE_init_26 : decode c_RE_init 26 = .ok (.return_, 1) := by decide +kernel
theorem d_RE_ofPath_0 : decode c_RE_ofPath 0 = .ok (.aload_n 0, 1) := by decide +kernel
theorem d_RE_ofPath_1 : decode c_RE_ofPath 1 = .ok (.getfield 24, 3) := by decide +kernel
theorem d_RE_ofPath_4 : decode c_RE_ofPath 4 = .ok (.ifCond .ne 33, 3) := by decide +kernel
theorem d_RE_ofPath_7 : decode c_RE_ofPath 7 = .ok (.aload_n 0, 1) := by decide +kernel
theorem d_RE_ofPath_8 : decode c_RE_ofPath 8 = .ok (.getfield 20, 3) := by decide +kernel
theorem d_RE_ofPath_11 : decode c_RE_ofPath 11 = .ok (.getfield 28, 3) := by decide +kernel
theorem d_RE_ofPath_14 : decode c_RE_ofPath 14 = .ok (.iconst 1, 1) := by decide +kernel
theorem d_RE_ofPath_15 : decode c_RE_ofPath 15 = .ok (.isub, 1) := by decide +kernel
theorem d_RE_ofPath_16 : decode c_RE_ofPath 16 = .ok (.istore_n 1, 1) := by decide +kernel
theorem d_RE_ofPath_17 : decode c_RE_ofPath 17 = .ok (.iload_n 1, 1) := by decide +kernel
theorem d_RE_ofPath_18 : decode c_RE_ofPath 18 = .ok (.ifCond .lt 14, 3) := by decide +kernel
theorem d_RE_ofPath_21 : decode c_RE_ofPath 21 = .ok (.aload_n 0, 1) := by decide +kernel
theorem d_RE_ofPath_22 : decode c_RE_ofPath 22 = .ok (.iload_n 1, 1) := by decide +kernel
theorem d_RE_ofPath_23 : decode c_RE_ofPath 23 = .ok (.invokevirtual 34, 3) := by decide +kernel
theorem d_RE_ofPath_26 : decode c_RE_ofPath 26 = .ok (.iinc 1 (-1), 3) := by decide +kernel
theorem d_RE_ofPath_29 : decode c_RE_ofPath 29 = .ok (.goto (-12), 3) := by decide +kernel
theorem d_RE_ofPath_32 : decode c_RE_ofPath 32 = .ok (.aload_n 0, 1) := by decide +kernel
theorem d_RE_ofPath_33 : decode c_RE_ofPath 33 = .ok (.iconst 1, 1) := by decide +kernel
theorem d_RE_ofPath_34 : decode c_RE_ofPath 34 = .ok (.putfield 24, 3) := by decide +kernel
theorem d_RE_ofPath_37 : decode c_RE_ofPath 37 = .ok (.aload_n 0, 1) := by decide +kernel
theorem d_RE_ofPath_38 : decode c_RE_ofPath 38 = .ok (.getfield 11, 3) := by decide +kernel
theorem d_RE_ofPath_41 : decode c_RE_ofPath 41 = .ok (.iconst 0, 1) := by decide +kernel
theorem d_RE_ofPath_42 : decode c_RE_ofPath 42 = .ok (.aaload, 1) := by decide +kernel
theorem d_RE_ofPath_43 : decode c_RE_ofPath 43 = .ok (.areturn, 1) := by decide +kernel
theorem d_RE_fill_0 : decode c_RE_fill 0 = .ok (.aload_n 0, 1) := by decide +kernel
theorem d_RE_fill_1 : decode c_RE_fill 1 = .ok (.getfield 11, 3) := by decide +kernel
theorem d_RE_fill_4 : decode c_RE_fill 4 = .ok (.iload_n 1, 1) := by decide +kernel
theorem d_RE_fill_5 : decode c_RE_fill 5 = .ok (.aaload, 1) := by decide +kernel
theorem d_RE_fill_6 : decode c_RE_fill 6 = .ok (.astore_n 2, 1) := by decide +kernel
theorem d_RE_fill_7 : decode c_RE_fill 7 = .ok (.aload_n 2, 1) := by decide +kernel
theorem d_RE_fill_8 : decode c_RE_fill 8 = .ok (.lconst 0, 1) := by decide +kernel
theorem d_RE_fill_9 : decode c_RE_fill 9 = .ok (.invokestatic 38, 3) := by decide +kernel
theorem d_RE_fill_12 : decode c_RE_fill 12 = .ok (.aload_n 0, 1) := by decide +kernel
theorem d_RE_fill_13 : decode c_RE_fill 13 = .ok (.getfield 20, 3) := by decide +kernel
theorem d_RE_fill_16 : decode c_RE_fill 16 = .ok (.getfield 43, 3) := by decide +kernel
theorem d_RE_fill_19 : decode c_RE_fill 19 = .ok (.iload_n 1, 1) := by decide +kernel
theorem d_RE_fill_20 : decode c_RE_fill 20 = .ok (.iaload, 1) := by decide +kernel
theorem d_RE_fill_21 : decode c_RE_fill 21 = .ok (.istore_n 3, 1) := by decide +kernel
theorem d_RE_fill_22 : decode c_RE_fill 22 = .ok (.iload_n 1, 1) := by decide +kernel
theorem d_RE_fill_23 : decode c_RE_fill 23 = .ok (.iconst 1, 1) := by decide +kernel
theorem d_RE_fill_24 : decode c_RE_fill 24 = .ok (.iadd, 1) := by decide +kernel
theorem d_RE_fill_25 : decode c_RE_fill 25 = .ok (.istore 4, 2) := by decide +kernel
theorem d_RE_fill_27 : decode c_RE_fill 27 = .ok (.aload_n 0, 1) := by decide +kernel
theorem d_RE_fill_28 : decode c_RE_fill 28 = .ok (.getfield 20, 3) := by decide +kernel
theorem d_RE_fill_31 : decode c_RE_fill 31 = .ok (.getfield 47, 3) := by decide +kernel
theorem d_RE_fill_34 : decode c_RE_fill 34 = .ok (.iload_n 1, 1) := by decide +kernel
theorem d_RE_fill_35 : decode c_RE_fill 35 = .ok (.iaload, 1) := by decide +kernel
theorem d_RE_fill_36 : decode c_RE_fill 36 = .ok (.istore 5, 2) := by decide +kernel
theorem d_RE_fill_38 : decode c_RE_fill 38 = .ok (.iload_n 3, 1) := by decide +kernel
theorem d_RE_fill_39 : decode c_RE_fill 39 = .ok (.ifCond .eq 9, 3) := by decide +kernel
theorem d_RE_fill_42 : decode c_RE_fill 42 = .ok (.iload_n 3, 1) := by decide +kernel
theorem d_RE_fill_43 : decode c_RE_fill 43 = .ok (.bipush 7, 2) := by decide +kernel
theorem d_RE_fill_45 : decode c_RE_fill 45 = .ok (.if_icmp .ne 20, 3) := by decide +kernel
theorem d_RE_fill_48 : decode c_RE_fill 48 = .ok (.aload_n 0, 1) := by decide +kernel
theorem d_RE_fill_49 : decode c_RE_fill 49 = .ok (.aload_n 2, 1) := by decide +kernel
theorem d_RE_fill_50 : decode c_RE_fill 50 = .ok (.aload_n 0, 1) := by decide +kernel
theorem d_RE_fill_51 : decode c_RE_fill 51 = .ok (.getfield 20, 3) := by decide +kernel
theorem d_RE_fill_54 : decode c_RE_fill 54 = .ok (.getfield 50, 3) := by decide +kernel
theorem d_RE_fill_57 : decode c_RE_fill 57 = .ok (.iload_n 1, 1) := by decide +kernel
theorem d_RE_fill_58 : decode c_RE_fill 58 = .ok (.iaload, 1) := by decide +kernel
theorem d_RE_fill_59 : decode c_RE_fill 59 = .ok (.invokevirtual 53, 3) := by decide +kernel
theorem d_RE_fill_62 : decode c_RE_fill 62 = .ok (.goto 46, 3) := by decide +kernel
theorem d_RE_fill_65 : decode c_RE_fill 65 = .ok (.iload 4, 2) := by decide +kernel
theorem d_RE_fill_67 : decode c_RE_fill 67 = .ok (.aload_n 0, 1) := by decide +kernel
theorem d_RE_fill_68 : decode c_RE_fill 68 = .ok (.getfield 20, 3) := by decide +kernel
theorem d_RE_fill_71 : decode c_RE_fill 71 = .ok (.getfield 28, 3) := by decide +kernel
theorem d_RE_fill_74 : decode c_RE_fill 74 = .ok (.if_icmp .ge 34, 3) := by decide +kernel
theorem d_RE_fill_77 : decode c_RE_fill 77 = .ok (.iload 5, 2) := by decide +kernel
theorem d_RE_fill_79 : decode c_RE_fill 79 = .ok (.aload_n 0, 1) := by decide +kernel
theorem d_RE_fill_80 : decode c_RE_fill 80 = .ok (.getfield 20, 3) := by decide +kernel
theorem d_RE_fill_83 : decode c_RE_fill 83 = .ok (.getfield 28, 3) := by decide +kernel
theorem d_RE_fill_86 : decode c_RE_fill 86 = .ok (.if_icmp .ge 22, 3) := by decide +kernel
theorem d_RE_fill_89 : decode c_RE_fill 89 = .ok (.aload_n 2, 1) := by decide +kernel
theorem d_RE_fill_90 : decode c_RE_fill 90 = .ok (.iload_n 3, 1) := by decide +kernel
theorem d_RE_fill_91 : decode c_RE_fill 91 = .ok (.aload_n 0, 1) := by decide +kernel
theorem d_RE_fill_92 : decode c_RE_fill 92 = .ok (.getfield 11, 3) := by decide +kernel
theorem d_RE_fill_95 : decode c_RE_fill 95 = .ok (.iload 4, 2) := by decide +kernel
theorem d_RE_fill_97 : decode c_RE_fill 97 = .ok (.aaload, 1) := by decide +kernel
theorem d_RE_fill_98 : decode c_RE_fill 98 = .ok (.aload_n 0, 1) := by decide +kernel
theorem d_RE_fill_99 : decode c_RE_fill 99 = .ok (.getfield 11, 3) := by decide +kernel
theorem d_RE_fill_102 : decode c_RE_fill 102 = .ok (.iload 5, 2) := by decide +kernel
theorem d_RE_fill_104 : decode c_RE_fill 104 = .ok (.aaload, 1) := by decide +kernel
theorem d_RE_fill_105 : decode c_RE_fill 105 = .ok (.invokestatic 57, 3) := by decide +kernel
theorem d_RE_fill_108 : decode c_RE_fill 108 = .ok (.return_, 1) := by decide +kernel
theorem d_RE_addEdges_0 : decode c_RE_addEdges 0 = .ok (.iconst 0, 1) := by decide +kernel
theorem d_RE_addEdges_1 : decode c_RE_addEdges 1 = .ok (.istore_n 3, 1) := by decide +kernel
theorem d_RE_addEdges_2 : decode c_RE_addEdges 2 = .ok (.iload_n 3, 1) := by decide +kernel
theorem d_RE_addEdges_3 : decode c_RE_addEdges 3 = .ok (.bipush 8, 2) := by decide +kernel
theorem d_RE_addEdges_5 : decode c_RE_addEdges 5 = .ok (.if_icmp .ge 31, 3) := by decide +kernel
theorem d_RE_addEdges_8 : decode c_RE_addEdges 8 = .ok (.iload_n 2, 1) := by decide +kernel
theorem d_RE_addEdges_9 : decode c_RE_addEdges 9 = .ok (.i2l, 1) := by decide +kernel
theorem d_RE_addEdges_10 : decode c_RE_addEdges 10 = .ok (.iload_n 3, 1) := by decide +kernel
theorem d_RE_addEdges_11 : decode c_RE_addEdges 11 = .ok (.invokestatic 79, 3) := by decide +kernel
theorem d_RE_addEdges_14 : decode c_RE_addEdges 14 = .ok (.ifCond .eq 16, 3) := by decide +kernel
theorem d_RE_addEdges_17 : decode c_RE_addEdges 17 = .ok (.aload_n 1, 1) := by decide +kernel
theorem d_RE_addEdges_18 : decode c_RE_addEdges 18 = .ok (.aload_n 0, 1) := by decide +kernel
theorem d_RE_addEdges_19 : decode c_RE_addEdges 19 = .ok (.getfield 16, 3) := by decide +kernel
theorem d_RE_addEdges_22 : decode c_RE_addEdges 22 = .ok (.getfield 83, 3) := by decide +kernel
theorem d_RE_addEdges_25 : decode c_RE_addEdges 25 = .ok (.iload_n 3, 1) := by decide +kernel
theorem d_RE_addEdges_26 : decode c_RE_addEdges 26 = .ok (.aaload, 1) := by decide +kernel
theorem d_RE_addEdges_27 : decode c_RE_addEdges 27 = .ok (.invokestatic 69, 3) := by decide +kernel
theorem d_RE_addEdges_30 : decode c_RE_addEdges 30 = .ok (.iinc 3 1, 3) := by decide +kernel
theorem d_RE_addEdges_33 : decode c_RE_addEdges 33 = .ok (.goto (-31), 3) := by decide +kernel
theorem d_RE_addEdges_36 : decode c_RE_addEdges 36 = .ok (.return_, 1) := by decide +kernel
theorem d_RE_add_0 : decode c_RE_add 0 = .ok (.iconst 0, 1) := by decide +kernel
theorem d_RE_add_1 : decode c_RE_add 1 = .ok (.istore_n 2, 1) := by decide +kernel
theorem d_RE_add_2 : decode c_RE_add 2 = .ok (.iload_n 2, 1) := by decide +kernel
theorem d_RE_add_3 : decode c_RE_add 3 = .ok (.bipush 64, 2) := by decide +kernel
theorem d_RE_add_5 : decode c_RE_add 5 = .ok (.if_icmp .ge 18, 3) := by decide +kernel
theorem d_RE_add_8 : decode c_RE_add 8 = .ok (.aload_n 0, 1) := by decide +kernel
theorem d_RE_add_9 : decode c_RE_add 9 = .ok (.iload_n 2, 1) := by decide +kernel
theorem d_RE_add_10 : decode c_RE_add 10 = .ok (.dup2, 1) := by decide +kernel
theorem d_RE_add_11 : decode c_RE_add 11 = .ok (.laload, 1) := by decide +kernel
theorem d_RE_add_12 : decode c_RE_add 12 = .ok (.aload_n 1, 1) := by decide +kernel
theorem d_RE_add_13 : decode c_RE_add 13 = .ok (.iload_n 2, 1) := by decide +kernel
theorem d_RE_add_14 : decode c_RE_add 14 = .ok (.laload, 1) := by decide +kernel
theorem d_RE_add_15 : decode c_RE_add 15 = .ok (.lor, 1) := by decide +kernel
theorem d_RE_add_16 : decode c_RE_add 16 = .ok (.lastore, 1) := by decide +kernel
theorem d_RE_add_17 : decode c_RE_add 17 = .ok (.iinc 2 1, 3) := by decide +kernel
theorem d_RE_add_20 : decode c_RE_add 20 = .ok (.goto (-18), 3) := by decide +kernel
theorem d_RE_add_23 : decode c_RE_add 23 = .ok (.return_, 1) := by decide +kernel
theorem d_RE_fillFrom_0 : decode c_RE_fillFrom 0 = .ok (.iload_n 1, 1) := by decide +kernel
theorem d_RE_fillFrom_1 : decode c_RE_fillFrom 1 = .ok (.tableswitch 109 1 6 #[39, 47, 56, 69, 81, 97], 39) := by decide +kernel
theorem d_RE_fillFrom_40 : decode c_RE_fillFrom 40 = .ok (.aload_n 0, 1) := by decide +kernel
theorem d_RE_fillFrom_41 : decode c_RE_fillFrom 41 = .ok (.aload_n 2, 1) := by decide +kernel
theorem d_RE_fillFrom_42 : decode c_RE_fillFrom 42 = .ok (.invokestatic 61, 3) := by decide +kernel
theorem d_RE_fillFrom_45 : decode c_RE_fillFrom 45 = .ok (.goto 65, 3) := by decide +kernel
theorem d_RE_fillFrom_48 : decode c_RE_fillFrom 48 = .ok (.aload_n 0, 1) := by decide +kernel
theorem d_RE_fillFrom_49 : decode c_RE_fillFrom 49 = .ok (.aload_n 2, 1) := by decide +kernel
theorem d_RE_fillFrom_50 : decode c_RE_fillFrom 50 = .ok (.aload_n 3, 1) := by decide +kernel
theorem d_RE_fillFrom_51 : decode c_RE_fillFrom 51 = .ok (.invokestatic 65, 3) := by decide +kernel
theorem d_RE_fillFrom_54 : decode c_RE_fillFrom 54 = .ok (.goto 56, 3) := by decide +kernel
theorem d_RE_fillFrom_57 : decode c_RE_fillFrom 57 = .ok (.aload_n 0, 1) := by decide +kernel
theorem d_RE_fillFrom_58 : decode c_RE_fillFrom 58 = .ok (.aload_n 2, 1) := by decide +kernel
theorem d_RE_fillFrom_59 : decode c_RE_fillFrom 59 = .ok (.invokestatic 69, 3) := by decide +kernel
theorem d_RE_fillFrom_62 : decode c_RE_fillFrom 62 = .ok (.aload_n 0, 1) := by decide +kernel
theorem d_RE_fillFrom_63 : decode c_RE_fillFrom 63 = .ok (.aload_n 3, 1) := by decide +kernel
theorem d_RE_fillFrom_64 : decode c_RE_fillFrom 64 = .ok (.invokestatic 69, 3) := by decide +kernel
theorem d_RE_fillFrom_67 : decode c_RE_fillFrom 67 = .ok (.goto 43, 3) := by decide +kernel
theorem d_RE_fillFrom_70 : decode c_RE_fillFrom 70 = .ok (.aload_n 0, 1) := by decide +kernel
theorem d_RE_fillFrom_71 : decode c_RE_fillFrom 71 = .ok (.aload_n 2, 1) := by decide +kernel
theorem d_RE_fillFrom_72 : decode c_RE_fillFrom 72 = .ok (.invokestatic 69, 3) := by decide +kernel
theorem d_RE_fillFrom_75 : decode c_RE_fillFrom 75 = .ok (.aload_n 0, 1) := by decide +kernel
theorem d_RE_fillFrom_76 : decode c_RE_fillFrom 76 = .ok (.invokestatic 72, 3) := by decide +kernel
theorem d_RE_fillFrom_79 : decode c_RE_fillFrom 79 = .ok (.goto 31, 3) := by decide +kernel
theorem d_RE_fillFrom_82 : decode c_RE_fillFrom 82 = .ok (.aload_n 0, 1) := by decide +kernel
theorem d_RE_fillFrom_83 : decode c_RE_fillFrom 83 = .ok (.aload_n 2, 1) := by decide +kernel
theorem d_RE_fillFrom_84 : decode c_RE_fillFrom 84 = .ok (.invokestatic 69, 3) := by decide +kernel
theorem d_RE_fillFrom_87 : decode c_RE_fillFrom 87 = .ok (.aload_n 0, 1) := by decide +kernel
theorem d_RE_fillFrom_88 : decode c_RE_fillFrom 88 = .ok (.invokestatic 76, 3) := by decide +kernel
theorem d_RE_fillFrom_91 : decode c_RE_fillFrom 91 = .ok (.aload_n 0, 1) := by decide +kernel
theorem d_RE_fillFrom_92 : decode c_RE_fillFrom 92 = .ok (.invokestatic 72, 3) := by decide +kernel
theorem d_RE_fillFrom_95 : decode c_RE_fillFrom 95 = .ok (.goto 15, 3) := by decide +kernel
theorem d_RE_fillFrom_98 : decode c_RE_fillFrom 98 = .ok (.aload_n 0, 1) := by decide +kernel
theorem d_RE_fillFrom_99 : decode c_RE_fillFrom 99 = .ok (.aload_n 2, 1) := by decide +kernel
theorem d_RE_fillFrom_100 : decode c_RE_fillFrom 100 = .ok (.invokestatic 69, 3) := by decide +kernel
theorem d_RE_fillFrom_103 : decode c_RE_fillFrom 103 = .ok (.aload_n 0, 1) := by decide +kernel
theorem d_RE_fillFrom_104 : decode c_RE_fillFrom 104 = .ok (.invokestatic 76, 3) := by decide +kernel
theorem d_RE_fillFrom_107 : decode c_RE_fillFrom 107 = .ok (.goto 3, 3) := by decide +kernel
theorem d_RE_fillFrom_110 : decode c_RE_fillFrom 110 = .ok (.return_, 1) := by decide +kernel
theorem d_RE_addTurned_0 : decode c_RE_addTurned 0 = .ok (.iconst 0, 1) := by decide +kernel
theorem d_RE_addTurned_1 : decode c_RE_addTurned 1 = .ok (.istore_n 2, 1) := by decide +kernel
theorem d_RE_addTurned_2 : decode c_RE_addTurned 2 = .ok (.iload_n 2, 1) := by decide +kernel
theorem d_RE_addTurned_3 : decode c_RE_addTurned 3 = .ok (.bipush 64, 2) := by decide +kernel
theorem d_RE_addTurned_5 : decode c_RE_addTurned 5 = .ok (.if_icmp .ge 54, 3) := by decide +kernel
theorem d_RE_addTurned_8 : decode c_RE_addTurned 8 = .ok (.aload_n 1, 1) := by decide +kernel
theorem d_RE_addTurned_9 : decode c_RE_addTurned 9 = .ok (.iload_n 2, 1) := by decide +kernel
theorem d_RE_addTurned_10 : decode c_RE_addTurned 10 = .ok (.laload, 1) := by decide +kernel
theorem d_RE_addTurned_11 : decode c_RE_addTurned 11 = .ok (.lstore_n 3, 1) := by decide +kernel
theorem d_RE_addTurned_12 : decode c_RE_addTurned 12 = .ok (.iconst 0, 1) := by decide +kernel
theorem d_RE_addTurned_13 : decode c_RE_addTurned 13 = .ok (.istore 5, 2) := by decide +kernel
theorem d_RE_addTurned_15 : decode c_RE_addTurned 15 = .ok (.iload 5, 2) := by decide +kernel
theorem d_RE_addTurned_17 : decode c_RE_addTurned 17 = .ok (.bipush 64, 2) := by decide +kernel
theorem d_RE_addTurned_19 : decode c_RE_addTurned 19 = .ok (.if_icmp .ge 34, 3) := by decide +kernel
theorem d_RE_addTurned_22 : decode c_RE_addTurned 22 = .ok (.lload_n 3, 1) := by decide +kernel
theorem d_RE_addTurned_23 : decode c_RE_addTurned 23 = .ok (.lconst 0, 1) := by decide +kernel
theorem d_RE_addTurned_24 : decode c_RE_addTurned 24 = .ok (.lcmp, 1) := by decide +kernel
theorem d_RE_addTurned_25 : decode c_RE_addTurned 25 = .ok (.ifCond .eq 28, 3) := by decide +kernel
theorem d_RE_addTurned_28 : decode c_RE_addTurned 28 = .ok (.aload_n 0, 1) := by decide +kernel
theorem d_RE_addTurned_29 : decode c_RE_addTurned 29 = .ok (.lload_n 3, 1) := by decide +kernel
theorem d_RE_addTurned_30 : decode c_RE_addTurned 30 = .ok (.invokestatic 92, 3) := by decide +kernel
theorem d_RE_addTurned_33 : decode c_RE_addTurned 33 = .ok (.dup2, 1) := by decide +kernel
theorem d_RE_addTurned_34 : decode c_RE_addTurned 34 = .ok (.laload, 1) := by decide +kernel
theorem d_RE_addTurned_35 : decode c_RE_addTurned 35 = .ok (.iload_n 2, 1) := by decide +kernel
theorem d_RE_addTurned_36 : decode c_RE_addTurned 36 = .ok (.invokestatic 88, 3) := by decide +kernel
theorem d_RE_addTurned_39 : decode c_RE_addTurned 39 = .ok (.lor, 1) := by decide +kernel
theorem d_RE_addTurned_40 : decode c_RE_addTurned 40 = .ok (.lastore, 1) := by decide +kernel
theorem d_RE_addTurned_41 : decode c_RE_addTurned 41 = .ok (.lload_n 3, 1) := by decide +kernel
theorem d_RE_addTurned_42 : decode c_RE_addTurned 42 = .ok (.lload_n 3, 1) := by decide +kernel
theorem d_RE_addTurned_43 : decode c_RE_addTurned 43 = .ok (.lconst 1, 1) := by decide +kernel
theorem d_RE_addTurned_44 : decode c_RE_addTurned 44 = .ok (.lsub, 1) := by decide +kernel
theorem d_RE_addTurned_45 : decode c_RE_addTurned 45 = .ok (.land, 1) := by decide +kernel
theorem d_RE_addTurned_46 : decode c_RE_addTurned 46 = .ok (.lstore_n 3, 1) := by decide +kernel
theorem d_RE_addTurned_47 : decode c_RE_addTurned 47 = .ok (.iinc 5 1, 3) := by decide +kernel
theorem d_RE_addTurned_50 : decode c_RE_addTurned 50 = .ok (.goto (-35), 3) := by decide +kernel
theorem d_RE_addTurned_53 : decode c_RE_addTurned 53 = .ok (.iinc 2 1, 3) := by decide +kernel
theorem d_RE_addTurned_56 : decode c_RE_addTurned 56 = .ok (.goto (-54), 3) := by decide +kernel
theorem d_RE_addTurned_59 : decode c_RE_addTurned 59 = .ok (.return_, 1) := by decide +kernel
theorem d_RE_addJoined_0 : decode c_RE_addJoined 0 = .ok (.iconst 0, 1) := by decide +kernel
theorem d_RE_addJoined_1 : decode c_RE_addJoined 1 = .ok (.istore_n 3, 1) := by decide +kernel
theorem d_RE_addJoined_2 : decode c_RE_addJoined 2 = .ok (.iload_n 3, 1) := by decide +kernel
theorem d_RE_addJoined_3 : decode c_RE_addJoined 3 = .ok (.bipush 64, 2) := by decide +kernel
theorem d_RE_addJoined_5 : decode c_RE_addJoined 5 = .ok (.if_icmp .ge 59, 3) := by decide +kernel
theorem d_RE_addJoined_8 : decode c_RE_addJoined 8 = .ok (.aload_n 1, 1) := by decide +kernel
theorem d_RE_addJoined_9 : decode c_RE_addJoined 9 = .ok (.iload_n 3, 1) := by decide +kernel
theorem d_RE_addJoined_10 : decode c_RE_addJoined 10 = .ok (.laload, 1) := by decide +kernel
theorem d_RE_addJoined_11 : decode c_RE_addJoined 11 = .ok (.lstore 4, 2) := by decide +kernel
theorem d_RE_addJoined_13 : decode c_RE_addJoined 13 = .ok (.iconst 0, 1) := by decide +kernel
theorem d_RE_addJoined_14 : decode c_RE_addJoined 14 = .ok (.istore 6, 2) := by decide +kernel
theorem d_RE_addJoined_16 : decode c_RE_addJoined 16 = .ok (.iload 6, 2) := by decide +kernel
theorem d_RE_addJoined_18 : decode c_RE_addJoined 18 = .ok (.bipush 64, 2) := by decide +kernel
theorem d_RE_addJoined_20 : decode c_RE_addJoined 20 = .ok (.if_icmp .ge 38, 3) := by decide +kernel
theorem d_RE_addJoined_23 : decode c_RE_addJoined 23 = .ok (.lload 4, 2) := by decide +kernel
theorem d_RE_addJoined_25 : decode c_RE_addJoined 25 = .ok (.lconst 0, 1) := by decide +kernel
theorem d_RE_addJoined_26 : decode c_RE_addJoined 26 = .ok (.lcmp, 1) := by decide +kernel
theorem d_RE_addJoined_27 : decode c_RE_addJoined 27 = .ok (.ifCond .eq 31, 3) := by decide +kernel
theorem d_RE_addJoined_30 : decode c_RE_addJoined 30 = .ok (.aload_n 0, 1) := by decide +kernel
theorem d_RE_addJoined_31 : decode c_RE_addJoined 31 = .ok (.iload_n 3, 1) := by decide +kernel
theorem d_RE_addJoined_32 : decode c_RE_addJoined 32 = .ok (.dup2, 1) := by decide +kernel
theorem d_RE_addJoined_33 : decode c_RE_addJoined 33 = .ok (.laload, 1) := by decide +kernel
theorem d_RE_addJoined_34 : decode c_RE_addJoined 34 = .ok (.aload_n 2, 1) := by decide +kernel
theorem d_RE_addJoined_35 : decode c_RE_addJoined 35 = .ok (.lload 4, 2) := by decide +kernel
theorem d_RE_addJoined_37 : decode c_RE_addJoined 37 = .ok (.invokestatic 92, 3) := by decide +kernel
theorem d_RE_addJoined_40 : decode c_RE_addJoined 40 = .ok (.laload, 1) := by decide +kernel
theorem d_RE_addJoined_41 : decode c_RE_addJoined 41 = .ok (.lor, 1) := by decide +kernel
theorem d_RE_addJoined_42 : decode c_RE_addJoined 42 = .ok (.lastore, 1) := by decide +kernel
theorem d_RE_addJoined_43 : decode c_RE_addJoined 43 = .ok (.lload 4, 2) := by decide +kernel
theorem d_RE_addJoined_45 : decode c_RE_addJoined 45 = .ok (.lload 4, 2) := by decide +kernel
theorem d_RE_addJoined_47 : decode c_RE_addJoined 47 = .ok (.lconst 1, 1) := by decide +kernel
theorem d_RE_addJoined_48 : decode c_RE_addJoined 48 = .ok (.lsub, 1) := by decide +kernel
theorem d_RE_addJoined_49 : decode c_RE_addJoined 49 = .ok (.land, 1) := by decide +kernel
theorem d_RE_addJoined_50 : decode c_RE_addJoined 50 = .ok (.lstore 4, 2) := by decide +kernel
theorem d_RE_addJoined_52 : decode c_RE_addJoined 52 = .ok (.iinc 6 1, 3) := by decide +kernel
theorem d_RE_addJoined_55 : decode c_RE_addJoined 55 = .ok (.goto (-39), 3) := by decide +kernel
theorem d_RE_addJoined_58 : decode c_RE_addJoined 58 = .ok (.iinc 3 1, 3) := by decide +kernel
theorem d_RE_addJoined_61 : decode c_RE_addJoined 61 = .ok (.goto (-59), 3) := by decide +kernel
theorem d_RE_addJoined_64 : decode c_RE_addJoined 64 = .ok (.return_, 1) := by decide +kernel
theorem d_RE_addStaying_0 : decode c_RE_addStaying 0 = .ok (.iconst 0, 1) := by decide +kernel
theorem d_RE_addStaying_1 : decode c_RE_addStaying 1 = .ok (.istore_n 1, 1) := by decide +kernel
theorem d_RE_addStaying_2 : decode c_RE_addStaying 2 = .ok (.iload_n 1, 1) := by decide +kernel
theorem d_RE_addStaying_3 : decode c_RE_addStaying 3 = .ok (.bipush 64, 2) := by decide +kernel
theorem d_RE_addStaying_5 : decode c_RE_addStaying 5 = .ok (.if_icmp .ge 19, 3) := by decide +kernel
theorem d_RE_addStaying_8 : decode c_RE_addStaying 8 = .ok (.aload_n 0, 1) := by decide +kernel
theorem d_RE_addStaying_9 : decode c_RE_addStaying 9 = .ok (.iload_n 1, 1) := by decide +kernel
theorem d_RE_addStaying_10 : decode c_RE_addStaying 10 = .ok (.dup2, 1) := by decide +kernel
theorem d_RE_addStaying_11 : decode c_RE_addStaying 11 = .ok (.laload, 1) := by decide +kernel
theorem d_RE_addStaying_12 : decode c_RE_addStaying 12 = .ok (.iload_n 1, 1) := by decide +kernel
theorem d_RE_addStaying_13 : decode c_RE_addStaying 13 = .ok (.invokestatic 88, 3) := by decide +kernel
theorem d_RE_addStaying_16 : decode c_RE_addStaying 16 = .ok (.lor, 1) := by decide +kernel
theorem d_RE_addStaying_17 : decode c_RE_addStaying 17 = .ok (.lastore, 1) := by decide +kernel
theorem d_RE_addStaying_18 : decode c_RE_addStaying 18 = .ok (.iinc 1 1, 3) := by decide +kernel
theorem d_RE_addStaying_21 : decode c_RE_addStaying 21 = .ok (.goto (-19), 3) := by decide +kernel
theorem d_RE_addStaying_24 : decode c_RE_addStaying 24 = .ok (.return_, 1) := by decide +kernel
theorem d_RE_close_0 : decode c_RE_close 0 = .ok (.iconst 0, 1) := by decide +kernel
theorem d_RE_close_1 : decode c_RE_close 1 = .ok (.istore_n 1, 1) := by decide +kernel
theorem d_RE_close_2 : decode c_RE_close 2 = .ok (.iload_n 1, 1) := by decide +kernel
theorem d_RE_close_3 : decode c_RE_close 3 = .ok (.bipush 64, 2) := by decide +kernel
theorem d_RE_close_5 : decode c_RE_close 5 = .ok (.if_icmp .ge 42, 3) := by decide +kernel
theorem d_RE_close_8 : decode c_RE_close 8 = .ok (.iconst 0, 1) := by decide +kernel
theorem d_RE_close_9 : decode c_RE_close 9 = .ok (.istore_n 2, 1) := by decide +kernel
theorem d_RE_close_10 : decode c_RE_close 10 = .ok (.iload_n 2, 1) := by decide +kernel
theorem d_RE_close_11 : decode c_RE_close 11 = .ok (.bipush 64, 2) := by decide +kernel
theorem d_RE_close_13 : decode c_RE_close 13 = .ok (.if_icmp .ge 28, 3) := by decide +kernel
theorem d_RE_close_16 : decode c_RE_close 16 = .ok (.aload_n 0, 1) := by decide +kernel
theorem d_RE_close_17 : decode c_RE_close 17 = .ok (.iload_n 2, 1) := by decide +kernel
theorem d_RE_close_18 : decode c_RE_close 18 = .ok (.laload, 1) := by decide +kernel
theorem d_RE_close_19 : decode c_RE_close 19 = .ok (.iload_n 1, 1) := by decide +kernel
theorem d_RE_close_20 : decode c_RE_close 20 = .ok (.invokestatic 79, 3) := by decide +kernel
theorem d_RE_close_23 : decode c_RE_close 23 = .ok (.ifCond .eq 12, 3) := by decide +kernel
theorem d_RE_close_26 : decode c_RE_close 26 = .ok (.aload_n 0, 1) := by decide +kernel
theorem d_RE_close_27 : decode c_RE_close 27 = .ok (.iload_n 2, 1) := by decide +kernel
theorem d_RE_close_28 : decode c_RE_close 28 = .ok (.dup2, 1) := by decide +kernel
theorem d_RE_close_29 : decode c_RE_close 29 = .ok (.laload, 1) := by decide +kernel
theorem d_RE_close_30 : decode c_RE_close 30 = .ok (.aload_n 0, 1) := by decide +kernel
theorem d_RE_close_31 : decode c_RE_close 31 = .ok (.iload_n 1, 1) := by decide +kernel
theorem d_RE_close_32 : decode c_RE_close 32 = .ok (.laload, 1) := by decide +kernel
theorem d_RE_close_33 : decode c_RE_close 33 = .ok (.lor, 1) := by decide +kernel
theorem d_RE_close_34 : decode c_RE_close 34 = .ok (.lastore, 1) := by decide +kernel
theorem d_RE_close_35 : decode c_RE_close 35 = .ok (.iinc 2 1, 3) := by decide +kernel
theorem d_RE_close_38 : decode c_RE_close 38 = .ok (.goto (-28), 3) := by decide +kernel
theorem d_RE_close_41 : decode c_RE_close 41 = .ok (.iinc 1 1, 3) := by decide +kernel
theorem d_RE_close_44 : decode c_RE_close 44 = .ok (.goto (-42), 3) := by decide +kernel
theorem d_RE_close_47 : decode c_RE_close 47 = .ok (.return_, 1) := by decide +kernel
end
section
/-! THE LAYER. A world is a function from keys (g, i) to cells; a layout X says where a key lies. MW: the machine at pc, with locals lv, stack st and world w, comes to Q, whatever the heap is that holds w. -/
abbrev Wd : Type := Nat → Nat → va_E
abbrev Lay : Type := va_G × (Nat → ClassId) × (Nat → Nat → Nat) × Nat × (Nat → Nat → Prop)
def pw_D (X : Lay) : va_G := X.1
def pw_c (X : Lay) : Nat → ClassId := X.2.1
def pw_a (X : Lay) : Nat → Nat → Nat := X.2.2.1
def pw_z (X : Lay) : Nat := X.2.2.2.1
def pw_d (X : Lay) : Nat → Nat → Prop := X.2.2.2.2
def pw_tys (X : Lay) : List (ClassId × FieldType) := [(pw_c X 0, .int), (pw_c X 1, .long), (pw_c X 2, .array .long), (pw_c X 3, .boolean)]
/-- cells: an int array, a long array, an array of rows, an object -/
abbrev aI (X : Lay) (n : Nat) (f : Nat → Int32) : va_E := .inl (pw_c X 0, n, .inl f)
abbrev aL (X : Lay) (n : Nat) (f : Nat → Int64) : va_E := .inl (pw_c X 1, n, .inr (.inl f))
abbrev aQ (X : Lay) (n : Nat) (f : Nat → Option Nat) : va_E := .inl (pw_c X 2, n, .inr (.inr (.inr (.inr f))))
abbrev aZ (X : Lay) (n : Nat) (f : Nat → Int32) : va_E := .inl (pw_c X 3, n, .inl f)
abbrev oB (ci : Nat) (fs : List Value) : va_E := .inr (ci, fs)
def pw_H (X : Lay) (w : Wd) (H : Heap) : Prop := ∀ g i, pw_d X g i → va_at (pw_D X) vwCl (pw_a X g i, w g i) H
def pw_I (X : Lay) : Prop := (∀ g i g' i', pw_d X g i → pw_d X g' i' → pw_a X g i = pw_a X g' i' → g = g' ∧ i = i') ∧ ∀ g i, pw_d X g i → pw_z X ≤ pw_a X g i
def pw_up (w : Wd) (g i : Nat) (e : va_E) : Wd := fun g' i' => if g' = g ∧ i' = i then e else w g' i'
theorem pw_up_self (w : Wd) (g i : Nat) (e : va_E) : pw_up w g i e g i = e := by simp [pw_up]
theorem pw_up_ne (w : Wd) {g i g' i' : Nat} (e : va_E) (h : ¬ (g' = g ∧ i' = i)) : pw_up w g i e g' i' = w g' i' := by simp only [pw_up, if_neg h]
theorem pw_up_g (w : Wd) {g i g' i' : Nat} (e : va_E) (h : g' ≠ g) : pw_up w g i e g' i' = w g' i' := pw_up_ne w e (fun q => h q.1)
theorem pw_up_i (w : Wd) {g i i' : Nat} (e : va_E) (h : i' ≠ i) : pw_up w g i e g i' = w g i' := pw_up_ne w e (fun q => h q.2)
theorem pw_up_up (w : Wd) (g i : Nat) (e e' : va_E) : pw_up (pw_up w g i e) g i e' = pw_up w g i e' := by
  funext g' i'
  by_cases h : g' = g ∧ i' = i
  · simp only [pw_up, if_pos h]
  · simp only [pw_up, if_neg h]
theorem pw_up_id (w : Wd) {g i : Nat} {e : va_E} (h : w g i = e) : pw_up w g i e = w := by
  funext g' i'
  by_cases hq : g' = g ∧ i' = i
  · obtain ⟨rfl, rfl⟩ := hq
    rw [pw_up_self, h]
  · rw [pw_up_ne w e hq]
theorem pw_H.set {X : Lay} {w : Wd} {H H1 : Heap} {g i : Nat} {e : va_E} (hI : pw_I X) (h : pw_H X w H) (hd : pw_d X g i) (he : va_at (pw_D X) vwCl (pw_a X g i, e) H1) (oq : ∀ q : Nat, q ≠ pw_a X g i → H1[q]? = H[q]?) : pw_H X (pw_up w g i e) H1 := by
  intro g' i' hd'
  by_cases hq : g' = g ∧ i' = i
  · obtain ⟨rfl, rfl⟩ := hq
    rw [pw_up_self]
    exact he
  · rw [pw_up_ne w e hq]
    exact (h g' i' hd').kept (oq _ (fun z => hq (hI.1 _ _ _ _ hd' hd z)))
/-- the locals, by their numbers -/
def pw_L (ls : Array Slot) (nL : Nat) (lv : List (Option Value)) : Prop := ls.size = nL ∧ lv_wf ls ∧ ∀ (i : Nat) (v : Value), lv[i]? = some (some v) → ls[i]? = some (.val v)
def pw_al (lv : List (Option Value)) : List (Nat × Value) := (List.range lv.length).filterMap (fun k => match lv[k]? with | some (some v) => some (k, v) | _ => none)
theorem pw_al_mem {lv : List (Option Value)} {k : Nat} {u : Value} (h : lv[k]? = some (some u)) : (k, u) ∈ pw_al lv := by
  unfold pw_al
  rw [List.mem_filterMap]
  exact ⟨k, List.mem_range.mpr (List.getElem?_eq_some_iff.mp h).1, by rw [h]⟩
theorem pw_al_get {lv : List (Option Value)} {q : Nat × Value} (h : q ∈ pw_al lv) : lv[q.1]? = some (some q.2) := by
  unfold pw_al at h
  obtain ⟨k, -, hk⟩ := List.mem_filterMap.mp h
  split at hk
  · rename_i v hv
    cases hk
    exact hv
  · cases hk
theorem pw_L.has {ls : Array Slot} {nL : Nat} {lv : List (Option Value)} (h : pw_L ls nL lv) : lv_has ls nL (pw_al lv) := ⟨h.1, h.2.1, fun q hq => h.2.2 q.1 q.2 (pw_al_get hq)⟩
def pw_k1 (lv : List (Option Value)) (j : Nat) : List (Option Value) := match lv[j]? with
  | some (some (.long _)) => lv.set j none
  | some (some (.double _)) => lv.set j none
  | _ => lv
def pw_p1 (lv : List (Option Value)) (i : Nat) (v : Value) : List (Option Value) := match i with
  | 0 => lv.set 0 (some v)
  | j + 1 => (pw_k1 lv j).set (j + 1) (some v)
def pw_p2 (lv : List (Option Value)) (i : Nat) (v : Value) : List (Option Value) := (pw_p1 lv i v).set (i + 1) none
theorem pw_set_get {lv : List (Option Value)} {j k : Nat} {x : Option Value} {u : Value} (h : (lv.set j x)[k]? = some (some u)) : (k = j ∧ x = some u) ∨ (k ≠ j ∧ lv[k]? = some (some u)) := by
  by_cases hk : k = j
  · subst hk
    refine Or.inl ⟨rfl, ?_⟩
    rw [List.getElem?_set] at h
    split at h
    · split at h
      · exact Option.some.inj h
      · cases h
    · rename_i h2; exact absurd rfl h2
  · refine Or.inr ⟨hk, ?_⟩
    rw [List.getElem?_set_ne (Ne.symm hk)] at h
    exact h
theorem pw_k1_get {lv : List (Option Value)} {j k : Nat} {u : Value} (h : (pw_k1 lv j)[k]? = some (some u)) : lv[k]? = some (some u) ∧ (k = j → ¬ u.category = 2) := by
  unfold pw_k1 at h
  split at h
  · rcases pw_set_get h with ⟨-, h2⟩ | ⟨h1, h2⟩
    · cases h2
    · exact ⟨h2, fun q => absurd q h1⟩
  · rcases pw_set_get h with ⟨-, h2⟩ | ⟨h1, h2⟩
    · cases h2
    · exact ⟨h2, fun q => absurd q h1⟩
  · rename_i n1 n2
    refine ⟨h, fun q => ?_⟩
    subst q
    cases u with
    | long x => exact absurd h (n1 x)
    | double x => exact absurd h (n2 x)
    | _ => simp [Value.category]
theorem pw_p1_get {lv : List (Option Value)} {i k : Nat} {v u : Value} (h : (pw_p1 lv i v)[k]? = some (some u)) : (k = i ∧ u = v) ∨ (k ≠ i ∧ lv[k]? = some (some u) ∧ (k + 1 = i → ¬ u.category = 2)) := by
  cases i with
  | zero =>
    rcases pw_set_get h with ⟨h1, h2⟩ | ⟨h1, h2⟩
    · exact Or.inl ⟨h1, (Option.some.inj h2).symm⟩
    · exact Or.inr ⟨h1, h2, fun q => by omega⟩
  | succ j =>
    rcases pw_set_get h with ⟨h1, h2⟩ | ⟨h1, h2⟩
    · exact Or.inl ⟨h1, (Option.some.inj h2).symm⟩
    · obtain ⟨h3, h4⟩ := pw_k1_get h2
      exact Or.inr ⟨h1, h3, fun q => h4 (by omega)⟩
theorem pw_L.put1 {ls' : Array Slot} {nL i : Nat} {v : Value} {lv : List (Option Value)} (h : lv_has ls' nL ((i, v) :: (pw_al lv).filter (fun q => !(q.1 == i) && !(q.1 + 1 == i && q.2.category == 2)))) : pw_L ls' nL (pw_p1 lv i v) := by
  refine ⟨h.1, h.2.1, fun k u hk => h.2.2 (k, u) ?_⟩
  rcases pw_p1_get hk with ⟨rfl, rfl⟩ | ⟨h1, h2, h3⟩
  · exact List.mem_cons_self
  · refine List.mem_cons_of_mem _ (List.mem_filter.mpr ⟨pw_al_mem h2, ?_⟩)
    by_cases hq : k + 1 = i
    · simp [h1, h3 hq]
    · simp [h1, hq]
theorem pw_L.put2 {ls' : Array Slot} {nL i : Nat} {v : Value} {lv : List (Option Value)} (h : lv_has ls' nL ((i, v) :: (pw_al lv).filter (fun q => !(q.1 == i) && (!(q.1 == i + 1) && !(q.1 + 1 == i && q.2.category == 2))))) : pw_L ls' nL (pw_p2 lv i v) := by
  refine ⟨h.1, h.2.1, fun k u hk => h.2.2 (k, u) ?_⟩
  rcases pw_set_get hk with ⟨-, h9⟩ | ⟨h8, h9⟩
  · cases h9
  rcases pw_p1_get h9 with ⟨rfl, rfl⟩ | ⟨h1, h2, h3⟩
  · exact List.mem_cons_self
  · refine List.mem_cons_of_mem _ (List.mem_filter.mpr ⟨pw_al_mem h2, ?_⟩)
    by_cases hq : k + 1 = i
    · simp [h1, h8, h3 hq]
    · simp [h1, h8, hq]
def pw_so (x : Slot) : Option Value := match x with
  | .val v => some v
  | _ => none
def pw_ent (vs : List Value) (n : Nat) : List (Option Value) := (lg_sl vs ++ List.replicate (n - (lg_sl vs).length) Slot.unset).map pw_so
theorem pw_entry (vs : List Value) {n : Nat} (h : (lg_sl vs).length ≤ n) : pw_L ((lg_sl vs ++ List.replicate (n - (lg_sl vs).length) Slot.unset).toArray) n (pw_ent vs n) := by
  have h0 := lv_entry vs h
  refine ⟨h0.1, h0.2.1, fun i v hv => ?_⟩
  unfold pw_ent at hv
  rw [List.getElem?_map] at hv
  rw [List.getElem?_toArray]
  cases hx : (lg_sl vs ++ List.replicate (n - (lg_sl vs).length) Slot.unset)[i]? with
  | none => rw [hx] at hv; cases hv
  | some x =>
    rw [hx] at hv
    cases x with
    | val u => cases hv; rfl
    | unset => cases hv
    | second => cases hv
theorem pw_isN_on {w : Cond} (h : pw_isN w = true) : w.onTables = true := by
  cases w <;> first | rfl | cases h
theorem pw_isN_warm {w : Cond} (h : pw_isN w = true) {s U : State} (hW : s.WarmedH U.vm) (hZ : va_Nw w s) : va_Nw w U := by
  cases w <;> first | exact va_Nw.warmF hW hZ | exact va_Nw.warmM hW hZ | cases h
def pw_K (X : Lay) (U : State) : Prop := va_K (pw_D X) vwCl (pw_tys X) U ∧ ∀ w ∈ pw_nw, va_Nw w U
theorem pw_K.warm {X : Lay} {s U : State} (hW : s.WarmedH U.vm) (h : pw_K X s) : pw_K X U := ⟨va_K.moved hW.alike h.1, fun w hw => pw_isN_warm (pw_nw_ok w hw) hW (h.2 w hw)⟩
theorem pw_K.same {X : Lay} {s U : State} (hv : s.vm = U.vm) (h : pw_K X s) : pw_K X U := ⟨va_K.moved (by rw [hv]; exact Vm.Alike.refl U.vm) h.1, fun w hw => va_Nw.same (pw_isN_on (pw_nw_ok w hw)) hv (h.2 w hw)⟩
def MW (p : Program) (l : Launch) (e : Env) (R : Room) (s : State) (m : MethodId) (args : Array Value) (below : List Frame) (meth : Method) (c : Code) (X : Lay) (nL cells slots : Nat) (Q : State → Prop) (w : Wd) (pc : Nat) (lv : List (Option Value)) (st : List Value) : Prop :=
  ∀ (H : Heap) (locs : List Loc) (ls : Array Slot), pw_H X w H → va_S (fun q => pw_z X ≤ q) s.heap H locs → pw_L ls nL lv → W p l e R s m args below meth c H locs cells slots Q (F0 m pc ls st)
/-- what holds of the method's start, all through its walk -/
def Cx (p : Program) (s : State) (m : MethodId) (args : Array Value) (c : Code) (cc : ByteArray) (nL : Nat) (own : String) (X : Lay) : Prop :=
  CallFix p m c cc nL s args pw_all own ∧ pw_K X s ∧ pw_I X ∧ pw_z X ≤ s.heap.size
def pw_Pc (X : Lay) (w : Wd) (av : List Value) : Array Value → State → Prop := va_Pc av (fun U => pw_z X ≤ U.heap.size ∧ pw_H X w U.heap ∧ pw_K X U)
def pw_B (X : Lay) : Wd → State → Prop := fun w t => pw_H X w t.heap
def pw_F (X : Lay) : Nat → Prop := fun q => pw_z X ≤ q
theorem pw_Pc.blind {X : Lay} {w : Wd} {av : List Value} : FrameBlind (pw_Pc X w av) := fun a U g mk q => by
  obtain ⟨q0, q1, q2, q3⟩ := q
  exact ⟨q0, q1, q2, pw_K.same (s := U) (U := U.calling g mk a) rfl q3⟩
/-- contracts: a method that makes nothing; its answer an int (a boolean, too), a long, nothing, a cell -/
abbrev CtI (l : Launch) (y : MethodName) (ws : List Cond) (rm : Room) (X : Lay) (w : Wd) (av : List Value) (post : Int32 → Wd → Prop) : Prop := Met l y ws rm (pw_Pc X w av) (va_Qi post (pw_B X) (pw_F X)) 0 0 (pw_F X)
abbrev CtL (l : Launch) (y : MethodName) (ws : List Cond) (rm : Room) (X : Lay) (w : Wd) (av : List Value) (post : Int64 → Wd → Prop) : Prop := Met l y ws rm (pw_Pc X w av) (va_Ql post (pw_B X) (pw_F X)) 0 0 (pw_F X)
abbrev CtV (l : Launch) (y : MethodName) (ws : List Cond) (rm : Room) (X : Lay) (w : Wd) (av : List Value) (post : Wd → Prop) : Prop := Met l y ws rm (pw_Pc X w av) (va_Qv post (pw_B X) (pw_F X)) 0 0 (pw_F X)
abbrev CtR (l : Launch) (y : MethodName) (ws : List Cond) (rm : Room) (X : Lay) (w : Wd) (av : List Value) (g i : Nat) (post : Wd → Prop) : Prop := Met l y ws rm (pw_Pc X w av) (va_Qr post (fun w a t => a = pw_a X g i ∧ pw_H X w t.heap) (pw_F X)) 0 0 (pw_F X)
/-- the words of a method: its own code, and all words of the tables -/
def pw_ws (y : MethodName) (cc : ByteArray) (maxL : Nat) (ret : Option FieldType) : List Cond := Cond.code y cc maxL ret :: pw_all
theorem pw_gws {y : MethodName} {cc : ByteArray} {maxL : Nat} {ret : Option FieldType} (h : Cond.code y cc maxL ret ∈ pw_all) : GoodIn pw_all (pw_ws y cc maxL ret) := by
  intro w hw
  rcases List.mem_cons.mp hw with rfl | hw
  · exact ⟨h, (pw_good _ h).2⟩
  · exact ⟨hw, (pw_good _ hw).2⟩
/-- a contract from the walk of the body -/
theorem pw_open {l : Launch} {y : MethodName} {rm : Room} {X : Lay} {w : Wd} {av : List Value} {Qc : Array Value → State → Outcome → State → Prop} {mc ms : Nat} {cc : ByteArray} {maxL : Nat} {ret : Option FieldType}
    (hy : plainName y.cls = true) (hI : pw_I X) (lv : List (Option Value)) (hlv : pw_ent av maxL = lv) (hle : (lg_sl av).length ≤ maxL)
    (body : ∀ (p : Program) (e : Env) (s : State) (m : MethodId) (args : Array Value) (below : List Frame) (meth : Method) (c : Code), args = av.toArray → Cx p s m args c cc maxL y.cls X → meth.sig.returnType = ret → meth.locks = false → meth.name = y.name → MW p l e rm s m args below meth c X maxL 0 0 (MQ below Qc args s mc ms (pw_F X)) w 0 lv []) : Met l y (pw_ws y cc maxL ret) rm (pw_Pc X w av) Qc mc ms (pw_F X) := by
  refine Met.ofW (cc := cc) (maxL := maxL) (ret := ret) hy rfl ?_
  intro p e s m args below meth c s₁ B hml hv
  obtain ⟨rfl, hz, hH, hK⟩ := hv
  have hb := body p e s m av.toArray below meth c rfl ⟨⟨B.exec, B.bytes, hml, findClass_of_methodNamed B.named, fun w hw => atoms_spec (ws := pw_ws y cc maxL ret) B.pre w (List.mem_cons_of_mem _ hw)⟩, hK, hI, hz⟩ B.returns B.notSynchronized (name_of_methodNamed B.named B.method).1
  rw [lg_entry_eq]
  exact hb s.heap [] _ hH va_S.rf (by rw [← hlv]; exact pw_entry av hle)
section PW
variable {p : Program} {l : Launch} {e : Env} {R : Room} {s : State} {m : MethodId} {args : Array Value} {below : List Frame} {meth : Method} {c : Code} {X : Lay} {cc : ByteArray} {nL cells slots : Nat} {Q : State → Prop} {own : String} {w : Wd} {pc : Nat} {lv : List (Option Value)} {st : List Value}
theorem MW.lveq {lv' : List (Option Value)} (h : lv = lv') (k : MW p l e R s m args below meth c X nL cells slots Q w pc lv' st) : MW p l e R s m args below meth c X nL cells slots Q w pc lv st := h ▸ k
/-- fewer locals are known -/
theorem MW.less {lv' : List (Option Value)} (h : ∀ (i : Nat) (v : Value), lv'[i]? = some (some v) → lv[i]? = some (some v)) (k : MW p l e R s m args below meth c X nL cells slots Q w pc lv' st) : MW p l e R s m args below meth c X nL cells slots Q w pc lv st := fun H locs ls h1 h2 h3 => k H locs ls h1 h2 ⟨h3.1, h3.2.1, fun i v hv => h3.2.2 i v (h i v hv)⟩
theorem MW.world {w' : Wd} (h : w = w') (k : MW p l e R s m args below meth c X nL cells slots Q w' pc lv st) : MW p l e R s m args below meth c X nL cells slots Q w pc lv st := h ▸ k
theorem pw_iconst (C : Cx p s m args c cc nL own X) {n : Int} (hdg : decode cc pc = .ok (.iconst n, 1)) {v : Int32} (hv : Int32.ofInt n = v) (k : MW p l e R s m args below meth c X nL cells slots Q w (pc + 1) lv (.int v :: st)) : MW p l e R s m args below meth c X nL cells slots Q w pc lv st := fun H locs ls h1 h2 h3 => lv_iconst C.1.1 C.1.2.1 hdg hv (k H locs ls h1 h2 h3)
theorem pw_bipush (C : Cx p s m args c cc nL own X) {n : Int} (hdg : decode cc pc = .ok (.bipush n, 2)) {v : Int32} (hv : (Int8.ofInt n).toInt32 = v) (k : MW p l e R s m args below meth c X nL cells slots Q w (pc + 2) lv (.int v :: st)) : MW p l e R s m args below meth c X nL cells slots Q w pc lv st := fun H locs ls h1 h2 h3 => lv_bipush C.1.1 C.1.2.1 hdg hv (k H locs ls h1 h2 h3)
theorem pw_sipush (C : Cx p s m args c cc nL own X) {n : Int} (hdg : decode cc pc = .ok (.sipush n, 3)) {v : Int32} (hv : (Int16.ofInt n).toInt32 = v) (k : MW p l e R s m args below meth c X nL cells slots Q w (pc + 3) lv (.int v :: st)) : MW p l e R s m args below meth c X nL cells slots Q w pc lv st := fun H locs ls h1 h2 h3 => lv_sipush C.1.1 C.1.2.1 hdg hv (k H locs ls h1 h2 h3)
theorem pw_lconst (C : Cx p s m args c cc nL own X) {n : Fin 2} (hdg : decode cc pc = .ok (.lconst n, 1)) {v : Int64} (hv : Int64.ofNat (n : Nat) = v) (k : MW p l e R s m args below meth c X nL cells slots Q w (pc + 1) lv (.long v :: st)) : MW p l e R s m args below meth c X nL cells slots Q w pc lv st := fun H locs ls h1 h2 h3 => lv_lconst C.1.1 C.1.2.1 hdg hv (k H locs ls h1 h2 h3)
theorem pw_ldc (C : Cx p s m args c cc nL own X) {index : Nat} (hdg : decode cc pc = .ok (.ldc index, 2)) {v : Int32} (hc : Cond.constant own index v ∈ pw_all) (k : MW p l e R s m args below meth c X nL cells slots Q w (pc + 2) lv (.int v :: st)) : MW p l e R s m args below meth c X nL cells slots Q w pc lv st := fun H locs ls h1 h2 h3 => lv_ldc C.1.1 C.1.2.1 C.1.2.2.2.1 (C.1.2.2.2.2 _ hc) hdg (k H locs ls h1 h2 h3)
theorem pw_ldc_w (C : Cx p s m args c cc nL own X) {index : Nat} (hdg : decode cc pc = .ok (.ldc_w index, 3)) {v : Int32} (hc : Cond.constant own index v ∈ pw_all) (k : MW p l e R s m args below meth c X nL cells slots Q w (pc + 3) lv (.int v :: st)) : MW p l e R s m args below meth c X nL cells slots Q w pc lv st := fun H locs ls h1 h2 h3 => lv_ldcw C.1.1 C.1.2.1 C.1.2.2.2.1 (C.1.2.2.2.2 _ hc) hdg (k H locs ls h1 h2 h3)
theorem pw_ldc2_w (C : Cx p s m args c cc nL own X) {index : Nat} (hdg : decode cc pc = .ok (.ldc2_w index, 3)) {v : Int64} (hc : Cond.constantLong own index v ∈ pw_all) (k : MW p l e R s m args below meth c X nL cells slots Q w (pc + 3) lv (.long v :: st)) : MW p l e R s m args below meth c X nL cells slots Q w pc lv st := fun H locs ls h1 h2 h3 => lv_ldc2 C.1.1 C.1.2.1 C.1.2.2.2.1 (C.1.2.2.2.2 _ hc) hdg (k H locs ls h1 h2 h3)
theorem pw_iload_n (C : Cx p s m args c cc nL own X) {k0 : Fin 4} (hdg : decode cc pc = .ok (.iload_n k0, 1)) {x : Int32} (hv : lv[(k0 : Nat)]? = some (some (.int x))) (k : MW p l e R s m args below meth c X nL cells slots Q w (pc + 1) lv (.int x :: st)) : MW p l e R s m args below meth c X nL cells slots Q w pc lv st := fun H locs ls h1 h2 h3 => lv_iload_n C.1.1 C.1.2.1 hdg rfl (h3.2.2 _ _ hv) (k H locs ls h1 h2 h3)
theorem pw_iload (C : Cx p s m args c cc nL own X) {i : Nat} (hdg : decode cc pc = .ok (.iload i, 2)) {x : Int32} (hv : lv[i]? = some (some (.int x))) (k : MW p l e R s m args below meth c X nL cells slots Q w (pc + 2) lv (.int x :: st)) : MW p l e R s m args below meth c X nL cells slots Q w pc lv st := fun H locs ls h1 h2 h3 => lv_iload C.1.1 C.1.2.1 hdg (h3.2.2 _ _ hv) (k H locs ls h1 h2 h3)
theorem pw_istore_n (C : Cx p s m args c cc nL own X) {k0 : Fin 4} {x : Int32} (hdg : decode cc pc = .ok (.istore_n k0, 1)) (hn : (k0 : Nat) < nL) (k : MW p l e R s m args below meth c X nL cells slots Q w (pc + 1) (pw_p1 lv k0 (.int x)) st) : MW p l e R s m args below meth c X nL cells slots Q w pc lv (.int x :: st) := fun H locs ls h1 h2 h3 => lv_istore_n C.1.1 C.1.2.1 hdg rfl h3.has hn rfl (fun ls9 h9 => k H locs ls9 h1 h2 (pw_L.put1 h9))
theorem pw_istore (C : Cx p s m args c cc nL own X) {i : Nat} {x : Int32} (hdg : decode cc pc = .ok (.istore i, 2)) (hn : i < nL) (k : MW p l e R s m args below meth c X nL cells slots Q w (pc + 2) (pw_p1 lv i (.int x)) st) : MW p l e R s m args below meth c X nL cells slots Q w pc lv (.int x :: st) := fun H locs ls h1 h2 h3 => lv_istore C.1.1 C.1.2.1 hdg h3.has hn rfl (fun ls9 h9 => k H locs ls9 h1 h2 (pw_L.put1 h9))
theorem pw_lload_n (C : Cx p s m args c cc nL own X) {k0 : Fin 4} (hdg : decode cc pc = .ok (.lload_n k0, 1)) {x : Int64} (hv : lv[(k0 : Nat)]? = some (some (.long x))) (k : MW p l e R s m args below meth c X nL cells slots Q w (pc + 1) lv (.long x :: st)) : MW p l e R s m args below meth c X nL cells slots Q w pc lv st := fun H locs ls h1 h2 h3 => lv_lload_n C.1.1 C.1.2.1 hdg rfl (h3.2.2 _ _ hv) (k H locs ls h1 h2 h3)
theorem pw_lload (C : Cx p s m args c cc nL own X) {i : Nat} (hdg : decode cc pc = .ok (.lload i, 2)) {x : Int64} (hv : lv[i]? = some (some (.long x))) (k : MW p l e R s m args below meth c X nL cells slots Q w (pc + 2) lv (.long x :: st)) : MW p l e R s m args below meth c X nL cells slots Q w pc lv st := fun H locs ls h1 h2 h3 => lv_lload C.1.1 C.1.2.1 hdg (h3.2.2 _ _ hv) (k H locs ls h1 h2 h3)
theorem pw_lstore_n (C : Cx p s m args c cc nL own X) {k0 : Fin 4} {x : Int64} (hdg : decode cc pc = .ok (.lstore_n k0, 1)) (hn : (k0 : Nat) + 1 < nL) (k : MW p l e R s m args below meth c X nL cells slots Q w (pc + 1) (pw_p2 lv k0 (.long x)) st) : MW p l e R s m args below meth c X nL cells slots Q w pc lv (.long x :: st) := fun H locs ls h1 h2 h3 => lv_lstore_n C.1.1 C.1.2.1 hdg rfl h3.has hn rfl (fun ls9 h9 => k H locs ls9 h1 h2 (pw_L.put2 h9))
theorem pw_lstore (C : Cx p s m args c cc nL own X) {i : Nat} {x : Int64} (hdg : decode cc pc = .ok (.lstore i, 2)) (hn : i + 1 < nL) (k : MW p l e R s m args below meth c X nL cells slots Q w (pc + 2) (pw_p2 lv i (.long x)) st) : MW p l e R s m args below meth c X nL cells slots Q w pc lv (.long x :: st) := fun H locs ls h1 h2 h3 => lv_lstore C.1.1 C.1.2.1 hdg h3.has hn rfl (fun ls9 h9 => k H locs ls9 h1 h2 (pw_L.put2 h9))
theorem pw_aload_n (C : Cx p s m args c cc nL own X) {k0 : Fin 4} (hdg : decode cc pc = .ok (.aload_n k0, 1)) {x : Nat} (hv : lv[(k0 : Nat)]? = some (some (.ref x))) (k : MW p l e R s m args below meth c X nL cells slots Q w (pc + 1) lv (.ref x :: st)) : MW p l e R s m args below meth c X nL cells slots Q w pc lv st := fun H locs ls h1 h2 h3 => lv_aload_n C.1.1 C.1.2.1 hdg rfl (h3.2.2 _ _ hv) (k H locs ls h1 h2 h3)
theorem pw_aload (C : Cx p s m args c cc nL own X) {i : Nat} (hdg : decode cc pc = .ok (.aload i, 2)) {x : Nat} (hv : lv[i]? = some (some (.ref x))) (k : MW p l e R s m args below meth c X nL cells slots Q w (pc + 2) lv (.ref x :: st)) : MW p l e R s m args below meth c X nL cells slots Q w pc lv st := fun H locs ls h1 h2 h3 => lv_aload C.1.1 C.1.2.1 hdg (h3.2.2 _ _ hv) (k H locs ls h1 h2 h3)
theorem pw_astore_n (C : Cx p s m args c cc nL own X) {k0 : Fin 4} {x : Nat} (hdg : decode cc pc = .ok (.astore_n k0, 1)) (hn : (k0 : Nat) < nL) (k : MW p l e R s m args below meth c X nL cells slots Q w (pc + 1) (pw_p1 lv k0 (.ref x)) st) : MW p l e R s m args below meth c X nL cells slots Q w pc lv (.ref x :: st) := fun H locs ls h1 h2 h3 => lv_astore_n C.1.1 C.1.2.1 hdg rfl h3.has hn rfl (fun ls9 h9 => k H locs ls9 h1 h2 (pw_L.put1 h9))
theorem pw_astore (C : Cx p s m args c cc nL own X) {i : Nat} {x : Nat} (hdg : decode cc pc = .ok (.astore i, 2)) (hn : i < nL) (k : MW p l e R s m args below meth c X nL cells slots Q w (pc + 2) (pw_p1 lv i (.ref x)) st) : MW p l e R s m args below meth c X nL cells slots Q w pc lv (.ref x :: st) := fun H locs ls h1 h2 h3 => lv_astore C.1.1 C.1.2.1 hdg h3.has hn rfl (fun ls9 h9 => k H locs ls9 h1 h2 (pw_L.put1 h9))
theorem pw_iinc (C : Cx p s m args c cc nL own X) {i : Nat} {n : Int} {x : Int32} (hdg : decode cc pc = .ok (.iinc i n, 3)) (hv : lv[i]? = some (some (.int x))) (hn : i < nL) (k : MW p l e R s m args below meth c X nL cells slots Q w (pc + 3) (pw_p1 lv i (.int (x + Int32.ofInt n))) st) : MW p l e R s m args below meth c X nL cells slots Q w pc lv st := fun H locs ls h1 h2 h3 => by
  obtain ⟨k0, hk0⟩ := List.getElem?_of_mem (pw_al_mem hv)
  exact lv_iinc C.1.1 C.1.2.1 hdg h3.has hk0 rfl hn rfl (fun ls9 h9 => k H locs ls9 h1 h2 (pw_L.put1 h9))
theorem pw_iadd (C : Cx p s m args c cc nL own X) {x y : Int32} (hdg : decode cc pc = .ok (.iadd, 1)) (k : MW p l e R s m args below meth c X nL cells slots Q w (pc + 1) lv (.int (x + y) :: st)) : MW p l e R s m args below meth c X nL cells slots Q w pc lv (.int y :: .int x :: st) := fun H locs ls h1 h2 h3 => lv_iadd C.1.1 C.1.2.1 hdg (k H locs ls h1 h2 h3)
theorem pw_isub (C : Cx p s m args c cc nL own X) {x y : Int32} (hdg : decode cc pc = .ok (.isub, 1)) (k : MW p l e R s m args below meth c X nL cells slots Q w (pc + 1) lv (.int (x - y) :: st)) : MW p l e R s m args below meth c X nL cells slots Q w pc lv (.int y :: .int x :: st) := fun H locs ls h1 h2 h3 => lv_isub C.1.1 C.1.2.1 hdg (k H locs ls h1 h2 h3)
theorem pw_imul (C : Cx p s m args c cc nL own X) {x y : Int32} (hdg : decode cc pc = .ok (.imul, 1)) (k : MW p l e R s m args below meth c X nL cells slots Q w (pc + 1) lv (.int (x * y) :: st)) : MW p l e R s m args below meth c X nL cells slots Q w pc lv (.int y :: .int x :: st) := fun H locs ls h1 h2 h3 => lv_imul C.1.1 C.1.2.1 hdg (k H locs ls h1 h2 h3)
theorem pw_iand (C : Cx p s m args c cc nL own X) {x y : Int32} (hdg : decode cc pc = .ok (.iand, 1)) (k : MW p l e R s m args below meth c X nL cells slots Q w (pc + 1) lv (.int (x &&& y) :: st)) : MW p l e R s m args below meth c X nL cells slots Q w pc lv (.int y :: .int x :: st) := fun H locs ls h1 h2 h3 => lv_iand C.1.1 C.1.2.1 hdg (k H locs ls h1 h2 h3)
theorem pw_ior (C : Cx p s m args c cc nL own X) {x y : Int32} (hdg : decode cc pc = .ok (.ior, 1)) (k : MW p l e R s m args below meth c X nL cells slots Q w (pc + 1) lv (.int (x ||| y) :: st)) : MW p l e R s m args below meth c X nL cells slots Q w pc lv (.int y :: .int x :: st) := fun H locs ls h1 h2 h3 => lv_ior C.1.1 C.1.2.1 hdg (k H locs ls h1 h2 h3)
theorem pw_ixor (C : Cx p s m args c cc nL own X) {x y : Int32} (hdg : decode cc pc = .ok (.ixor, 1)) (k : MW p l e R s m args below meth c X nL cells slots Q w (pc + 1) lv (.int (x ^^^ y) :: st)) : MW p l e R s m args below meth c X nL cells slots Q w pc lv (.int y :: .int x :: st) := fun H locs ls h1 h2 h3 => lv_ixor C.1.1 C.1.2.1 hdg (k H locs ls h1 h2 h3)
theorem pw_ishl (C : Cx p s m args c cc nL own X) {x y : Int32} (hdg : decode cc pc = .ok (.ishl, 1)) (k : MW p l e R s m args below meth c X nL cells slots Q w (pc + 1) lv (.int (x <<< (y &&& 31)) :: st)) : MW p l e R s m args below meth c X nL cells slots Q w pc lv (.int y :: .int x :: st) := fun H locs ls h1 h2 h3 => lv_ishl C.1.1 C.1.2.1 hdg (k H locs ls h1 h2 h3)
theorem pw_ishr (C : Cx p s m args c cc nL own X) {x y : Int32} (hdg : decode cc pc = .ok (.ishr, 1)) (k : MW p l e R s m args below meth c X nL cells slots Q w (pc + 1) lv (.int (x >>> (y &&& 31)) :: st)) : MW p l e R s m args below meth c X nL cells slots Q w pc lv (.int y :: .int x :: st) := fun H locs ls h1 h2 h3 => lv_ishr C.1.1 C.1.2.1 hdg (k H locs ls h1 h2 h3)
theorem pw_iushr (C : Cx p s m args c cc nL own X) {x y : Int32} (hdg : decode cc pc = .ok (.iushr, 1)) (k : MW p l e R s m args below meth c X nL cells slots Q w (pc + 1) lv (.int (x.toUInt32 >>> (y.toUInt32 &&& Int32.toUInt32 31)).toInt32 :: st)) : MW p l e R s m args below meth c X nL cells slots Q w pc lv (.int y :: .int x :: st) := fun H locs ls h1 h2 h3 => lv_iushr C.1.1 C.1.2.1 hdg rfl (k H locs ls h1 h2 h3)
theorem pw_ineg (C : Cx p s m args c cc nL own X) {x : Int32} (hdg : decode cc pc = .ok (.ineg, 1)) (k : MW p l e R s m args below meth c X nL cells slots Q w (pc + 1) lv (.int (-x) :: st)) : MW p l e R s m args below meth c X nL cells slots Q w pc lv (.int x :: st) := fun H locs ls h1 h2 h3 => lv_ineg C.1.1 C.1.2.1 hdg (k H locs ls h1 h2 h3)
theorem pw_idiv (C : Cx p s m args c cc nL own X) {x y : Int32} (hdg : decode cc pc = .ok (.idiv, 1)) (hne : ¬ y = 0) (k : MW p l e R s m args below meth c X nL cells slots Q w (pc + 1) lv (.int (x / y) :: st)) : MW p l e R s m args below meth c X nL cells slots Q w pc lv (.int y :: .int x :: st) := fun H locs ls h1 h2 h3 => lv_idiv C.1.1 C.1.2.1 hdg hne (k H locs ls h1 h2 h3)
theorem pw_irem (C : Cx p s m args c cc nL own X) {x y : Int32} (hdg : decode cc pc = .ok (.irem, 1)) (hne : ¬ y = 0) (k : MW p l e R s m args below meth c X nL cells slots Q w (pc + 1) lv (.int (x - x / y * y) :: st)) : MW p l e R s m args below meth c X nL cells slots Q w pc lv (.int y :: .int x :: st) := fun H locs ls h1 h2 h3 => lv_irem C.1.1 C.1.2.1 hdg hne (k H locs ls h1 h2 h3)
theorem pw_ladd (C : Cx p s m args c cc nL own X) {x y : Int64} (hdg : decode cc pc = .ok (.ladd, 1)) (k : MW p l e R s m args below meth c X nL cells slots Q w (pc + 1) lv (.long (x + y) :: st)) : MW p l e R s m args below meth c X nL cells slots Q w pc lv (.long y :: .long x :: st) := fun H locs ls h1 h2 h3 => lv_ladd C.1.1 C.1.2.1 hdg (k H locs ls h1 h2 h3)
theorem pw_lsub (C : Cx p s m args c cc nL own X) {x y : Int64} (hdg : decode cc pc = .ok (.lsub, 1)) (k : MW p l e R s m args below meth c X nL cells slots Q w (pc + 1) lv (.long (x - y) :: st)) : MW p l e R s m args below meth c X nL cells slots Q w pc lv (.long y :: .long x :: st) := fun H locs ls h1 h2 h3 => lv_lsub C.1.1 C.1.2.1 hdg (k H locs ls h1 h2 h3)
theorem pw_lmul (C : Cx p s m args c cc nL own X) {x y : Int64} (hdg : decode cc pc = .ok (.lmul, 1)) (k : MW p l e R s m args below meth c X nL cells slots Q w (pc + 1) lv (.long (x * y) :: st)) : MW p l e R s m args below meth c X nL cells slots Q w pc lv (.long y :: .long x :: st) := fun H locs ls h1 h2 h3 => lv_lmul C.1.1 C.1.2.1 hdg (k H locs ls h1 h2 h3)
theorem pw_land (C : Cx p s m args c cc nL own X) {x y : Int64} (hdg : decode cc pc = .ok (.land, 1)) (k : MW p l e R s m args below meth c X nL cells slots Q w (pc + 1) lv (.long (x &&& y) :: st)) : MW p l e R s m args below meth c X nL cells slots Q w pc lv (.long y :: .long x :: st) := fun H locs ls h1 h2 h3 => lv_land C.1.1 C.1.2.1 hdg (k H locs ls h1 h2 h3)
theorem pw_lor (C : Cx p s m args c cc nL own X) {x y : Int64} (hdg : decode cc pc = .ok (.lor, 1)) (k : MW p l e R s m args below meth c X nL cells slots Q w (pc + 1) lv (.long (x ||| y) :: st)) : MW p l e R s m args below meth c X nL cells slots Q w pc lv (.long y :: .long x :: st) := fun H locs ls h1 h2 h3 => lv_lor C.1.1 C.1.2.1 hdg (k H locs ls h1 h2 h3)
theorem pw_lxor (C : Cx p s m args c cc nL own X) {x y : Int64} (hdg : decode cc pc = .ok (.lxor, 1)) (k : MW p l e R s m args below meth c X nL cells slots Q w (pc + 1) lv (.long (x ^^^ y) :: st)) : MW p l e R s m args below meth c X nL cells slots Q w pc lv (.long y :: .long x :: st) := fun H locs ls h1 h2 h3 => lv_lxor C.1.1 C.1.2.1 hdg (k H locs ls h1 h2 h3)
theorem pw_ldiv (C : Cx p s m args c cc nL own X) {x y : Int64} (hdg : decode cc pc = .ok (.ldiv, 1)) (hne : ¬ y = 0) (k : MW p l e R s m args below meth c X nL cells slots Q w (pc + 1) lv (.long (x / y) :: st)) : MW p l e R s m args below meth c X nL cells slots Q w pc lv (.long y :: .long x :: st) := fun H locs ls h1 h2 h3 => lv_ldiv C.1.1 C.1.2.1 hdg hne (k H locs ls h1 h2 h3)
theorem pw_lrem (C : Cx p s m args c cc nL own X) {x y : Int64} (hdg : decode cc pc = .ok (.lrem, 1)) (hne : ¬ y = 0) (k : MW p l e R s m args below meth c X nL cells slots Q w (pc + 1) lv (.long (x - x / y * y) :: st)) : MW p l e R s m args below meth c X nL cells slots Q w pc lv (.long y :: .long x :: st) := fun H locs ls h1 h2 h3 => lv_lrem C.1.1 C.1.2.1 hdg hne (k H locs ls h1 h2 h3)
theorem pw_lneg (C : Cx p s m args c cc nL own X) {x : Int64} (hdg : decode cc pc = .ok (.lneg, 1)) (k : MW p l e R s m args below meth c X nL cells slots Q w (pc + 1) lv (.long (-x) :: st)) : MW p l e R s m args below meth c X nL cells slots Q w pc lv (.long x :: st) := fun H locs ls h1 h2 h3 => lv_lneg C.1.1 C.1.2.1 hdg (k H locs ls h1 h2 h3)
theorem pw_lshl (C : Cx p s m args c cc nL own X) {x : Int64} {y : Int32} (hdg : decode cc pc = .ok (.lshl, 1)) (k : MW p l e R s m args below meth c X nL cells slots Q w (pc + 1) lv (.long (x <<< (y.toInt64 &&& 63)) :: st)) : MW p l e R s m args below meth c X nL cells slots Q w pc lv (.int y :: .long x :: st) := fun H locs ls h1 h2 h3 => lv_lshl C.1.1 C.1.2.1 hdg rfl (k H locs ls h1 h2 h3)
theorem pw_lshr (C : Cx p s m args c cc nL own X) {x : Int64} {y : Int32} (hdg : decode cc pc = .ok (.lshr, 1)) (k : MW p l e R s m args below meth c X nL cells slots Q w (pc + 1) lv (.long (x >>> (y.toInt64 &&& 63)) :: st)) : MW p l e R s m args below meth c X nL cells slots Q w pc lv (.int y :: .long x :: st) := fun H locs ls h1 h2 h3 => lv_lshr C.1.1 C.1.2.1 hdg rfl (k H locs ls h1 h2 h3)
theorem pw_lushr (C : Cx p s m args c cc nL own X) {x : Int64} {y : Int32} (hdg : decode cc pc = .ok (.lushr, 1)) (k : MW p l e R s m args below meth c X nL cells slots Q w (pc + 1) lv (.long (x.toUInt64 >>> (y.toInt64.toUInt64 &&& Int64.toUInt64 63)).toInt64 :: st)) : MW p l e R s m args below meth c X nL cells slots Q w pc lv (.int y :: .long x :: st) := fun H locs ls h1 h2 h3 => lv_lushr C.1.1 C.1.2.1 hdg rfl (k H locs ls h1 h2 h3)
theorem pw_i2l (C : Cx p s m args c cc nL own X) {x : Int32} (hdg : decode cc pc = .ok (.i2l, 1)) (k : MW p l e R s m args below meth c X nL cells slots Q w (pc + 1) lv (.long x.toInt64 :: st)) : MW p l e R s m args below meth c X nL cells slots Q w pc lv (.int x :: st) := fun H locs ls h1 h2 h3 => lv_i2l C.1.1 C.1.2.1 hdg rfl (k H locs ls h1 h2 h3)
theorem pw_l2i (C : Cx p s m args c cc nL own X) {x : Int64} (hdg : decode cc pc = .ok (.l2i, 1)) (k : MW p l e R s m args below meth c X nL cells slots Q w (pc + 1) lv (.int x.toInt32 :: st)) : MW p l e R s m args below meth c X nL cells slots Q w pc lv (.long x :: st) := fun H locs ls h1 h2 h3 => lv_l2i C.1.1 C.1.2.1 hdg rfl (k H locs ls h1 h2 h3)
theorem pw_lcmp (C : Cx p s m args c cc nL own X) {x y : Int64} (hdg : decode cc pc = .ok (.lcmp, 1)) (k : MW p l e R s m args below meth c X nL cells slots Q w (pc + 1) lv (.int (lg_cmp x y) :: st)) : MW p l e R s m args below meth c X nL cells slots Q w pc lv (.long y :: .long x :: st) := fun H locs ls h1 h2 h3 => W.lcmp C.1.1 C.1.2.1 hdg (k H locs ls h1 h2 h3)
theorem pw_dup (C : Cx p s m args c cc nL own X) {va : Value} (hdg : decode cc pc = .ok (.dup, 1)) (hva : va.category = 1) (k : MW p l e R s m args below meth c X nL cells slots Q w (pc + 1) lv (va :: va :: st)) : MW p l e R s m args below meth c X nL cells slots Q w pc lv (va :: st) := fun H locs ls h1 h2 h3 => lv_dup C.1.1 C.1.2.1 hdg hva (k H locs ls h1 h2 h3)
theorem pw_pop (C : Cx p s m args c cc nL own X) {va : Value} (hdg : decode cc pc = .ok (.pop, 1)) (hva : va.category = 1) (k : MW p l e R s m args below meth c X nL cells slots Q w (pc + 1) lv st) : MW p l e R s m args below meth c X nL cells slots Q w pc lv (va :: st) := fun H locs ls h1 h2 h3 => lv_pop C.1.1 C.1.2.1 hdg hva (k H locs ls h1 h2 h3)
theorem pw_pop2 (C : Cx p s m args c cc nL own X) {va : Value} (hdg : decode cc pc = .ok (.pop2, 1)) (hva : va.category = 2) (k : MW p l e R s m args below meth c X nL cells slots Q w (pc + 1) lv st) : MW p l e R s m args below meth c X nL cells slots Q w pc lv (va :: st) := fun H locs ls h1 h2 h3 => lv_pop2_2 C.1.1 C.1.2.1 hdg hva (k H locs ls h1 h2 h3)
theorem pw_dup_x1 (C : Cx p s m args c cc nL own X) {va vb : Value} (hdg : decode cc pc = .ok (.dup_x1, 1)) (hva : va.category = 1) (hvb : vb.category = 1) (k : MW p l e R s m args below meth c X nL cells slots Q w (pc + 1) lv (va :: vb :: va :: st)) : MW p l e R s m args below meth c X nL cells slots Q w pc lv (va :: vb :: st) := fun H locs ls h1 h2 h3 => lv_dup_x1 C.1.1 C.1.2.1 hdg hva hvb (k H locs ls h1 h2 h3)
theorem pw_dup_x2 (C : Cx p s m args c cc nL own X) {va vb vd : Value} (hdg : decode cc pc = .ok (.dup_x2, 1)) (hva : va.category = 1) (hvb : vb.category = 1) (hvd : vd.category = 1) (k : MW p l e R s m args below meth c X nL cells slots Q w (pc + 1) lv (va :: vb :: vd :: va :: st)) : MW p l e R s m args below meth c X nL cells slots Q w pc lv (va :: vb :: vd :: st) := fun H locs ls h1 h2 h3 => lv_dup_x2 C.1.1 C.1.2.1 hdg hva hvb hvd (k H locs ls h1 h2 h3)
theorem pw_dup2 (C : Cx p s m args c cc nL own X) {va vb : Value} (hdg : decode cc pc = .ok (.dup2, 1)) (hva : va.category = 1) (hvb : vb.category = 1) (k : MW p l e R s m args below meth c X nL cells slots Q w (pc + 1) lv (va :: vb :: va :: vb :: st)) : MW p l e R s m args below meth c X nL cells slots Q w pc lv (va :: vb :: st) := fun H locs ls h1 h2 h3 => lv_dup2_11 C.1.1 C.1.2.1 hdg hva hvb (k H locs ls h1 h2 h3)
theorem pw_dup2_2 (C : Cx p s m args c cc nL own X) {va : Value} (hdg : decode cc pc = .ok (.dup2, 1)) (hva : va.category = 2) (k : MW p l e R s m args below meth c X nL cells slots Q w (pc + 1) lv (va :: va :: st)) : MW p l e R s m args below meth c X nL cells slots Q w pc lv (va :: st) := fun H locs ls h1 h2 h3 => lv_dup2_2 C.1.1 C.1.2.1 hdg hva (k H locs ls h1 h2 h3)
theorem pw_dup2_x1 (C : Cx p s m args c cc nL own X) {va vb : Value} (hdg : decode cc pc = .ok (.dup2_x1, 1)) (hva : va.category = 2) (hvb : vb.category = 1) (k : MW p l e R s m args below meth c X nL cells slots Q w (pc + 1) lv (va :: vb :: va :: st)) : MW p l e R s m args below meth c X nL cells slots Q w pc lv (va :: vb :: st) := fun H locs ls h1 h2 h3 => lv_dup2_x1_2 C.1.1 C.1.2.1 hdg hva hvb (k H locs ls h1 h2 h3)
theorem pw_dup2_x2 (C : Cx p s m args c cc nL own X) {va vb vd : Value} (hdg : decode cc pc = .ok (.dup2_x2, 1)) (hva : va.category = 2) (hvb : vb.category = 1) (hvd : vd.category = 1) (k : MW p l e R s m args below meth c X nL cells slots Q w (pc + 1) lv (va :: vb :: vd :: va :: st)) : MW p l e R s m args below meth c X nL cells slots Q w pc lv (va :: vb :: vd :: st) := fun H locs ls h1 h2 h3 => lv_dup2_x2_2 C.1.1 C.1.2.1 hdg hva hvb hvd (k H locs ls h1 h2 h3)
theorem pw_goto (C : Cx p s m args c cc nL own X) {off : Int} (tgt : Nat) (hdg : decode cc pc = .ok (.goto off, 3)) (ht : (pc : Int) + off = (tgt : Int)) (k : MW p l e R s m args below meth c X nL cells slots Q w tgt lv st) : MW p l e R s m args below meth c X nL cells slots Q w pc lv st := fun H locs ls h1 h2 h3 => lv_goto C.1.1 C.1.2.1 hdg ht (k H locs ls h1 h2 h3)
theorem pw_if_eq (C : Cx p s m args c cc nL own X) {x : Int32} {off : Int} (tgt : Nat) (hdg : decode cc pc = .ok (.ifCond .eq off, 3)) (ht : (pc : Int) + off = (tgt : Int)) (kt : x = 0 → MW p l e R s m args below meth c X nL cells slots Q w tgt lv st) (kf : ¬ x = 0 → MW p l e R s m args below meth c X nL cells slots Q w (pc + 3) lv st) : MW p l e R s m args below meth c X nL cells slots Q w pc lv (.int x :: st) := fun H locs ls h1 h2 h3 => lv_if_eq C.1.1 C.1.2.1 hdg ht (fun q => kt q H locs ls h1 h2 h3) (fun q => kf q H locs ls h1 h2 h3)
theorem pw_if_ne (C : Cx p s m args c cc nL own X) {x : Int32} {off : Int} (tgt : Nat) (hdg : decode cc pc = .ok (.ifCond .ne off, 3)) (ht : (pc : Int) + off = (tgt : Int)) (kt : ¬ x = 0 → MW p l e R s m args below meth c X nL cells slots Q w tgt lv st) (kf : x = 0 → MW p l e R s m args below meth c X nL cells slots Q w (pc + 3) lv st) : MW p l e R s m args below meth c X nL cells slots Q w pc lv (.int x :: st) := fun H locs ls h1 h2 h3 => lv_if_ne C.1.1 C.1.2.1 hdg ht (fun q => kt q H locs ls h1 h2 h3) (fun q => kf q H locs ls h1 h2 h3)
theorem pw_if_lt (C : Cx p s m args c cc nL own X) {x : Int32} {off : Int} (tgt : Nat) (hdg : decode cc pc = .ok (.ifCond .lt off, 3)) (ht : (pc : Int) + off = (tgt : Int)) (kt : x < 0 → MW p l e R s m args below meth c X nL cells slots Q w tgt lv st) (kf : ¬ x < 0 → MW p l e R s m args below meth c X nL cells slots Q w (pc + 3) lv st) : MW p l e R s m args below meth c X nL cells slots Q w pc lv (.int x :: st) := fun H locs ls h1 h2 h3 => lv_if_lt C.1.1 C.1.2.1 hdg ht (fun q => kt q H locs ls h1 h2 h3) (fun q => kf q H locs ls h1 h2 h3)
theorem pw_if_ge (C : Cx p s m args c cc nL own X) {x : Int32} {off : Int} (tgt : Nat) (hdg : decode cc pc = .ok (.ifCond .ge off, 3)) (ht : (pc : Int) + off = (tgt : Int)) (kt : 0 ≤ x → MW p l e R s m args below meth c X nL cells slots Q w tgt lv st) (kf : ¬ 0 ≤ x → MW p l e R s m args below meth c X nL cells slots Q w (pc + 3) lv st) : MW p l e R s m args below meth c X nL cells slots Q w pc lv (.int x :: st) := fun H locs ls h1 h2 h3 => lv_if_ge C.1.1 C.1.2.1 hdg ht (fun q => kt q H locs ls h1 h2 h3) (fun q => kf q H locs ls h1 h2 h3)
theorem pw_if_gt (C : Cx p s m args c cc nL own X) {x : Int32} {off : Int} (tgt : Nat) (hdg : decode cc pc = .ok (.ifCond .gt off, 3)) (ht : (pc : Int) + off = (tgt : Int)) (kt : 0 < x → MW p l e R s m args below meth c X nL cells slots Q w tgt lv st) (kf : ¬ 0 < x → MW p l e R s m args below meth c X nL cells slots Q w (pc + 3) lv st) : MW p l e R s m args below meth c X nL cells slots Q w pc lv (.int x :: st) := fun H locs ls h1 h2 h3 => lv_if_gt C.1.1 C.1.2.1 hdg ht (fun q => kt q H locs ls h1 h2 h3) (fun q => kf q H locs ls h1 h2 h3)
theorem pw_if_le (C : Cx p s m args c cc nL own X) {x : Int32} {off : Int} (tgt : Nat) (hdg : decode cc pc = .ok (.ifCond .le off, 3)) (ht : (pc : Int) + off = (tgt : Int)) (kt : x ≤ 0 → MW p l e R s m args below meth c X nL cells slots Q w tgt lv st) (kf : ¬ x ≤ 0 → MW p l e R s m args below meth c X nL cells slots Q w (pc + 3) lv st) : MW p l e R s m args below meth c X nL cells slots Q w pc lv (.int x :: st) := fun H locs ls h1 h2 h3 => lv_if_le C.1.1 C.1.2.1 hdg ht (fun q => kt q H locs ls h1 h2 h3) (fun q => kf q H locs ls h1 h2 h3)
theorem pw_icmp_eq (C : Cx p s m args c cc nL own X) {x y : Int32} {off : Int} (tgt : Nat) (hdg : decode cc pc = .ok (.if_icmp .eq off, 3)) (ht : (pc : Int) + off = (tgt : Int)) (kt : x = y → MW p l e R s m args below meth c X nL cells slots Q w tgt lv st) (kf : ¬ x = y → MW p l e R s m args below meth c X nL cells slots Q w (pc + 3) lv st) : MW p l e R s m args below meth c X nL cells slots Q w pc lv (.int y :: .int x :: st) := fun H locs ls h1 h2 h3 => lv_icmp_eq C.1.1 C.1.2.1 hdg ht (fun q => kt q H locs ls h1 h2 h3) (fun q => kf q H locs ls h1 h2 h3)
theorem pw_icmp_ne (C : Cx p s m args c cc nL own X) {x y : Int32} {off : Int} (tgt : Nat) (hdg : decode cc pc = .ok (.if_icmp .ne off, 3)) (ht : (pc : Int) + off = (tgt : Int)) (kt : ¬ x = y → MW p l e R s m args below meth c X nL cells slots Q w tgt lv st) (kf : x = y → MW p l e R s m args below meth c X nL cells slots Q w (pc + 3) lv st) : MW p l e R s m args below meth c X nL cells slots Q w pc lv (.int y :: .int x :: st) := fun H locs ls h1 h2 h3 => lv_icmp_ne C.1.1 C.1.2.1 hdg ht (fun q => kt q H locs ls h1 h2 h3) (fun q => kf q H locs ls h1 h2 h3)
theorem pw_icmp_lt (C : Cx p s m args c cc nL own X) {x y : Int32} {off : Int} (tgt : Nat) (hdg : decode cc pc = .ok (.if_icmp .lt off, 3)) (ht : (pc : Int) + off = (tgt : Int)) (kt : x < y → MW p l e R s m args below meth c X nL cells slots Q w tgt lv st) (kf : ¬ x < y → MW p l e R s m args below meth c X nL cells slots Q w (pc + 3) lv st) : MW p l e R s m args below meth c X nL cells slots Q w pc lv (.int y :: .int x :: st) := fun H locs ls h1 h2 h3 => lv_icmp_lt C.1.1 C.1.2.1 hdg ht (fun q => kt q H locs ls h1 h2 h3) (fun q => kf q H locs ls h1 h2 h3)
theorem pw_icmp_ge (C : Cx p s m args c cc nL own X) {x y : Int32} {off : Int} (tgt : Nat) (hdg : decode cc pc = .ok (.if_icmp .ge off, 3)) (ht : (pc : Int) + off = (tgt : Int)) (kt : y ≤ x → MW p l e R s m args below meth c X nL cells slots Q w tgt lv st) (kf : ¬ y ≤ x → MW p l e R s m args below meth c X nL cells slots Q w (pc + 3) lv st) : MW p l e R s m args below meth c X nL cells slots Q w pc lv (.int y :: .int x :: st) := fun H locs ls h1 h2 h3 => lv_icmp_ge C.1.1 C.1.2.1 hdg ht (fun q => kt q H locs ls h1 h2 h3) (fun q => kf q H locs ls h1 h2 h3)
theorem pw_icmp_gt (C : Cx p s m args c cc nL own X) {x y : Int32} {off : Int} (tgt : Nat) (hdg : decode cc pc = .ok (.if_icmp .gt off, 3)) (ht : (pc : Int) + off = (tgt : Int)) (kt : y < x → MW p l e R s m args below meth c X nL cells slots Q w tgt lv st) (kf : ¬ y < x → MW p l e R s m args below meth c X nL cells slots Q w (pc + 3) lv st) : MW p l e R s m args below meth c X nL cells slots Q w pc lv (.int y :: .int x :: st) := fun H locs ls h1 h2 h3 => lv_icmp_gt C.1.1 C.1.2.1 hdg ht (fun q => kt q H locs ls h1 h2 h3) (fun q => kf q H locs ls h1 h2 h3)
theorem pw_icmp_le (C : Cx p s m args c cc nL own X) {x y : Int32} {off : Int} (tgt : Nat) (hdg : decode cc pc = .ok (.if_icmp .le off, 3)) (ht : (pc : Int) + off = (tgt : Int)) (kt : x ≤ y → MW p l e R s m args below meth c X nL cells slots Q w tgt lv st) (kf : ¬ x ≤ y → MW p l e R s m args below meth c X nL cells slots Q w (pc + 3) lv st) : MW p l e R s m args below meth c X nL cells slots Q w pc lv (.int y :: .int x :: st) := fun H locs ls h1 h2 h3 => lv_icmp_le C.1.1 C.1.2.1 hdg ht (fun q => kt q H locs ls h1 h2 h3) (fun q => kf q H locs ls h1 h2 h3)
theorem pw_tableIn (C : Cx p s m args c cc nL own X) {dflt lo hi : Int} {offs : Array Int} {len : Nat} {x : Int32} {off : Int} (tgt : Nat) (hdg : decode cc pc = .ok (.tableswitch dflt lo hi offs, len)) (hl1 : ¬ x.toInt < lo) (hl2 : ¬ hi < x.toInt) (ho : offs[(x.toInt - lo).toNat]? = some off) (ht : (pc : Int) + off = (tgt : Int)) (k : MW p l e R s m args below meth c X nL cells slots Q w tgt lv st) : MW p l e R s m args below meth c X nL cells slots Q w pc lv (.int x :: st) := fun H locs ls h1 h2 h3 => lv_tableIn C.1.1 C.1.2.1 hdg hl1 hl2 ho ht (k H locs ls h1 h2 h3)
theorem pw_tableOut (C : Cx p s m args c cc nL own X) {dflt lo hi : Int} {offs : Array Int} {len : Nat} {x : Int32} (tgt : Nat) (hdg : decode cc pc = .ok (.tableswitch dflt lo hi offs, len)) (ho : x.toInt < lo ∨ hi < x.toInt) (ht : (pc : Int) + dflt = (tgt : Int)) (k : MW p l e R s m args below meth c X nL cells slots Q w tgt lv st) : MW p l e R s m args below meth c X nL cells slots Q w pc lv (.int x :: st) := fun H locs ls h1 h2 h3 => lv_tableOut C.1.1 C.1.2.1 hdg ho ht (k H locs ls h1 h2 h3)
theorem pw_lookup (C : Cx p s m args c cc nL own X) {dflt : Int} {ps : Array (Int × Int)} {len : Nat} {x : Int32} {off : Int} (tgt : Nat) (hdg : decode cc pc = .ok (.lookupswitch dflt ps, len)) (hp : (ps.toList.zip (ps.toList.drop 1)).all (fun (a, next) => a.1 < next.1) = true) (ho : Op.lookupswitch.offset ps.toList dflt x.toInt = off) (ht : (pc : Int) + off = (tgt : Int)) (k : MW p l e R s m args below meth c X nL cells slots Q w tgt lv st) : MW p l e R s m args below meth c X nL cells slots Q w pc lv (.int x :: st) := fun H locs ls h1 h2 h3 => lv_lookup C.1.1 C.1.2.1 hdg hp ho ht (k H locs ls h1 h2 h3)
theorem pw_one {H : Heap} {g i : Nat} {e : va_E} (h : pw_H X w H) (hd : pw_d X g i) (hw : w g i = e) : va_P (pw_D X) vwCl [(pw_a X g i, e)] H := by
  intro k q hk
  have hz : k < 1 := (List.getElem?_eq_some_iff.mp hk).1
  rw [show k = 0 by omega] at hk
  cases hk
  rw [← hw]
  exact h g i hd
theorem pw_iald (C : Cx p s m args c cc nL own X) {g i n : Nat} {f : Nat → Int32} {j : Int32} (hdg : decode cc pc = .ok (.iaload, 1)) (hd : pw_d X g i) (hw : w g i = aI X n f) (hin : vp_in j n) (k : MW p l e R s m args below meth c X nL cells slots Q w (pc + 1) lv (.int (f j.toNatClampNeg) :: st)) : MW p l e R s m args below meth c X nL cells slots Q w pc lv (.int j :: .ref (pw_a X g i) :: st) := fun H locs ls h1 h2 h3 => va_iald C.1.1 C.1.2.1 C.2.1.1 (pw_one h1 hd hw) 0 0 rfl rfl hin hdg (k H locs ls h1 h2 h3)
theorem pw_lald (C : Cx p s m args c cc nL own X) {g i n : Nat} {f : Nat → Int64} {j : Int32} (hdg : decode cc pc = .ok (.laload, 1)) (hd : pw_d X g i) (hw : w g i = aL X n f) (hin : vp_in j n) (k : MW p l e R s m args below meth c X nL cells slots Q w (pc + 1) lv (.long (f j.toNatClampNeg) :: st)) : MW p l e R s m args below meth c X nL cells slots Q w pc lv (.int j :: .ref (pw_a X g i) :: st) := fun H locs ls h1 h2 h3 => va_lald C.1.1 C.1.2.1 C.2.1.1 (pw_one h1 hd hw) 0 1 rfl rfl hin hdg (k H locs ls h1 h2 h3)
theorem pw_aald (C : Cx p s m args c cc nL own X) {g i n : Nat} {f : Nat → Option Nat} {j : Int32} {v : Nat} (hdg : decode cc pc = .ok (.aaload, 1)) (hd : pw_d X g i) (hw : w g i = aQ X n f) (hin : vp_in j n) (hv : f j.toNatClampNeg = some v) (k : MW p l e R s m args below meth c X nL cells slots Q w (pc + 1) lv (.ref v :: st)) : MW p l e R s m args below meth c X nL cells slots Q w pc lv (.int j :: .ref (pw_a X g i) :: st) := fun H locs ls h1 h2 h3 => by
  have hlt : j.toNatClampNeg < n := Nat.not_le.mp fun q => hin (Or.inr q)
  exact W.aald (v := .ref v) (ty := .array .long) C.1.1 C.1.2.1 (pw_one h1 hd hw 0 _ rfl) ((C.2.1.1.2 2 _ rfl).1 n (fun j => va_rf (f j))) rfl (fun q => by cases q) (by show ¬ (j < 0 ∨ (arrV _ _ _).slots.size ≤ _); rw [arrV_size]; exact hin) (by show (arrV _ _ _).slots[_]? = _; rw [arrV_read _ _ hlt, hv]; rfl) rfl rfl hdg (k H locs ls h1 h2 h3)
theorem pw_alenI (C : Cx p s m args c cc nL own X) {g i n : Nat} {f : Nat → Int32} (hdg : decode cc pc = .ok (.arraylength, 1)) (hd : pw_d X g i) (hw : w g i = aI X n f) (k : MW p l e R s m args below meth c X nL cells slots Q w (pc + 1) lv (.int (Int32.ofNat n) :: st)) : MW p l e R s m args below meth c X nL cells slots Q w pc lv (.ref (pw_a X g i) :: st) := fun H locs ls h1 h2 h3 => va_alen C.1.1 C.1.2.1 C.2.1.1 (pw_one h1 hd hw) 0 0 rfl rfl rfl hdg (k H locs ls h1 h2 h3)
theorem pw_alenL (C : Cx p s m args c cc nL own X) {g i n : Nat} {f : Nat → Int64} (hdg : decode cc pc = .ok (.arraylength, 1)) (hd : pw_d X g i) (hw : w g i = aL X n f) (k : MW p l e R s m args below meth c X nL cells slots Q w (pc + 1) lv (.int (Int32.ofNat n) :: st)) : MW p l e R s m args below meth c X nL cells slots Q w pc lv (.ref (pw_a X g i) :: st) := fun H locs ls h1 h2 h3 => va_alen C.1.1 C.1.2.1 C.2.1.1 (pw_one h1 hd hw) 0 1 rfl rfl rfl hdg (k H locs ls h1 h2 h3)
theorem pw_iast (C : Cx p s m args c cc nL own X) {g i n : Nat} {f : Nat → Int32} {j : Int32} {x : Int32} (hdg : decode cc pc = .ok (.iastore, 1)) (hd : pw_d X g i) (hw : w g i = aI X n f) (hin : vp_in j n) (k : MW p l e R s m args below meth c X nL cells slots Q (pw_up w g i (aI X n (upd f j.toNatClampNeg x))) (pc + 1) lv st) : MW p l e R s m args below meth c X nL cells slots Q w pc lv (.int x :: .int j :: .ref (pw_a X g i) :: st) := fun H locs ls h1 h2 h3 => by
  refine W.iast C.1.1 C.1.2.1 (pw_one h1 hd hw 0 _ rfl) ((C.2.1.1.2 0 _ rfl).1 n (fun j => .int (f j))) (fun q => by cases q) (by show ¬ (j < 0 ∨ (arrV _ _ _).slots.size ≤ _); rw [arrV_size]; exact hin) rfl rfl hdg fun H1 e1 z1 oq => ?_
  refine k H1 _ ls (h1.set C.2.2.1 hd ?_ oq) (h2.put z1 oq (C.2.2.1.2 g i hd)) h3
  show H1[pw_a X g i]? = some (vp_cell _ _)
  rw [e1]
  rw [vp_cell_i, vp_cell_i, arrV_store]
  congr 2
  funext q
  by_cases hq : q = j.toNatClampNeg
  · subst hq
    simp [updV, upd]
  · simp [updV, upd, hq]
theorem pw_last (C : Cx p s m args c cc nL own X) {g i n : Nat} {f : Nat → Int64} {j : Int32} {x : Int64} (hdg : decode cc pc = .ok (.lastore, 1)) (hd : pw_d X g i) (hw : w g i = aL X n f) (hin : vp_in j n) (k : MW p l e R s m args below meth c X nL cells slots Q (pw_up w g i (aL X n (vp_updL f j.toNatClampNeg x))) (pc + 1) lv st) : MW p l e R s m args below meth c X nL cells slots Q w pc lv (.long x :: .int j :: .ref (pw_a X g i) :: st) := fun H locs ls h1 h2 h3 => by
  refine W.last C.1.1 C.1.2.1 (pw_one h1 hd hw 0 _ rfl) ((C.2.1.1.2 1 _ rfl).1 n (fun j => .long (f j))) (fun q => by cases q) (by show ¬ (j < 0 ∨ (arrV _ _ _).slots.size ≤ _); rw [arrV_size]; exact hin) rfl rfl hdg fun H1 e1 z1 oq => ?_
  refine k H1 _ ls (h1.set C.2.2.1 hd ?_ oq) (h2.put z1 oq (C.2.2.1.2 g i hd)) h3
  show H1[pw_a X g i]? = some (vp_cell _ _)
  rw [e1]
  rw [vp_cell_l, vp_cell_l, arrV_store]
  congr 2
  funext q
  by_cases hq : q = j.toNatClampNeg
  · subst hq
    simp [updV, vp_updL]
  · simp [updV, vp_updL, hq]
theorem pw_zald (C : Cx p s m args c cc nL own X) {g i n : Nat} {f : Nat → Int32} {j : Int32} (hdg : decode cc pc = .ok (.baload, 1)) (hd : pw_d X g i) (hw : w g i = aZ X n f) (hin : vp_in j n) (k : MW p l e R s m args below meth c X nL cells slots Q w (pc + 1) lv (.int (f j.toNatClampNeg) :: st)) : MW p l e R s m args below meth c X nL cells slots Q w pc lv (.int j :: .ref (pw_a X g i) :: st) := fun H locs ls h1 h2 h3 => va_zald C.1.1 C.1.2.1 C.2.1.1 (pw_one h1 hd hw) 0 3 rfl rfl hin hdg (k H locs ls h1 h2 h3)
theorem pw_zast (C : Cx p s m args c cc nL own X) {g i n : Nat} {f : Nat → Int32} {j x : Int32} (hdg : decode cc pc = .ok (.bastore, 1)) (hd : pw_d X g i) (hw : w g i = aZ X n f) (hin : vp_in j n) (k : MW p l e R s m args below meth c X nL cells slots Q (pw_up w g i (aZ X n (upd f j.toNatClampNeg (vp_nar .boolean x)))) (pc + 1) lv st) : MW p l e R s m args below meth c X nL cells slots Q w pc lv (.int x :: .int j :: .ref (pw_a X g i) :: st) := fun H locs ls h1 h2 h3 => by
  refine W.zast C.1.1 C.1.2.1 (pw_one h1 hd hw 0 _ rfl) ((C.2.1.1.2 3 _ rfl).1 n (fun j => .int (f j))) (fun q => by cases q) (by show ¬ (j < 0 ∨ (arrV _ _ _).slots.size ≤ _); rw [arrV_size]; exact hin) rfl rfl hdg fun H1 e1 z1 oq => ?_
  refine k H1 _ ls (h1.set C.2.2.1 hd ?_ oq) (h2.put z1 oq (C.2.2.1.2 g i hd)) h3
  show H1[pw_a X g i]? = some (vp_cell _ _)
  rw [e1]
  rw [vp_cell_i, vp_cell_i, arrV_store]
  congr 2
  funext q
  by_cases hq : q = j.toNatClampNeg
  · subst hq
    simp [updV, upd]
    rfl
  · simp [updV, upd, hq]
theorem pw_ialdK (C : Cx p s m args c cc nL own X) {g i n k0 : Nat} {f : Nat → Int32} (hdg : decode cc pc = .ok (.iaload, 1)) (hd : pw_d X g i) (hw : w g i = aI X n f) (hk : k0 < n) (k : MW p l e R s m args below meth c X nL cells slots Q w (pc + 1) lv (.int (f k0) :: st)) (hn : n < 2 ^ 31 := by first | assumption | decide) : MW p l e R s m args below meth c X nL cells slots Q w pc lv (.int (nI k0) :: .ref (pw_a X g i) :: st) := pw_iald C hdg hd hw (vp_in_nI hk hn) (by rw [nI_clamp (Nat.lt_trans hk hn)]; exact k)
theorem pw_laldK (C : Cx p s m args c cc nL own X) {g i n k0 : Nat} {f : Nat → Int64} (hdg : decode cc pc = .ok (.laload, 1)) (hd : pw_d X g i) (hw : w g i = aL X n f) (hk : k0 < n) (k : MW p l e R s m args below meth c X nL cells slots Q w (pc + 1) lv (.long (f k0) :: st)) (hn : n < 2 ^ 31 := by first | assumption | decide) : MW p l e R s m args below meth c X nL cells slots Q w pc lv (.int (nI k0) :: .ref (pw_a X g i) :: st) := pw_lald C hdg hd hw (vp_in_nI hk hn) (by rw [nI_clamp (Nat.lt_trans hk hn)]; exact k)
theorem pw_aaldK (C : Cx p s m args c cc nL own X) {g i n k0 v : Nat} {f : Nat → Option Nat} (hdg : decode cc pc = .ok (.aaload, 1)) (hd : pw_d X g i) (hw : w g i = aQ X n f) (hk : k0 < n) (hv : f k0 = some v) (k : MW p l e R s m args below meth c X nL cells slots Q w (pc + 1) lv (.ref v :: st)) (hn : n < 2 ^ 31 := by first | assumption | decide) : MW p l e R s m args below meth c X nL cells slots Q w pc lv (.int (nI k0) :: .ref (pw_a X g i) :: st) := pw_aald C hdg hd hw (vp_in_nI hk hn) (by rw [nI_clamp (Nat.lt_trans hk hn)]; exact hv) k
theorem pw_iastK (C : Cx p s m args c cc nL own X) {g i n k0 : Nat} {f : Nat → Int32} {x : Int32} (hdg : decode cc pc = .ok (.iastore, 1)) (hd : pw_d X g i) (hw : w g i = aI X n f) (hk : k0 < n) (k : MW p l e R s m args below meth c X nL cells slots Q (pw_up w g i (aI X n (upd f k0 x))) (pc + 1) lv st) (hn : n < 2 ^ 31 := by first | assumption | decide) : MW p l e R s m args below meth c X nL cells slots Q w pc lv (.int x :: .int (nI k0) :: .ref (pw_a X g i) :: st) := pw_iast C hdg hd hw (vp_in_nI hk hn) (by rw [nI_clamp (Nat.lt_trans hk hn)]; exact k)
theorem pw_lastK (C : Cx p s m args c cc nL own X) {g i n k0 : Nat} {f : Nat → Int64} {x : Int64} (hdg : decode cc pc = .ok (.lastore, 1)) (hd : pw_d X g i) (hw : w g i = aL X n f) (hk : k0 < n) (k : MW p l e R s m args below meth c X nL cells slots Q (pw_up w g i (aL X n (vp_updL f k0 x))) (pc + 1) lv st) (hn : n < 2 ^ 31 := by first | assumption | decide) : MW p l e R s m args below meth c X nL cells slots Q w pc lv (.long x :: .int (nI k0) :: .ref (pw_a X g i) :: st) := pw_last C hdg hd hw (vp_in_nI hk hn) (by rw [nI_clamp (Nat.lt_trans hk hn)]; exact k)
theorem pw_iinc1 (C : Cx p s m args c cc nL own X) {i k0 : Nat} (hdg : decode cc pc = .ok (.iinc i 1, 3)) (hv : lv[i]? = some (some (.int (nI k0)))) (hn : i < nL) (k : MW p l e R s m args below meth c X nL cells slots Q w (pc + 3) (pw_p1 lv i (.int (nI (k0 + 1)))) st) : MW p l e R s m args below meth c X nL cells slots Q w pc lv st := pw_iinc C hdg hv hn (by rw [show nI k0 + Int32.ofInt 1 = nI (k0 + 1) from nI_1 k0]; exact k)
theorem pw_get (C : Cx p s m args c cc nL own X) {g i ci index N : Nat} {fs : List Value} {Cn ref : String} {T : u_T} {v : Value} (hdg : decode cc pc = .ok (.getfield index, 3)) (hd : pw_d X g i) (hw : w g i = oB ci fs) (k0 : Nat) (hv : fs[k0]? = some v) (hc : vwCl[ci]? = some (Cn, T, N)) (hk : k0 < N) (hin : ∀ q ∈ u_ws Cn T N, q ∈ pw_all) (hl : Cond.fieldLink own index ref (T k0).2.1 (T k0).2.2.1 ∈ pw_all) (hsame : (T k0).1 = ref) (k : MW p l e R s m args below meth c X nL cells slots Q w (pc + 3) lv (v :: st)) : MW p l e R s m args below meth c X nL cells slots Q w pc lv (.ref (pw_a X g i) :: st) := fun H locs ls h1 h2 h3 => va_get C.1.1 C.1.2.1 C.1.2.2.2.2 hin C.1.2.2.2.1 C.2.1.1 (pw_one h1 hd hw) 0 rfl hc k0 hk (C.1.2.2.2.2 _ hl) (fun x9 h9 => by rw [← hsame]; exact h9) hv hdg (k H locs ls h1 h2 h3)
theorem pw_getN (C : Cx p s m args c cc nL own X) {g i ci index N : Nat} {fs : List Value} {Cn ref : String} {T : u_T} {host : String} {v : Value} (hdg : decode cc pc = .ok (.getfield index, 3)) (hd : pw_d X g i) (hw : w g i = oB ci fs) (k0 : Nat) (hv : fs[k0]? = some v) (hc : vwCl[ci]? = some (Cn, T, N)) (hk : k0 < N) (hin : ∀ q ∈ u_ws Cn T N, q ∈ pw_all) (hl : Cond.fieldLinkNest own index ref (T k0).2.1 (T k0).2.2.1 host ∈ pw_nw) (hsame : (T k0).1 = ref) (k : MW p l e R s m args below meth c X nL cells slots Q w (pc + 3) lv (v :: st)) : MW p l e R s m args below meth c X nL cells slots Q w pc lv (.ref (pw_a X g i) :: st) := fun H locs ls h1 h2 h3 => va_getN C.1.1 C.1.2.1 C.1.2.2.2.2 hin C.1.2.2.2.1 C.2.1.1 (pw_one h1 hd hw) 0 rfl hc k0 hk (va_Nw.use (pw_isN_on (pw_nw_ok _ hl)) (C.2.1.2 _ hl)) (fun x9 h9 => by rw [← hsame]; exact h9) hv hdg (k H locs ls h1 h2 h3)
theorem pw_put (C : Cx p s m args c cc nL own X) {g i ci index N : Nat} {fs : List Value} {Cn ref : String} {T : u_T} {v : Value} {ty : FieldType} (hdg : decode cc pc = .ok (.putfield index, 3)) (hd : pw_d X g i) (hw : w g i = oB ci fs) (k0 : Nat) (hl9 : k0 < fs.length) (hc : vwCl[ci]? = some (Cn, T, N)) (hk : k0 < N) (hin : ∀ q ∈ u_ws Cn T N, q ∈ pw_all) (ty0 : Nat → FieldType) (hty : ∀ k, k < N → parseFieldDescriptor (T k).2.2.1 = some (ty0 k)) (hnm : ∀ a, a < N → ∀ b, b < N → a ≠ b → (T a).2.1 ≠ (T b).2.1) (hl : Cond.fieldLink own index ref (T k0).2.1 (T k0).2.2.1 ∈ pw_all) (hsame : (T k0).1 = ref) (hfin : (T k0).2.2.2 = false) (hdd : parseFieldDescriptor (T k0).2.2.1 = some ty) (hn : narrow ty v = v) (hfit : fits ty v = true) (k : MW p l e R s m args below meth c X nL cells slots Q (pw_up w g i (oB ci (fs.set k0 v))) (pc + 3) lv st) : MW p l e R s m args below meth c X nL cells slots Q w pc lv (v :: .ref (pw_a X g i) :: st) := fun H locs ls h1 h2 h3 => by
  subst hsame
  have hK := C.2.1.1
  have hts := C.1.2.2.2.2
  have hap := va_apart (own := own) hts hin ty0 hty hnm hK hc
  obtain ⟨r, g1, cell, q1, q2, q3, q4⟩ := pw_one h1 hd hw 0 _ rfl
  have hr : r = (Cn, T, N) := Option.some.inj (g1.symm.trans hc)
  subst hr
  obtain ⟨hS, hfc, kC, hkC, hkind⟩ := hK.1 ci _ hc
  obtain ⟨cf, kf, fi, f, hi, hsl⟩ := hS k0 hk
  have hlay := hts _ (hin _ (u_in_lay hk))
  unfold u_lay at hlay
  rw [if_neg (by rw [hfin]; decide)] at hlay
  have hst := (u_facts hfc hkC (u_lays hts hin hk) hi).1
  have h6 := u_store hfc hkC hkind hlay hi hdd hn hfit
  refine W.putK C.1.1 C.1.2.1 (f := f) ⟨C.1.2.2.2.1, (C.1.2.2.2.2 _ hl), ⟨_, _, _, hi⟩, hst⟩ (by rw [q2]; exact h6) q1 q3 (by rw [hsl]; exact k2_hasslot (q4 k0 hk)) rfl rfl hdg fun H1 e1 e2 e3 => ?_
  rw [hsl] at e1 ⊢
  exact k H1 _ ls (h1.set C.2.2.1 hd ⟨_, hc, t_OB.to (V := updV (vp_V fs) k0 v) ⟨_, e1, q2, q3, t_set q4 hap hk v⟩ (fun j _ => vp_updV_set hl9 v j)⟩ e3) (h2.put e2 e3 (C.2.2.1.2 g i hd)) h3
theorem pw_putN (C : Cx p s m args c cc nL own X) {g i ci index N : Nat} {fs : List Value} {Cn ref : String} {T : u_T} {host : String} {v : Value} {ty : FieldType} (hdg : decode cc pc = .ok (.putfield index, 3)) (hd : pw_d X g i) (hw : w g i = oB ci fs) (k0 : Nat) (hl9 : k0 < fs.length) (hc : vwCl[ci]? = some (Cn, T, N)) (hk : k0 < N) (hin : ∀ q ∈ u_ws Cn T N, q ∈ pw_all) (ty0 : Nat → FieldType) (hty : ∀ k, k < N → parseFieldDescriptor (T k).2.2.1 = some (ty0 k)) (hnm : ∀ a, a < N → ∀ b, b < N → a ≠ b → (T a).2.1 ≠ (T b).2.1) (hl : Cond.fieldLinkNest own index ref (T k0).2.1 (T k0).2.2.1 host ∈ pw_nw) (hsame : (T k0).1 = ref) (hfin : (T k0).2.2.2 = false) (hdd : parseFieldDescriptor (T k0).2.2.1 = some ty) (hn : narrow ty v = v) (hfit : fits ty v = true) (k : MW p l e R s m args below meth c X nL cells slots Q (pw_up w g i (oB ci (fs.set k0 v))) (pc + 3) lv st) : MW p l e R s m args below meth c X nL cells slots Q w pc lv (v :: .ref (pw_a X g i) :: st) := fun H locs ls h1 h2 h3 => by
  subst hsame
  have hK := C.2.1.1
  have hts := C.1.2.2.2.2
  have hap := va_apart (own := own) hts hin ty0 hty hnm hK hc
  obtain ⟨r, g1, cell, q1, q2, q3, q4⟩ := pw_one h1 hd hw 0 _ rfl
  have hr : r = (Cn, T, N) := Option.some.inj (g1.symm.trans hc)
  subst hr
  obtain ⟨hS, hfc, kC, hkC, hkind⟩ := hK.1 ci _ hc
  obtain ⟨cf, kf, fi, f, hi, hsl⟩ := hS k0 hk
  have hlay := hts _ (hin _ (u_in_lay hk))
  unfold u_lay at hlay
  rw [if_neg (by rw [hfin]; decide)] at hlay
  have hst := (u_facts hfc hkC (u_lays hts hin hk) hi).1
  have h6 := u_store hfc hkC hkind hlay hi hdd hn hfit
  refine va_WputK C.1.1 C.1.2.1 (f := f) C.1.2.2.2.1 (va_Nw.use (pw_isN_on (pw_nw_ok _ hl)) (C.2.1.2 _ hl)) hi hst (by rw [q2]; exact h6) q1 q3 (by rw [hsl]; exact k2_hasslot (q4 k0 hk)) rfl rfl hdg fun H1 e1 e2 e3 => ?_
  rw [hsl] at e1 ⊢
  exact k H1 _ ls (h1.set C.2.2.1 hd ⟨_, hc, t_OB.to (V := updV (vp_V fs) k0 v) ⟨_, e1, q2, q3, t_set q4 hap hk v⟩ (fun j _ => vp_updV_set hl9 v j)⟩ e3) (h2.put e2 e3 (C.2.2.1.2 g i hd)) h3
theorem pw_iret (C : Cx p s m args c cc nL own X) {post : Int32 → Wd → Prop} {v : Int32} (hr : meth.sig.returnType = some .int) (hlk : meth.locks = false) (hdg : decode cc pc = .ok (.ireturn, 1)) (hp : post v w) : MW p l e R s m args below meth c X nL cells slots (MQ below (va_Qi post (pw_B X) (pw_F X)) args s cells slots (pw_F X)) w pc lv [.int v] := fun H locs ls h1 h2 h3 => W.iret C.1.1 C.1.2.1 hr (fun t ht hW => ⟨⟨v, w, rfl, hp, by unfold pw_B; rw [ht]; exact h1⟩, h2.F ht⟩) h2.2.2 hdg hlk
theorem pw_zret (C : Cx p s m args c cc nL own X) {post : Int32 → Wd → Prop} {v : Int32} {ty : FieldType} (hr : meth.sig.returnType = some ty) (hn : narrow ty (.int v) = .int v) (hlk : meth.locks = false) (hdg : decode cc pc = .ok (.ireturn, 1)) (hp : post v w) : MW p l e R s m args below meth c X nL cells slots (MQ below (va_Qi post (pw_B X) (pw_F X)) args s cells slots (pw_F X)) w pc lv [.int v] := fun H locs ls h1 h2 h3 => W.zret C.1.1 C.1.2.1 hr hn (fun t ht hW => ⟨⟨v, w, rfl, hp, by unfold pw_B; rw [ht]; exact h1⟩, h2.F ht⟩) h2.2.2 hdg hlk
theorem pw_lret (C : Cx p s m args c cc nL own X) {post : Int64 → Wd → Prop} {v : Int64} (hr : meth.sig.returnType = some .long) (hlk : meth.locks = false) (hdg : decode cc pc = .ok (.lreturn, 1)) (hp : post v w) : MW p l e R s m args below meth c X nL cells slots (MQ below (va_Ql post (pw_B X) (pw_F X)) args s cells slots (pw_F X)) w pc lv [.long v] := fun H locs ls h1 h2 h3 => W.lret C.1.1 C.1.2.1 hr (fun t ht hW => ⟨⟨v, w, rfl, hp, by unfold pw_B; rw [ht]; exact h1⟩, h2.F ht⟩) h2.2.2 hdg hlk
theorem pw_vret (C : Cx p s m args c cc nL own X) {post : Wd → Prop} (hr : meth.sig.returnType = none) (hlk : meth.locks = false) (hdg : decode cc pc = .ok (.return_, 1)) (hp : post w) : MW p l e R s m args below meth c X nL cells slots (MQ below (va_Qv post (pw_B X) (pw_F X)) args s cells slots (pw_F X)) w pc lv [] := fun H locs ls h1 h2 h3 => W.vret C.1.1 C.1.2.1 hr (fun t ht hW => ⟨⟨w, rfl, hp, by unfold pw_B; rw [ht]; exact h1⟩, h2.F ht⟩) h2.2.2 hdg hlk
theorem pw_aret (C : Cx p s m args c cc nL own X) {post : Wd → Prop} {g i : Nat} {t0 : FieldType} (hr : meth.sig.returnType = some (.array t0)) (hlk : meth.locks = false) (hdg : decode cc pc = .ok (.areturn, 1)) (hp : post w) : MW p l e R s m args below meth c X nL cells slots (MQ below (va_Qr post (fun w a t => a = pw_a X g i ∧ pw_H X w t.heap) (pw_F X)) args s cells slots (pw_F X)) w pc lv [.ref (pw_a X g i)] := fun H locs ls h1 h2 h3 => W.aret C.1.1 C.1.2.1 hr (Or.inr ⟨_, rfl⟩) (Or.inr ⟨_, rfl⟩) (fun t ht hW => ⟨⟨w, _, rfl, hp, rfl, by rw [ht]; exact h1⟩, h2.F ht⟩) h2.2.2 hdg hlk
theorem pw_pre (C : Cx p s m args c cc nL own X) {H : Heap} {locs : List Loc} (h1 : pw_H X w H) (h2 : va_S (fun q => pw_z X ≤ q) s.heap H locs) (As : List Value) : PreS s H (pw_Pc X w As) As := ⟨pw_Pc.blind, fun U hU hW => ⟨rfl, by rw [hU]; exact Nat.le_trans C.2.2.2 h2.1, by rw [hU]; exact h1, C.2.1.warm hW⟩⟩
theorem pw_preV (C : Cx p s m args c cc nL own X) {H : Heap} {locs : List Loc} (h1 : pw_H X w H) (h2 : va_S (fun q => pw_z X ≤ q) s.heap H locs) {g i ci : Nat} {fs : List Value} {q : vw_C} (hd : pw_d X g i) (hw : w g i = oB ci fs) (hc : vwCl[ci]? = some q) (As : List Value) : PreV s H q.1 (pw_a X g i) (pw_Pc X w (.ref (pw_a X g i) :: As)) As := ⟨pw_Pc.blind, va_recv C.2.1.1 (pw_one h1 hd hw) hc (q0 := 0) rfl, fun U hU hW => ⟨rfl, by rw [hU]; exact Nat.le_trans C.2.2.2 h2.1, by rw [hU]; exact h1, C.2.1.warm hW⟩⟩
theorem pw_callSi (C : Cx p s m args c cc nL own X) {y : MethodName} {ws : List Cond} {rm : Room} {bytes : ByteArray} {maxL index n : Nat} {ret : Option FieldType} {As rest : List Value} {post : Int32 → Wd → Prop} (hM : CtI l y ws rm X w As post) (cw : CallB R s args own index y bytes maxL ret ws rm 0 0 n ∧ (Cond.static y).before args s = true) (hn : As.length = n) (hst : st = As.reverse ++ rest) (hcat : (rest.map fun v => v.category).sum ≤ 8) (hdg : decode cc pc = .ok (.invokestatic index, 3)) (hf : cells ≤ R.cells ∧ slots ≤ R.slots) (kk : ∀ (r : Int32) (w' : Wd), post r w' → MW p l e R s m args below meth c X nL cells slots Q w' (pc + 3) lv (.int r :: rest)) : MW p l e R s m args below meth c X nL cells slots Q w pc lv st := fun H locs ls h1 h2 h3 => by
  subst hst
  exact va_calli (va_runS (As := As) (rest := rest) C.1 hM cw (pw_pre C h1 h2 As) rfl hn h3.1 rfl (lv_room hcat) hdg hf) h2 (fun q _ h => h) (fun q h => h) (fun r u t H1 locs1 ht hvm hp hB hz hk hS => kk r u hp H1 locs1 ls (by rw [← ht]; exact hB) hS h3)
theorem pw_callSl (C : Cx p s m args c cc nL own X) {y : MethodName} {ws : List Cond} {rm : Room} {bytes : ByteArray} {maxL index n : Nat} {ret : Option FieldType} {As rest : List Value} {post : Int64 → Wd → Prop} (hM : CtL l y ws rm X w As post) (cw : CallB R s args own index y bytes maxL ret ws rm 0 0 n ∧ (Cond.static y).before args s = true) (hn : As.length = n) (hst : st = As.reverse ++ rest) (hcat : (rest.map fun v => v.category).sum ≤ 8) (hdg : decode cc pc = .ok (.invokestatic index, 3)) (hf : cells ≤ R.cells ∧ slots ≤ R.slots) (kk : ∀ (r : Int64) (w' : Wd), post r w' → MW p l e R s m args below meth c X nL cells slots Q w' (pc + 3) lv (.long r :: rest)) : MW p l e R s m args below meth c X nL cells slots Q w pc lv st := fun H locs ls h1 h2 h3 => by
  subst hst
  exact va_calll (va_runS (As := As) (rest := rest) C.1 hM cw (pw_pre C h1 h2 As) rfl hn h3.1 rfl (lv_room hcat) hdg hf) h2 (fun q _ h => h) (fun q h => h) (fun r u t H1 locs1 ht hvm hp hB hz hk hS => kk r u hp H1 locs1 ls (by rw [← ht]; exact hB) hS h3)
theorem pw_callSv (C : Cx p s m args c cc nL own X) {y : MethodName} {ws : List Cond} {rm : Room} {bytes : ByteArray} {maxL index n : Nat} {ret : Option FieldType} {As rest : List Value} {post : Wd → Prop} (hM : CtV l y ws rm X w As post) (cw : CallB R s args own index y bytes maxL ret ws rm 0 0 n ∧ (Cond.static y).before args s = true) (hn : As.length = n) (hst : st = As.reverse ++ rest) (hcat : (rest.map fun v => v.category).sum ≤ 8) (hdg : decode cc pc = .ok (.invokestatic index, 3)) (hf : cells ≤ R.cells ∧ slots ≤ R.slots) (kk : ∀ w' : Wd, post w' → MW p l e R s m args below meth c X nL cells slots Q w' (pc + 3) lv rest) : MW p l e R s m args below meth c X nL cells slots Q w pc lv st := fun H locs ls h1 h2 h3 => by
  subst hst
  exact va_callv (va_runS (As := As) (rest := rest) C.1 hM cw (pw_pre C h1 h2 As) rfl hn h3.1 rfl (lv_room hcat) hdg hf) h2 (fun q _ h => h) (fun q h => h) (fun u t H1 locs1 ht hvm hp hB hz hk hS => kk u hp H1 locs1 ls (by rw [← ht]; exact hB) hS h3)
theorem pw_callSr (C : Cx p s m args c cc nL own X) {y : MethodName} {ws : List Cond} {rm : Room} {bytes : ByteArray} {maxL index n : Nat} {ret : Option FieldType} {As rest : List Value} {g9 i9 : Nat} {post : Wd → Prop} (hM : CtR l y ws rm X w As g9 i9 post) (cw : CallB R s args own index y bytes maxL ret ws rm 0 0 n ∧ (Cond.static y).before args s = true) (hn : As.length = n) (hst : st = As.reverse ++ rest) (hcat : (rest.map fun v => v.category).sum ≤ 8) (hdg : decode cc pc = .ok (.invokestatic index, 3)) (hf : cells ≤ R.cells ∧ slots ≤ R.slots) (kk : ∀ w' : Wd, post w' → MW p l e R s m args below meth c X nL cells slots Q w' (pc + 3) lv (.ref (pw_a X g9 i9) :: rest)) : MW p l e R s m args below meth c X nL cells slots Q w pc lv st := fun H locs ls h1 h2 h3 => by
  subst hst
  exact va_callr (va_runS (As := As) (rest := rest) C.1 hM cw (pw_pre C h1 h2 As) rfl hn h3.1 rfl (lv_room hcat) hdg hf) h2 (fun q _ h => h) (fun q h => h) (fun u ra t H1 locs1 ht hvm hp hB hz hk hS => by
    obtain ⟨hB1, hB2⟩ := hB
    subst hB1
    exact kk u hp H1 locs1 ls (by rw [← ht]; exact hB2) hS h3)
theorem pw_callSNi (C : Cx p s m args c cc nL own X) {y : MethodName} {ws : List Cond} {rm : Room} {bytes : ByteArray} {maxL index n : Nat} {ret : Option FieldType} {As rest : List Value} {post : Int32 → Wd → Prop} (hM : CtI l y ws rm X w As post) {host : String} (cw : va_CN R s args own index y host bytes maxL ret ws rm 0 0 n ∧ (Cond.static y).before args s = true ∧ True) (hn : As.length = n) (hst : st = As.reverse ++ rest) (hcat : (rest.map fun v => v.category).sum ≤ 8) (hdg : decode cc pc = .ok (.invokestatic index, 3)) (hf : cells ≤ R.cells ∧ slots ≤ R.slots) (kk : ∀ (r : Int32) (w' : Wd), post r w' → MW p l e R s m args below meth c X nL cells slots Q w' (pc + 3) lv (.int r :: rest)) : MW p l e R s m args below meth c X nL cells slots Q w pc lv st := fun H locs ls h1 h2 h3 => by
  subst hst
  exact va_calli (va_runSN (As := As) (rest := rest) C.1 hM cw (pw_pre C h1 h2 As) rfl hn h3.1 rfl (lv_room hcat) hdg hf) h2 (fun q _ h => h) (fun q h => h) (fun r u t H1 locs1 ht hvm hp hB hz hk hS => kk r u hp H1 locs1 ls (by rw [← ht]; exact hB) hS h3)
theorem pw_callSNl (C : Cx p s m args c cc nL own X) {y : MethodName} {ws : List Cond} {rm : Room} {bytes : ByteArray} {maxL index n : Nat} {ret : Option FieldType} {As rest : List Value} {post : Int64 → Wd → Prop} (hM : CtL l y ws rm X w As post) {host : String} (cw : va_CN R s args own index y host bytes maxL ret ws rm 0 0 n ∧ (Cond.static y).before args s = true ∧ True) (hn : As.length = n) (hst : st = As.reverse ++ rest) (hcat : (rest.map fun v => v.category).sum ≤ 8) (hdg : decode cc pc = .ok (.invokestatic index, 3)) (hf : cells ≤ R.cells ∧ slots ≤ R.slots) (kk : ∀ (r : Int64) (w' : Wd), post r w' → MW p l e R s m args below meth c X nL cells slots Q w' (pc + 3) lv (.long r :: rest)) : MW p l e R s m args below meth c X nL cells slots Q w pc lv st := fun H locs ls h1 h2 h3 => by
  subst hst
  exact va_calll (va_runSN (As := As) (rest := rest) C.1 hM cw (pw_pre C h1 h2 As) rfl hn h3.1 rfl (lv_room hcat) hdg hf) h2 (fun q _ h => h) (fun q h => h) (fun r u t H1 locs1 ht hvm hp hB hz hk hS => kk r u hp H1 locs1 ls (by rw [← ht]; exact hB) hS h3)
theorem pw_callSNv (C : Cx p s m args c cc nL own X) {y : MethodName} {ws : List Cond} {rm : Room} {bytes : ByteArray} {maxL index n : Nat} {ret : Option FieldType} {As rest : List Value} {post : Wd → Prop} (hM : CtV l y ws rm X w As post) {host : String} (cw : va_CN R s args own index y host bytes maxL ret ws rm 0 0 n ∧ (Cond.static y).before args s = true ∧ True) (hn : As.length = n) (hst : st = As.reverse ++ rest) (hcat : (rest.map fun v => v.category).sum ≤ 8) (hdg : decode cc pc = .ok (.invokestatic index, 3)) (hf : cells ≤ R.cells ∧ slots ≤ R.slots) (kk : ∀ w' : Wd, post w' → MW p l e R s m args below meth c X nL cells slots Q w' (pc + 3) lv rest) : MW p l e R s m args below meth c X nL cells slots Q w pc lv st := fun H locs ls h1 h2 h3 => by
  subst hst
  exact va_callv (va_runSN (As := As) (rest := rest) C.1 hM cw (pw_pre C h1 h2 As) rfl hn h3.1 rfl (lv_room hcat) hdg hf) h2 (fun q _ h => h) (fun q h => h) (fun u t H1 locs1 ht hvm hp hB hz hk hS => kk u hp H1 locs1 ls (by rw [← ht]; exact hB) hS h3)
theorem pw_callSNr (C : Cx p s m args c cc nL own X) {y : MethodName} {ws : List Cond} {rm : Room} {bytes : ByteArray} {maxL index n : Nat} {ret : Option FieldType} {As rest : List Value} {g9 i9 : Nat} {post : Wd → Prop} (hM : CtR l y ws rm X w As g9 i9 post) {host : String} (cw : va_CN R s args own index y host bytes maxL ret ws rm 0 0 n ∧ (Cond.static y).before args s = true ∧ True) (hn : As.length = n) (hst : st = As.reverse ++ rest) (hcat : (rest.map fun v => v.category).sum ≤ 8) (hdg : decode cc pc = .ok (.invokestatic index, 3)) (hf : cells ≤ R.cells ∧ slots ≤ R.slots) (kk : ∀ w' : Wd, post w' → MW p l e R s m args below meth c X nL cells slots Q w' (pc + 3) lv (.ref (pw_a X g9 i9) :: rest)) : MW p l e R s m args below meth c X nL cells slots Q w pc lv st := fun H locs ls h1 h2 h3 => by
  subst hst
  exact va_callr (va_runSN (As := As) (rest := rest) C.1 hM cw (pw_pre C h1 h2 As) rfl hn h3.1 rfl (lv_room hcat) hdg hf) h2 (fun q _ h => h) (fun q h => h) (fun u ra t H1 locs1 ht hvm hp hB hz hk hS => by
    obtain ⟨hB1, hB2⟩ := hB
    subst hB1
    exact kk u hp H1 locs1 ls (by rw [← ht]; exact hB2) hS h3)
theorem pw_callVi (C : Cx p s m args c cc nL own X) {y : MethodName} {ws : List Cond} {rm : Room} {bytes : ByteArray} {maxL index n : Nat} {ret : Option FieldType} {As rest : List Value} {g i ci : Nat} {fs : List Value} {q9 : vw_C} {post : Int32 → Wd → Prop} (hM : CtI l y ws rm X w (.ref (pw_a X g i) :: As) post) (hd : pw_d X g i) (hw : w g i = oB ci fs) (hc : vwCl[ci]? = some q9) (cw : CallW R s args own q9.1 index y bytes maxL ret ws rm 0 0 n) (hn : As.length = n) (hst : st = As.reverse ++ .ref (pw_a X g i) :: rest) (hcat : (rest.map fun v => v.category).sum ≤ 8) (hdg : decode cc pc = .ok (.invokevirtual index, 3)) (hf : cells ≤ R.cells ∧ slots ≤ R.slots) (kk : ∀ (r : Int32) (w' : Wd), post r w' → MW p l e R s m args below meth c X nL cells slots Q w' (pc + 3) lv (.int r :: rest)) : MW p l e R s m args below meth c X nL cells slots Q w pc lv st := fun H locs ls h1 h2 h3 => by
  subst hst
  exact va_calli (va_runV (As := As) (rest := rest) C.1 hM cw (pw_preV C h1 h2 hd hw hc As) rfl hn h3.1 rfl (lv_room hcat) hdg hf) h2 (fun q _ h => h) (fun q h => h) (fun r u t H1 locs1 ht hvm hp hB hz hk hS => kk r u hp H1 locs1 ls (by rw [← ht]; exact hB) hS h3)
theorem pw_callVl (C : Cx p s m args c cc nL own X) {y : MethodName} {ws : List Cond} {rm : Room} {bytes : ByteArray} {maxL index n : Nat} {ret : Option FieldType} {As rest : List Value} {g i ci : Nat} {fs : List Value} {q9 : vw_C} {post : Int64 → Wd → Prop} (hM : CtL l y ws rm X w (.ref (pw_a X g i) :: As) post) (hd : pw_d X g i) (hw : w g i = oB ci fs) (hc : vwCl[ci]? = some q9) (cw : CallW R s args own q9.1 index y bytes maxL ret ws rm 0 0 n) (hn : As.length = n) (hst : st = As.reverse ++ .ref (pw_a X g i) :: rest) (hcat : (rest.map fun v => v.category).sum ≤ 8) (hdg : decode cc pc = .ok (.invokevirtual index, 3)) (hf : cells ≤ R.cells ∧ slots ≤ R.slots) (kk : ∀ (r : Int64) (w' : Wd), post r w' → MW p l e R s m args below meth c X nL cells slots Q w' (pc + 3) lv (.long r :: rest)) : MW p l e R s m args below meth c X nL cells slots Q w pc lv st := fun H locs ls h1 h2 h3 => by
  subst hst
  exact va_calll (va_runV (As := As) (rest := rest) C.1 hM cw (pw_preV C h1 h2 hd hw hc As) rfl hn h3.1 rfl (lv_room hcat) hdg hf) h2 (fun q _ h => h) (fun q h => h) (fun r u t H1 locs1 ht hvm hp hB hz hk hS => kk r u hp H1 locs1 ls (by rw [← ht]; exact hB) hS h3)
theorem pw_callVv (C : Cx p s m args c cc nL own X) {y : MethodName} {ws : List Cond} {rm : Room} {bytes : ByteArray} {maxL index n : Nat} {ret : Option FieldType} {As rest : List Value} {g i ci : Nat} {fs : List Value} {q9 : vw_C} {post : Wd → Prop} (hM : CtV l y ws rm X w (.ref (pw_a X g i) :: As) post) (hd : pw_d X g i) (hw : w g i = oB ci fs) (hc : vwCl[ci]? = some q9) (cw : CallW R s args own q9.1 index y bytes maxL ret ws rm 0 0 n) (hn : As.length = n) (hst : st = As.reverse ++ .ref (pw_a X g i) :: rest) (hcat : (rest.map fun v => v.category).sum ≤ 8) (hdg : decode cc pc = .ok (.invokevirtual index, 3)) (hf : cells ≤ R.cells ∧ slots ≤ R.slots) (kk : ∀ w' : Wd, post w' → MW p l e R s m args below meth c X nL cells slots Q w' (pc + 3) lv rest) : MW p l e R s m args below meth c X nL cells slots Q w pc lv st := fun H locs ls h1 h2 h3 => by
  subst hst
  exact va_callv (va_runV (As := As) (rest := rest) C.1 hM cw (pw_preV C h1 h2 hd hw hc As) rfl hn h3.1 rfl (lv_room hcat) hdg hf) h2 (fun q _ h => h) (fun q h => h) (fun u t H1 locs1 ht hvm hp hB hz hk hS => kk u hp H1 locs1 ls (by rw [← ht]; exact hB) hS h3)
theorem pw_callVr (C : Cx p s m args c cc nL own X) {y : MethodName} {ws : List Cond} {rm : Room} {bytes : ByteArray} {maxL index n : Nat} {ret : Option FieldType} {As rest : List Value} {g i ci : Nat} {fs : List Value} {q9 : vw_C} {g9 i9 : Nat} {post : Wd → Prop} (hM : CtR l y ws rm X w (.ref (pw_a X g i) :: As) g9 i9 post) (hd : pw_d X g i) (hw : w g i = oB ci fs) (hc : vwCl[ci]? = some q9) (cw : CallW R s args own q9.1 index y bytes maxL ret ws rm 0 0 n) (hn : As.length = n) (hst : st = As.reverse ++ .ref (pw_a X g i) :: rest) (hcat : (rest.map fun v => v.category).sum ≤ 8) (hdg : decode cc pc = .ok (.invokevirtual index, 3)) (hf : cells ≤ R.cells ∧ slots ≤ R.slots) (kk : ∀ w' : Wd, post w' → MW p l e R s m args below meth c X nL cells slots Q w' (pc + 3) lv (.ref (pw_a X g9 i9) :: rest)) : MW p l e R s m args below meth c X nL cells slots Q w pc lv st := fun H locs ls h1 h2 h3 => by
  subst hst
  exact va_callr (va_runV (As := As) (rest := rest) C.1 hM cw (pw_preV C h1 h2 hd hw hc As) rfl hn h3.1 rfl (lv_room hcat) hdg hf) h2 (fun q _ h => h) (fun q h => h) (fun u ra t H1 locs1 ht hvm hp hB hz hk hS => by
    obtain ⟨hB1, hB2⟩ := hB
    subst hB1
    exact kk u hp H1 locs1 ls (by rw [← ht]; exact hB2) hS h3)
theorem pw_callVNi (C : Cx p s m args c cc nL own X) {y : MethodName} {ws : List Cond} {rm : Room} {bytes : ByteArray} {maxL index n : Nat} {ret : Option FieldType} {As rest : List Value} {g i ci : Nat} {fs : List Value} {q9 : vw_C} {post : Int32 → Wd → Prop} (hM : CtI l y ws rm X w (.ref (pw_a X g i) :: As) post) (hd : pw_d X g i) (hw : w g i = oB ci fs) (hc : vwCl[ci]? = some q9) {host : String} (cw : va_CN R s args own index y host bytes maxL ret ws rm 0 0 n ∧ (Cond.instanceMethod y).before args s = true ∧ (Cond.selects q9.1 y y).before args s = true) (hn : As.length = n) (hst : st = As.reverse ++ .ref (pw_a X g i) :: rest) (hcat : (rest.map fun v => v.category).sum ≤ 8) (hdg : decode cc pc = .ok (.invokevirtual index, 3)) (hf : cells ≤ R.cells ∧ slots ≤ R.slots) (kk : ∀ (r : Int32) (w' : Wd), post r w' → MW p l e R s m args below meth c X nL cells slots Q w' (pc + 3) lv (.int r :: rest)) : MW p l e R s m args below meth c X nL cells slots Q w pc lv st := fun H locs ls h1 h2 h3 => by
  subst hst
  exact va_calli (va_runVN (As := As) (rest := rest) C.1 hM cw (pw_preV C h1 h2 hd hw hc As) rfl hn h3.1 rfl (lv_room hcat) hdg hf) h2 (fun q _ h => h) (fun q h => h) (fun r u t H1 locs1 ht hvm hp hB hz hk hS => kk r u hp H1 locs1 ls (by rw [← ht]; exact hB) hS h3)
theorem pw_callVNl (C : Cx p s m args c cc nL own X) {y : MethodName} {ws : List Cond} {rm : Room} {bytes : ByteArray} {maxL index n : Nat} {ret : Option FieldType} {As rest : List Value} {g i ci : Nat} {fs : List Value} {q9 : vw_C} {post : Int64 → Wd → Prop} (hM : CtL l y ws rm X w (.ref (pw_a X g i) :: As) post) (hd : pw_d X g i) (hw : w g i = oB ci fs) (hc : vwCl[ci]? = some q9) {host : String} (cw : va_CN R s args own index y host bytes maxL ret ws rm 0 0 n ∧ (Cond.instanceMethod y).before args s = true ∧ (Cond.selects q9.1 y y).before args s = true) (hn : As.length = n) (hst : st = As.reverse ++ .ref (pw_a X g i) :: rest) (hcat : (rest.map fun v => v.category).sum ≤ 8) (hdg : decode cc pc = .ok (.invokevirtual index, 3)) (hf : cells ≤ R.cells ∧ slots ≤ R.slots) (kk : ∀ (r : Int64) (w' : Wd), post r w' → MW p l e R s m args below meth c X nL cells slots Q w' (pc + 3) lv (.long r :: rest)) : MW p l e R s m args below meth c X nL cells slots Q w pc lv st := fun H locs ls h1 h2 h3 => by
  subst hst
  exact va_calll (va_runVN (As := As) (rest := rest) C.1 hM cw (pw_preV C h1 h2 hd hw hc As) rfl hn h3.1 rfl (lv_room hcat) hdg hf) h2 (fun q _ h => h) (fun q h => h) (fun r u t H1 locs1 ht hvm hp hB hz hk hS => kk r u hp H1 locs1 ls (by rw [← ht]; exact hB) hS h3)
theorem pw_callVNv (C : Cx p s m args c cc nL own X) {y : MethodName} {ws : List Cond} {rm : Room} {bytes : ByteArray} {maxL index n : Nat} {ret : Option FieldType} {As rest : List Value} {g i ci : Nat} {fs : List Value} {q9 : vw_C} {post : Wd → Prop} (hM : CtV l y ws rm X w (.ref (pw_a X g i) :: As) post) (hd : pw_d X g i) (hw : w g i = oB ci fs) (hc : vwCl[ci]? = some q9) {host : String} (cw : va_CN R s args own index y host bytes maxL ret ws rm 0 0 n ∧ (Cond.instanceMethod y).before args s = true ∧ (Cond.selects q9.1 y y).before args s = true) (hn : As.length = n) (hst : st = As.reverse ++ .ref (pw_a X g i) :: rest) (hcat : (rest.map fun v => v.category).sum ≤ 8) (hdg : decode cc pc = .ok (.invokevirtual index, 3)) (hf : cells ≤ R.cells ∧ slots ≤ R.slots) (kk : ∀ w' : Wd, post w' → MW p l e R s m args below meth c X nL cells slots Q w' (pc + 3) lv rest) : MW p l e R s m args below meth c X nL cells slots Q w pc lv st := fun H locs ls h1 h2 h3 => by
  subst hst
  exact va_callv (va_runVN (As := As) (rest := rest) C.1 hM cw (pw_preV C h1 h2 hd hw hc As) rfl hn h3.1 rfl (lv_room hcat) hdg hf) h2 (fun q _ h => h) (fun q h => h) (fun u t H1 locs1 ht hvm hp hB hz hk hS => kk u hp H1 locs1 ls (by rw [← ht]; exact hB) hS h3)
theorem pw_callVNr (C : Cx p s m args c cc nL own X) {y : MethodName} {ws : List Cond} {rm : Room} {bytes : ByteArray} {maxL index n : Nat} {ret : Option FieldType} {As rest : List Value} {g i ci : Nat} {fs : List Value} {q9 : vw_C} {g9 i9 : Nat} {post : Wd → Prop} (hM : CtR l y ws rm X w (.ref (pw_a X g i) :: As) g9 i9 post) (hd : pw_d X g i) (hw : w g i = oB ci fs) (hc : vwCl[ci]? = some q9) {host : String} (cw : va_CN R s args own index y host bytes maxL ret ws rm 0 0 n ∧ (Cond.instanceMethod y).before args s = true ∧ (Cond.selects q9.1 y y).before args s = true) (hn : As.length = n) (hst : st = As.reverse ++ .ref (pw_a X g i) :: rest) (hcat : (rest.map fun v => v.category).sum ≤ 8) (hdg : decode cc pc = .ok (.invokevirtual index, 3)) (hf : cells ≤ R.cells ∧ slots ≤ R.slots) (kk : ∀ w' : Wd, post w' → MW p l e R s m args below meth c X nL cells slots Q w' (pc + 3) lv (.ref (pw_a X g9 i9) :: rest)) : MW p l e R s m args below meth c X nL cells slots Q w pc lv st := fun H locs ls h1 h2 h3 => by
  subst hst
  exact va_callr (va_runVN (As := As) (rest := rest) C.1 hM cw (pw_preV C h1 h2 hd hw hc As) rfl hn h3.1 rfl (lv_room hcat) hdg hf) h2 (fun q _ h => h) (fun q h => h) (fun u ra t H1 locs1 ht hvm hp hB hz hk hS => by
    obtain ⟨hB1, hB2⟩ := hB
    subst hB1
    exact kk u hp H1 locs1 ls (by rw [← ht]; exact hB2) hS h3)
/-- the words of a call, out of the tables' -/
theorem pw_cb {y : MethodName} {bytes : ByteArray} {maxL index : Nat} {ret : Option FieldType} {rm : Room} (C : Cx p s m args c cc nL own X) (n : Nat) (hc : Cond.code y bytes maxL ret ∈ pw_all) (hini : Cond.initialized y.cls ∈ pw_all) (hl : Cond.methodLink own index y ∈ pw_all) (hrm : rm.cells = 0 ∧ rm.slots = 0) (hd : y.cls ≠ "java/lang/invoke/MethodHandle" ∧ y.cls ≠ "java/lang/invoke/VarHandle" ∧ (parseMethodDescriptor y.desc).map (fun d => d.parameters.length) = some n) (hR : rm.frames + 1 ≤ R.frames ∧ 8 + (maxL + 11) + rm.locals ≤ R.locals) : CallB R s args own index y bytes maxL ret (pw_ws y bytes maxL ret) rm 0 0 n := callB_of n C.1.2.2.2.2 (pw_gws hc) rfl hrm.1 hrm.2 (C.1.2.2.2.2 _ hini) (C.1.2.2.2.2 _ hl) hd hR
theorem pw_cn {y : MethodName} {bytes : ByteArray} {maxL index : Nat} {ret : Option FieldType} {rm : Room} {host : String} (C : Cx p s m args c cc nL own X) (n : Nat) (hc : Cond.code y bytes maxL ret ∈ pw_all) (hini : Cond.initialized y.cls ∈ pw_all) (hl : Cond.methodLinkNest own index y host ∈ pw_nw) (hrm : rm.cells = 0 ∧ rm.slots = 0) (hd : y.cls ≠ "java/lang/invoke/MethodHandle" ∧ y.cls ≠ "java/lang/invoke/VarHandle" ∧ (parseMethodDescriptor y.desc).map (fun d => d.parameters.length) = some n) (hR : rm.frames + 1 ≤ R.frames ∧ 8 + (maxL + 11) + rm.locals ≤ R.locals) : va_CN R s args own index y host bytes maxL ret (pw_ws y bytes maxL ret) rm 0 0 n := va_cnB n C.1.2.2.2.2 (pw_gws hc) rfl hrm.1 hrm.2 (C.2.1.2 _ hl) (C.1.2.2.2.2 _ hini) hd hR
theorem pw_w {w0 : Cond} (C : Cx p s m args c cc nL own X) (h : w0 ∈ pw_all) : w0.before args s = true := C.1.2.2.2.2 _ h
end PW
end
section
/-! BITS. A set of points is a long; bt_f x j: is j in it? -/
def bt_f (x : Int64) (j : Nat) : Bool := x.toBitVec.getLsbD j
theorem bt_ext {x y : Int64} (h : ∀ j, j < 64 → bt_f x j = bt_f y j) : x = y := Int64.toBitVec_inj.mp (BitVec.eq_of_getLsbD_eq (fun j hj => h j hj))
theorem bt_or (x y : Int64) (j : Nat) : bt_f (x ||| y) j = (bt_f x j || bt_f y j) := by
  unfold bt_f; rw [Int64.toBitVec_or, BitVec.getLsbD_or]
theorem bt_and (x y : Int64) (j : Nat) : bt_f (x &&& y) j = (bt_f x j && bt_f y j) := by
  unfold bt_f; rw [Int64.toBitVec_and, BitVec.getLsbD_and]
theorem bt_0 (j : Nat) : bt_f 0 j = false := by
  unfold bt_f; rw [Int64.toBitVec_zero, BitVec.getLsbD_zero]
theorem bt_big {x : Int64} {j : Nat} (h : 64 ≤ j) : bt_f x j = false := BitVec.getLsbD_of_ge _ _ h
theorem bt_lt {x : Int64} {j : Nat} (h : bt_f x j = true) : j < 64 := by
  rcases Nat.lt_or_ge j 64 with q | q
  · exact q
  · rw [bt_big q] at h; cases h
theorem bt_p2 : ∀ k, k < 64 → ((1 : Int64) <<< ((nI k).toInt64 &&& 63)).toBitVec = BitVec.twoPow 64 k := by decide +kernel
theorem bt_bit {k : Nat} (hk : k < 64) (j : Nat) : bt_f ((1 : Int64) <<< ((nI k).toInt64 &&& 63)) j = decide (j = k) := by
  unfold bt_f
  rw [bt_p2 k hk, BitVec.getLsbD_twoPow]
  by_cases h : j = k
  · subst h; simp [hk]
  · simp [h, hk, Ne.symm h]
theorem bt_cu : ∀ k, k < 64 → ((nI k).toInt64.toUInt64 &&& Int64.toUInt64 63).toNat = k := by decide +kernel
theorem bt_hold {x : Int64} {k : Nat} (hk : k < 64) : ((x.toUInt64 >>> ((nI k).toInt64.toUInt64 &&& Int64.toUInt64 63)).toInt64 &&& 1) = 0 ↔ bt_f x k = false := by
  have hs := bt_cu k hk
  generalize (nI k).toInt64.toUInt64 &&& Int64.toUInt64 63 = s at hs ⊢
  have e : (x.toUInt64 >>> s).toInt64.toBitVec = x.toBitVec >>> k := by
    apply BitVec.eq_of_toNat_eq
    show (x.toUInt64 >>> s).toNat = _
    rw [UInt64.toNat_shiftRight, hs, Nat.mod_eq_of_lt hk, BitVec.toNat_ushiftRight]
    rfl
  rw [← Int64.toBitVec_inj, Int64.toBitVec_and, e]
  show x.toBitVec >>> k &&& 1#64 = 0#64 ↔ _
  constructor
  · intro h
    have t := congrArg (fun x => x.getLsbD 0) h
    simpa [bt_f] using t
  · intro h
    apply BitVec.eq_of_getLsbD_eq
    intro j hj
    rcases Nat.eq_zero_or_pos j with q | q
    · subst q
      simpa [bt_f] using h
    · have : (1#64).getLsbD j = false := by
        rw [BitVec.getLsbD_one]; simp; omega
      simp [this]
/-- the least place of a set that isn't empty -/
theorem bt_least {x : Int64} (h : ¬ x = 0) : ∃ k, k < 64 ∧ bt_f x k = true ∧ ∀ j, j < k → bt_f x j = false := by
  have he : ∃ k, bt_f x k = true := by
    rcases Classical.em (∃ k, bt_f x k = true) with q | q
    · exact q
    · exact absurd (bt_ext (fun j _ => by
        rw [bt_0]
        cases hb : bt_f x j with
        | false => rfl
        | true => exact absurd ⟨j, hb⟩ q)) h
  obtain ⟨k, h1, h2⟩ := pk_least (fun k => bt_f x k = true) he
  exact ⟨k, bt_lt h1, h1, fun j hj => by
    cases hb : bt_f x j with
    | false => rfl
    | true => exact absurd hb (h2 j hj)⟩
/-- a number whose lowest bit is k: what it is, and one less -/
theorem nb_low {n k : Nat} (h1 : n.testBit k = true) (h2 : ∀ j, j < k → n.testBit j = false) : ∃ q, n = 2 ^ k * (2 * q + 1) := by
  have h3 : n % 2 ^ k = 0 := by
    apply Nat.eq_of_testBit_eq
    intro j
    rw [Nat.testBit_mod_two_pow, Nat.zero_testBit]
    by_cases hj : j < k
    · simp [h2 j hj]
    · simp [hj]
  have h4 : (n / 2 ^ k) % 2 = 1 := by
    have h5 : (n / 2 ^ k).testBit 0 = true := by rw [Nat.testBit_div_two_pow, Nat.zero_add]; exact h1
    rw [Nat.testBit_zero] at h5
    exact of_decide_eq_true h5
  refine ⟨n / 2 ^ k / 2, ?_⟩
  have h6 : 2 * (n / 2 ^ k / 2) + 1 = n / 2 ^ k := by omega
  rw [h6]
  have h7 := Nat.div_add_mod n (2 ^ k)
  omega
theorem nb_pred {n k : Nat} (h1 : n.testBit k = true) (h2 : ∀ j, j < k → n.testBit j = false) (j : Nat) : (n - 1).testBit j = if j < k then true else if j = k then false else n.testBit j := by
  obtain ⟨q, hq⟩ := nb_low h1 h2
  have hp : 0 < 2 ^ k := Nat.two_pow_pos k
  have e1 : n - 1 = 2 ^ k * (2 * q) + (2 ^ k - 1) := by
    rw [hq, Nat.mul_add, Nat.mul_one]
    omega
  have e2 : n = 2 ^ k * (2 * q + 1) + 0 := by rw [Nat.add_zero]; exact hq
  rw [e1, Nat.testBit_two_pow_mul_add _ (by omega)]
  by_cases hj : j < k
  · simp [hj]
  · rw [if_neg hj, if_neg hj]
    by_cases hk : j = k
    · subst hk
      rw [if_pos rfl, Nat.sub_self, Nat.testBit_zero]
      simp
    · rw [if_neg hk]
      rw [e2, Nat.testBit_two_pow_mul_add _ hp, if_neg hj]
      obtain ⟨d, hd⟩ : ∃ d, j - k = d + 1 := ⟨j - k - 1, by omega⟩
      rw [hd, Nat.testBit_add_one, Nat.testBit_add_one]
      congr 1
      omega
theorem bt_nat (x : Int64) (j : Nat) : x.toBitVec.toNat.testBit j = bt_f x j := rfl
theorem bt_pred {x : Int64} {k : Nat} (h1 : bt_f x k = true) (h2 : ∀ j, j < k → bt_f x j = false) {j : Nat} (hj : j < 64) : bt_f (x - 1) j = if j < k then true else if j = k then false else bt_f x j := by
  have hpos : 0 < x.toBitVec.toNat := by
    rcases Nat.eq_zero_or_pos x.toBitVec.toNat with q | q
    · have := bt_nat x k
      rw [q, Nat.zero_testBit, h1] at this
      cases this
    · exact q
  have e : (x - 1).toBitVec.toNat = x.toBitVec.toNat - 1 := by
    rw [Int64.toBitVec_sub, Int64.toBitVec_one, BitVec.toNat_sub]
    have hl := x.toBitVec.isLt
    have h1' : (1#64).toNat = 1 := rfl
    rw [h1']
    omega
  rw [← bt_nat, e, nb_pred (n := x.toBitVec.toNat) (k := k) h1 h2]
  rfl
/-- the lowest bit goes -/
theorem bt_clear {x : Int64} {k : Nat} (h1 : bt_f x k = true) (h2 : ∀ j, j < k → bt_f x j = false) {j : Nat} (hj : j < 64) : bt_f (x &&& (x - 1)) j = (bt_f x j && decide (k < j)) := by
  rw [bt_and, bt_pred h1 h2 hj]
  by_cases q : j < k
  · rw [h2 j q]; simp
  · by_cases q2 : j = k
    · subst q2; simp
    · have : k < j := by omega
      simp [q, q2, this]
end
section
/-! TRAILING ZEROS: what the JDK's way computes -/
def b3_f (x : Int32) (j : Nat) : Bool := x.toBitVec.getLsbD j
theorem b3_nat (x : Int32) (j : Nat) : x.toBitVec.toNat.testBit j = b3_f x j := rfl
theorem b3_m1 : (-1 : Int32).toBitVec = BitVec.allOnes 32 := by decide +kernel
theorem b3_pred {x : Int32} {k : Nat} (h1 : b3_f x k = true) (h2 : ∀ j, j < k → b3_f x j = false) (j : Nat) : b3_f (x - 1) j = if j < k then true else if j = k then false else b3_f x j := by
  have hpos : 0 < x.toBitVec.toNat := by
    rcases Nat.eq_zero_or_pos x.toBitVec.toNat with q | q
    · have := b3_nat x k
      rw [q, Nat.zero_testBit, h1] at this
      cases this
    · exact q
  have e : (x - 1).toBitVec.toNat = x.toBitVec.toNat - 1 := by
    rw [Int32.toBitVec_sub, Int32.toBitVec_one, BitVec.toNat_sub]
    have hl := x.toBitVec.isLt
    have h1' : (1#32).toNat = 1 := rfl
    rw [h1']
    omega
  rw [← b3_nat, e, nb_pred (n := x.toBitVec.toNat) (k := k) h1 h2]
  rfl
theorem b3_low {x : Int32} {k : Nat} (hk : k < 32) (h1 : b3_f x k = true) (h2 : ∀ j, j < k → b3_f x j = false) : (x ^^^ (-1)) &&& (x - 1) = nI (2 ^ k - 1) := by
  apply Int32.toBitVec_inj.mp
  apply BitVec.eq_of_getLsbD_eq
  intro j hj
  rw [Int32.toBitVec_and, Int32.toBitVec_xor, b3_m1, BitVec.getLsbD_and, BitVec.getLsbD_xor, BitVec.getLsbD_allOnes]
  have hp := b3_pred h1 h2 j
  unfold b3_f at hp h1 h2
  rw [hp]
  show _ = (BitVec.ofNat 32 (2 ^ k - 1)).getLsbD j
  rw [BitVec.getLsbD_ofNat, Nat.testBit_two_pow_sub_one]
  by_cases q : j < k
  · rw [h2 j q]; simp [q, hj]
  · by_cases q2 : j = k
    · subst q2
      simp
    · simp [q, q2, hj]
theorem b3_zero {x : Int32} (h : ∀ j, j < 32 → b3_f x j = false) : x = 0 := by
  apply Int32.toBitVec_inj.mp
  apply BitVec.eq_of_getLsbD_eq
  intro j hj
  rw [Int32.toBitVec_zero, BitVec.getLsbD_zero]
  exact h j hj
theorem nz_pos : ∀ k, k < 32 → (nI (2 ^ k - 1) ≤ 0 ↔ k = 0) := by decide +kernel
theorem nz_16 : ∀ k, k < 32 → (nI (2 ^ k - 1) ≤ 65536 ↔ k ≤ 16) := by decide +kernel
theorem nz_8 : ∀ k, k < 32 → (nI (2 ^ k - 1) ≤ 256 ↔ k ≤ 8) := by decide +kernel
theorem nz_4 : ∀ k, k < 32 → (nI (2 ^ k - 1) ≤ 16 ↔ k ≤ 4) := by decide +kernel
theorem nz_2 : ∀ k, k < 32 → (nI (2 ^ k - 1) ≤ 4 ↔ k ≤ 2) := by decide +kernel
theorem nz_s16 : ∀ k, k < 32 → 16 ≤ k → ((nI (2 ^ k - 1)).toUInt32 >>> ((16 : Int32).toUInt32 &&& Int32.toUInt32 31)).toInt32 = nI (2 ^ (k - 16) - 1) := by decide +kernel
theorem nz_s8 : ∀ k, k < 32 → 8 ≤ k → ((nI (2 ^ k - 1)).toUInt32 >>> ((8 : Int32).toUInt32 &&& Int32.toUInt32 31)).toInt32 = nI (2 ^ (k - 8) - 1) := by decide +kernel
theorem nz_s4 : ∀ k, k < 32 → 4 ≤ k → ((nI (2 ^ k - 1)).toUInt32 >>> ((4 : Int32).toUInt32 &&& Int32.toUInt32 31)).toInt32 = nI (2 ^ (k - 4) - 1) := by decide +kernel
theorem nz_s2 : ∀ k, k < 32 → 2 ≤ k → ((nI (2 ^ k - 1)).toUInt32 >>> ((2 : Int32).toUInt32 &&& Int32.toUInt32 31)).toInt32 = nI (2 ^ (k - 2) - 1) := by decide +kernel
theorem nz_s1 : ∀ k, k < 3 → 1 ≤ k → ((nI (2 ^ k - 1)).toUInt32 >>> ((1 : Int32).toUInt32 &&& Int32.toUInt32 31)).toInt32 = nI (k - 1) := by decide +kernel
/-- a long's halves -/
theorem b3_lo (x : Int64) {j : Nat} (hj : j < 32) : b3_f x.toInt32 j = bt_f x j := by
  unfold b3_f bt_f
  show (x.toBitVec.signExtend 32).getLsbD j = _
  rw [BitVec.getLsbD_signExtend]
  simp [hj]
  intro h
  omega
theorem b3_cu32 : ((32 : Int32).toInt64.toUInt64 &&& Int64.toUInt64 63).toNat = 32 := by decide +kernel
theorem b3_hi (x : Int64) {j : Nat} (hj : j < 32) : b3_f (x.toUInt64 >>> ((32 : Int32).toInt64.toUInt64 &&& Int64.toUInt64 63)).toInt64.toInt32 j = bt_f x (32 + j) := by
  rw [b3_lo _ hj]
  have hs := b3_cu32
  generalize (32 : Int32).toInt64.toUInt64 &&& Int64.toUInt64 63 = s at hs ⊢
  have e : (x.toUInt64 >>> s).toInt64.toBitVec = x.toBitVec >>> 32 := by
    apply BitVec.eq_of_toNat_eq
    show (x.toUInt64 >>> s).toNat = _
    rw [UInt64.toNat_shiftRight, hs, Nat.mod_eq_of_lt (by decide), BitVec.toNat_ushiftRight]
    rfl
  unfold bt_f
  rw [e, BitVec.getLsbD_ushiftRight]
end
section
/-! CLOSURES. wz_f r z: ways whose inner points are all below z -/
def wz_f (r : Nat → Nat → Bool) : Nat → Nat → Nat → Bool
  | 0 => r
  | z + 1 => fun x y => wz_f r z x y || (wz_f r z x z && wz_f r z z y)
theorem wz_col (r : Nat → Nat → Bool) (z x : Nat) : wz_f r (z + 1) x z = wz_f r z x z := by
  show (wz_f r z x z || (wz_f r z x z && wz_f r z z z)) = _
  cases wz_f r z x z <;> simp
theorem wz_row (r : Nat → Nat → Bool) (z y : Nat) : wz_f r (z + 1) z y = wz_f r z z y := by
  show (wz_f r z z y || (wz_f r z z z && wz_f r z z y)) = _
  cases wz_f r z z y <;> simp
theorem wz_mono (r : Nat → Nat → Bool) {z x y : Nat} (h : wz_f r z x y = true) : wz_f r (z + 1) x y = true := by
  show (wz_f r z x y || _) = true
  rw [h, Bool.true_or]
theorem wz_le (r : Nat → Nat → Bool) {a b x y : Nat} (hab : a ≤ b) (h : wz_f r a x y = true) : wz_f r b x y = true := by
  induction b with
  | zero => rw [show a = 0 by omega] at h; exact h
  | succ b ih =>
    rcases Nat.lt_or_ge b a with q | q
    · rw [show a = b + 1 by omega] at h; exact h
    · exact wz_mono r (ih q)
theorem wz_trans (r : Nat → Nat → Bool) : ∀ (z m x y : Nat), m < z → wz_f r z x m = true → wz_f r z m y = true → wz_f r z x y = true
  | 0, m, x, y, hm, _, _ => absurd hm (Nat.not_lt_zero m)
  | z + 1, m, x, y, hm, h1, h2 => by
    by_cases e : m = z
    · subst e
      rw [wz_col] at h1
      rw [wz_row] at h2
      show (wz_f r m x y || (wz_f r m x m && wz_f r m m y)) = true
      rw [h1, h2]; simp
    · have hlt : m < z := by omega
      have ih := wz_trans r z m
      have g1 : wz_f r z x m = true ∨ (wz_f r z x z = true ∧ wz_f r z z m = true) := by
        have : (wz_f r z x m || (wz_f r z x z && wz_f r z z m)) = true := h1
        simpa using this
      have g2 : wz_f r z m y = true ∨ (wz_f r z m z = true ∧ wz_f r z z y = true) := by
        have : (wz_f r z m y || (wz_f r z m z && wz_f r z z y)) = true := h2
        simpa using this
      show (wz_f r z x y || (wz_f r z x z && wz_f r z z y)) = true
      rcases g1 with a | ⟨a, b⟩ <;> rcases g2 with c | ⟨c, d⟩
      · rw [ih x y hlt a c]; simp
      · rw [ih x z hlt a c, d]; simp
      · rw [a, ih z y hlt b c]; simp
      · rw [a, d]; simp
/-- all points below n: the whole closure -/
theorem wz_iff (r : Nat → Nat → Bool) (n : Nat) (hn : ∀ x y, r x y = true → x < n ∧ y < n) (x y : Nat) : wz_f r n x y = true ↔ Relation.TransGen (fun a b => r a b = true) x y := by
  constructor
  · have go : ∀ (z x y : Nat), wz_f r z x y = true → Relation.TransGen (fun a b => r a b = true) x y := by
      intro z
      induction z with
      | zero => exact fun x y h => .single h
      | succ z ih =>
        intro x y h
        have : (wz_f r z x y || (wz_f r z x z && wz_f r z z y)) = true := h
        rcases (by simpa using this : wz_f r z x y = true ∨ (wz_f r z x z = true ∧ wz_f r z z y = true)) with a | ⟨a, b⟩
        · exact ih x y a
        · exact (ih x z a).trans (ih z y b)
    exact go n x y
  · intro h
    induction h with
    | single h => exact wz_le r (Nat.zero_le n) h
    | tail h1 h2 ih => exact wz_trans r n _ _ _ (hn _ _ h2).1 ih (wz_le r (Nat.zero_le n) h2)
end
section
/-! SUMS up to 10^15 -/
def C15 : Nat := 1000000000000000
def cp_f (n : Nat) : Nat := if n < C15 then n else C15
def sg_f (f : Nat → Nat) : Nat → Nat
  | 0 => 0
  | n + 1 => sg_f f n + f n
theorem cp_le (n : Nat) : cp_f n ≤ C15 := by unfold cp_f; split <;> omega
theorem cp_id {n : Nat} (h : n ≤ C15) : cp_f n = n := by unfold cp_f; split <;> omega
theorem cp_big {n : Nat} (h : C15 ≤ n) : cp_f n = C15 := by unfold cp_f; split <;> omega
theorem cp_cp (n : Nat) : cp_f (cp_f n) = cp_f n := cp_id (cp_le n)
theorem cp_add (a b : Nat) : cp_f (cp_f a + b) = cp_f (a + b) := by
  rcases Nat.lt_or_ge a C15 with h | h
  · rw [cp_id (Nat.le_of_lt h)]
  · rw [cp_big h, cp_big (show C15 ≤ C15 + b by omega), cp_big (show C15 ≤ a + b by omega)]
theorem cp_add' (a b : Nat) : cp_f (a + cp_f b) = cp_f (a + b) := by rw [Nat.add_comm, cp_add, Nat.add_comm]
theorem cp_mul (a s c : Nat) : cp_f (a + cp_f s * c) = cp_f (a + s * c) := by
  rcases Nat.lt_or_ge s C15 with h | h
  · rw [cp_id (Nat.le_of_lt h)]
  · rw [cp_big h]
    rcases Nat.eq_zero_or_pos c with q | q
    · subst q; simp
    · have h1 : C15 * 1 ≤ C15 * c := Nat.mul_le_mul_left _ q
      have h2 : C15 * c ≤ s * c := Nat.mul_le_mul_right _ h
      rw [cp_big (show C15 ≤ a + C15 * c by omega), cp_big (show C15 ≤ a + s * c by omega)]
theorem sg_congr {f g : Nat → Nat} : ∀ {n : Nat}, (∀ i, i < n → f i = g i) → sg_f f n = sg_f g n
  | 0, _ => rfl
  | n + 1, h => by
    show sg_f f n + f n = sg_f g n + g n
    rw [sg_congr (fun i hi => h i (by omega)), h n (by omega)]
theorem sg_add (f g : Nat → Nat) : ∀ n : Nat, sg_f (fun i => f i + g i) n = sg_f f n + sg_f g n
  | 0 => rfl
  | n + 1 => by
    show sg_f (fun i => f i + g i) n + (f n + g n) = sg_f f n + f n + (sg_f g n + g n)
    rw [sg_add f g n]; omega
theorem sg_mul (c : Nat) (f : Nat → Nat) : ∀ n : Nat, sg_f (fun i => c * f i) n = c * sg_f f n
  | 0 => rfl
  | n + 1 => by
    show sg_f (fun i => c * f i) n + c * f n = c * (sg_f f n + f n)
    rw [sg_mul c f n, Nat.mul_add]
theorem sg_mulr (c : Nat) (f : Nat → Nat) (n : Nat) : sg_f (fun i => f i * c) n = sg_f f n * c := by
  rw [Nat.mul_comm, ← sg_mul]
  exact sg_congr (fun i _ => Nat.mul_comm _ _)
theorem sg_zero (n : Nat) : sg_f (fun _ => 0) n = 0 := by
  induction n with
  | zero => rfl
  | succ n ih => show sg_f (fun _ => 0) n + 0 = 0; rw [ih]
theorem sg_swap (f : Nat → Nat → Nat) (m : Nat) : ∀ n : Nat, sg_f (fun i => sg_f (fun j => f i j) m) n = sg_f (fun j => sg_f (fun i => f i j) n) m
  | 0 => by show 0 = sg_f (fun _ => 0) m; rw [sg_zero]
  | n + 1 => by
    show sg_f (fun i => sg_f (fun j => f i j) m) n + sg_f (fun j => f n j) m = sg_f (fun j => sg_f (fun i => f i j) n + f n j) m
    rw [sg_swap f m n, ← sg_add]
/-- one place alone -/
theorem sg_one (f : Nat → Nat) {n k : Nat} (hk : k < n) (h : ∀ i, i < n → i ≠ k → f i = 0) : sg_f f n = f k := by
  induction n with
  | zero => exact absurd hk (Nat.not_lt_zero k)
  | succ n ih =>
    show sg_f f n + f n = f k
    by_cases e : k = n
    · subst e
      have : sg_f f k = sg_f (fun _ => 0) k := sg_congr (fun i hi => h i (by omega) (by omega))
      rw [this, sg_zero, Nat.zero_add]
    · rw [ih (by omega) (fun i hi hne => h i (by omega) hne), h n (by omega) (fun q => e q.symm), Nat.add_zero]
theorem cp_sg (f g : Nat → Nat) (a : Nat) (n : Nat) : cp_f (a + sg_f (fun i => cp_f (f i) * g i) n) = cp_f (a + sg_f (fun i => f i * g i) n) := by
  induction n generalizing a with
  | zero => rfl
  | succ n ih =>
    show cp_f (a + (sg_f (fun i => cp_f (f i) * g i) n + cp_f (f n) * g n)) = cp_f (a + (sg_f (fun i => f i * g i) n + f n * g n))
    have e1 : a + (sg_f (fun i => cp_f (f i) * g i) n + cp_f (f n) * g n) = (a + sg_f (fun i => cp_f (f i) * g i) n) + cp_f (f n) * g n := by omega
    have e2 : a + (sg_f (fun i => f i * g i) n + f n * g n) = (a + f n * g n) + sg_f (fun i => f i * g i) n := by omega
    have e3 : (a + sg_f (fun i => cp_f (f i) * g i) n) + f n * g n = (a + f n * g n) + sg_f (fun i => cp_f (f i) * g i) n := by omega
    rw [e1, cp_mul, e3, ih, e2]
theorem lc_lt (x y : Int64) : lg_cmp x y < 0 ↔ x < y := by
  unfold lg_cmp
  split
  · rename_i h
    constructor
    · intro q; exact absurd q (by decide)
    · intro q
      have := Int64.lt_iff_toInt_lt.mp q
      have := Int64.lt_iff_toInt_lt.mp h
      omega
  · split
    · rename_i h1 h2
      subst h2
      constructor
      · intro q; exact absurd q (by decide)
      · intro q; exact absurd q h1
    · rename_i h1 h2
      constructor
      · intro _
        have a : ¬ y.toInt < x.toInt := fun q => h1 (Int64.lt_iff_toInt_lt.mpr q)
        have b : ¬ x.toInt = y.toInt := fun q => h2 (Int64.toInt_inj.mp q)
        exact Int64.lt_iff_toInt_lt.mpr (by omega)
      · intro _; decide
theorem lc_eq (x y : Int64) : lg_cmp x y = 0 ↔ x = y := by
  unfold lg_cmp
  split
  · rename_i h
    constructor
    · intro q; exact absurd q (by decide)
    · intro q
      subst q
      have := Int64.lt_iff_toInt_lt.mp h
      omega
  · split
    · rename_i h2
      exact ⟨fun _ => h2, fun _ => rfl⟩
    · rename_i h1 h2
      constructor
      · intro q; exact absurd q (by decide)
      · intro q; exact absurd q h2
theorem lc_ge (x y : Int64) : 0 ≤ lg_cmp x y ↔ ¬ x < y := by
  rw [← lc_lt, Int32.not_lt]
end
section
/-! HOW MANY BITS: the JDK's way, byte by byte -/
def pq_m (c : Nat) : Nat → Nat
  | 0 => 0
  | n + 1 => c + 256 * pq_m c n
def pq_b (f : Nat → Nat) : Nat → Nat → Nat
  | 0, _ => 0
  | n + 1, x => f (x % 256) + 256 * pq_b f n (x / 256)
theorem an_split (p q : Nat) : p &&& q = ((p % 256) &&& (q % 256)) + 256 * ((p / 256) &&& (q / 256)) := by
  have h1 : (p &&& q) % 2 ^ 8 = (p % 2 ^ 8) &&& (q % 2 ^ 8) := Nat.and_mod_two_pow
  have h2 : (p &&& q) / 2 ^ 8 = (p / 2 ^ 8) &&& (q / 2 ^ 8) := Nat.and_div_two_pow
  have h3 := Nat.div_add_mod (p &&& q) 256
  rw [show (2 : Nat) ^ 8 = 256 from rfl] at h1 h2
  rw [← h1, ← h2]
  omega
theorem mk_mod {c n : Nat} (hc : c < 256) : pq_m c (n + 1) % 256 = c := by
  show (c + 256 * pq_m c n) % 256 = c
  omega
theorem mk_div {c n : Nat} (hc : c < 256) : pq_m c (n + 1) / 256 = pq_m c n := by
  show (c + 256 * pq_m c n) / 256 = pq_m c n
  omega
def pq_1 (b : Nat) : Nat := b - ((b / 2) &&& 85)
def pq_2 (b : Nat) : Nat := (b &&& 51) + ((b / 4) &&& 51)
def pq_3 (b : Nat) : Nat := (b + b / 16) &&& 15
theorem f1_a : ∀ b, b < 256 → ∀ e, e < 2 → ((b / 2 + 128 * e) &&& 85) = (b / 2) &&& 85 := by decide +kernel
theorem f1_b : ∀ b, b < 256 → (b / 2) &&& 85 ≤ b := by decide +kernel
theorem f2_a : ∀ b, b < 256 → ∀ e, e < 4 → ((b / 4 + 64 * e) &&& 51) = (b / 4) &&& 51 := by decide +kernel
theorem st1 : ∀ (n x : Nat), x - ((x / 2) &&& pq_m 85 n) = pq_b pq_1 n x + (x - x % 256 ^ n)
  | 0, x => by simp [pq_m, pq_b, Nat.mod_one]
  | n + 1, x => by
    have ih := st1 n (x / 256)
    have hb : x % 256 < 256 := Nat.mod_lt _ (by decide)
    have e1 : (x / 2) % 256 = (x % 256) / 2 + 128 * ((x / 256) % 2) := by omega
    have e2 : (x / 2) / 256 = (x / 256) / 2 := by omega
    rw [an_split (x / 2), mk_mod (by decide), mk_div (by decide), e1, e2, f1_a _ hb _ (Nat.mod_lt _ (by decide))]
    have h1 := f1_b _ hb
    have h2 : (x / 256 / 2) &&& pq_m 85 n ≤ x / 256 / 2 := Nat.and_le_left
    have h3 : pq_b pq_1 (n + 1) x = pq_1 (x % 256) + 256 * pq_b pq_1 n (x / 256) := rfl
    have h4 : pq_1 (x % 256) = x % 256 - ((x % 256) / 2 &&& 85) := rfl
    have h5 : x % 256 ^ (n + 1) = x % 256 + 256 * ((x / 256) % 256 ^ n) := by
      rw [Nat.pow_succ, Nat.mul_comm, Nat.mod_mul]
    have h6 : (x / 256) % 256 ^ n ≤ x / 256 := Nat.mod_le _ _
    have h7 := Nat.div_add_mod x 256
    rw [h3, h4, h5]
    omega
theorem st2 : ∀ (n x : Nat), (x &&& pq_m 51 n) + ((x / 4) &&& pq_m 51 n) = pq_b pq_2 n x
  | 0, x => by simp [pq_m, pq_b]
  | n + 1, x => by
    have ih := st2 n (x / 256)
    have hb : x % 256 < 256 := Nat.mod_lt _ (by decide)
    have e1 : (x / 4) % 256 = (x % 256) / 4 + 64 * ((x / 256) % 4) := by omega
    have e2 : (x / 4) / 256 = (x / 256) / 4 := by omega
    rw [an_split x, an_split (x / 4), mk_mod (by decide), mk_div (by decide), e1, e2, f2_a _ hb _ (Nat.mod_lt _ (by decide))]
    have h3 : pq_b pq_2 (n + 1) x = pq_2 (x % 256) + 256 * pq_b pq_2 n (x / 256) := rfl
    have h4 : pq_2 (x % 256) = (x % 256 &&& 51) + ((x % 256) / 4 &&& 51) := rfl
    rw [h3, h4]
    omega
/-- every half byte is 4 at most -/
def pq_n : Nat → Nat → Prop
  | 0, x => x = 0
  | n + 1, x => x % 16 ≤ 4 ∧ x / 16 % 16 ≤ 4 ∧ pq_n n (x / 256)
theorem f3_a : ∀ b, b < 256 → ∀ e, e < 16 → ((b + b / 16 + 16 * e) &&& 15) = (b + b / 16) &&& 15 := by decide +kernel
theorem st3 : ∀ (n x : Nat), pq_n n x → (x + x / 16) &&& pq_m 15 n = pq_b pq_3 n x
  | 0, x, _ => by simp [pq_m, pq_b]
  | n + 1, x, h => by
    obtain ⟨h1, h2, h3⟩ := h
    have ih := st3 n (x / 256) h3
    have hb : x % 256 < 256 := Nat.mod_lt _ (by decide)
    have ht : x / 256 % 16 ≤ 4 := by
      cases n with
      | zero => rw [show x / 256 = 0 from h3]; decide
      | succ n => exact h3.1
    have q1 : x / 16 = x / 16 % 16 + 16 * (x / 256) := by omega
    have q2 : x % 256 = x % 16 + 16 * (x / 16 % 16) := by omega
    have q3 : x % 256 / 16 = x / 16 % 16 := by omega
    have q4 : x = x % 16 + 16 * (x / 16 % 16) + 256 * (x / 256) := by omega
    have q5 : x / 256 = x / 256 % 16 + 16 * (x / 256 / 16) := by omega
    have e0 : x + x / 16 = (x % 16 + 17 * (x / 16 % 16) + 16 * (x / 256 % 16)) + 256 * (x / 256 + x / 256 / 16) := by
      generalize x / 16 % 16 = b at q1 q2 q3 q4 h2
      generalize x % 16 = a at q2 q4 h1
      generalize x / 256 % 16 = t at q5 ht
      generalize x / 256 / 16 = v at q5
      generalize x / 256 = u at q1 q4 q5
      omega
    have e1 : (x + x / 16) % 256 = x % 256 + (x % 256) / 16 + 16 * (x / 256 % 16) := by
      rw [e0, q3, q2]
      generalize x / 16 % 16 = b at h2
      generalize x % 16 = a at h1
      generalize x / 256 % 16 = t at ht
      generalize x / 256 + x / 256 / 16 = v
      omega
    have e2 : (x + x / 16) / 256 = x / 256 + x / 256 / 16 := by
      rw [e0]
      generalize x / 16 % 16 = b at h2
      generalize x % 16 = a at h1
      generalize x / 256 % 16 = t at ht
      generalize x / 256 + x / 256 / 16 = v
      omega
    rw [an_split (x + x / 16), mk_mod (by decide), mk_div (by decide), e1, e2, f3_a _ hb _ (Nat.mod_lt _ (by decide)), ih]
    rfl
theorem bm_lt {f : Nat → Nat} (hf : ∀ b, b < 256 → f b < 256) : ∀ (n x : Nat), pq_b f n x < 256 ^ n
  | 0, x => by simp [pq_b]
  | n + 1, x => by
    have h1 := bm_lt hf n (x / 256)
    have h2 := hf (x % 256) (Nat.mod_lt _ (by decide))
    have h3 : pq_b f (n + 1) x = f (x % 256) + 256 * pq_b f n (x / 256) := rfl
    rw [h3, Nat.pow_succ]
    omega
theorem bm_bm {f g : Nat → Nat} (hf : ∀ b, b < 256 → f b < 256) : ∀ (n x : Nat), pq_b g n (pq_b f n x) = pq_b (fun b => g (f b)) n x
  | 0, x => rfl
  | n + 1, x => by
    have h2 := hf (x % 256) (Nat.mod_lt _ (by decide))
    have h3 : pq_b f (n + 1) x = f (x % 256) + 256 * pq_b f n (x / 256) := rfl
    have e1 : pq_b f (n + 1) x % 256 = f (x % 256) := by rw [h3]; omega
    have e2 : pq_b f (n + 1) x / 256 = pq_b f n (x / 256) := by rw [h3]; omega
    show g (pq_b f (n + 1) x % 256) + 256 * pq_b g n (pq_b f (n + 1) x / 256) = g (f (x % 256)) + 256 * pq_b (fun b => g (f b)) n (x / 256)
    rw [e1, e2, bm_bm hf n (x / 256)]
theorem f12_n : ∀ b, b < 256 → pq_2 (pq_1 b) % 16 ≤ 4 ∧ pq_2 (pq_1 b) / 16 % 16 ≤ 4 ∧ pq_2 (pq_1 b) < 256 := by decide +kernel
theorem nib_bm : ∀ (n x : Nat), pq_n n (pq_b (fun b => pq_2 (pq_1 b)) n x)
  | 0, _ => rfl
  | n + 1, x => by
    obtain ⟨h1, h2, h4⟩ := f12_n (x % 256) (Nat.mod_lt _ (by decide))
    have ih := nib_bm n (x / 256)
    have h3 : pq_b (fun b => pq_2 (pq_1 b)) (n + 1) x = pq_2 (pq_1 (x % 256)) + 256 * pq_b (fun b => pq_2 (pq_1 b)) n (x / 256) := rfl
    generalize pq_b (fun b => pq_2 (pq_1 b)) n (x / 256) = y at ih h3
    refine ⟨by rw [h3]; omega, by rw [h3]; omega, ?_⟩
    have e : pq_b (fun b => pq_2 (pq_1 b)) (n + 1) x / 256 = y := by rw [h3]; omega
    rw [e]
    exact ih
def pq_8 (b : Nat) : Nat := sg_f (fun j => if b.testBit j then 1 else 0) 8
theorem f123 : ∀ b, b < 256 → pq_3 (pq_2 (pq_1 b)) = pq_8 b ∧ pq_8 b ≤ 8 := by decide +kernel
theorem f1_lt : ∀ b, b < 256 → pq_1 b < 256 := by decide +kernel
theorem bm_congr {f g : Nat → Nat} (h : ∀ b, b < 256 → f b = g b) : ∀ (n x : Nat), pq_b f n x = pq_b g n x
  | 0, _ => rfl
  | n + 1, x => by
    show f (x % 256) + 256 * pq_b f n (x / 256) = g (x % 256) + 256 * pq_b g n (x / 256)
    rw [h _ (Nat.mod_lt _ (by decide)), bm_congr h n]
/-- the first three steps: each byte's count in its byte -/
theorem st123 {x y z : Nat} (hx : x < 256 ^ 8) (hy : y = x - ((x / 2) &&& pq_m 85 8)) (hz : z = (y &&& pq_m 51 8) + ((y / 4) &&& pq_m 51 8)) : (z + z / 16) &&& pq_m 15 8 = pq_b pq_8 8 x := by
  have e1 : y = pq_b pq_1 8 x := by
    rw [hy, st1 8 x, Nat.mod_eq_of_lt hx, Nat.sub_self, Nat.add_zero]
  have e2 : z = pq_b (fun b => pq_2 (pq_1 b)) 8 x := by
    rw [hz, st2 8 y, e1, bm_bm f1_lt]
  rw [st3 8 z (by rw [e2]; exact nib_bm 8 x), e2, bm_bm (fun b hb => (f12_n b hb).2.2)]
  exact bm_congr (fun b hb => (f123 b hb).1) 8 x
theorem sg_split (f : Nat → Nat) (a : Nat) : ∀ b : Nat, sg_f f (a + b) = sg_f f a + sg_f (fun i => f (a + i)) b
  | 0 => by simp [sg_f]
  | b + 1 => by
    show sg_f f (a + b) + f (a + b) = sg_f f a + (sg_f (fun i => f (a + i)) b + f (a + b))
    rw [sg_split f a b]; omega
/-- the sum of the bytes' counts is the count -/
def pq_s : Nat → Nat → Nat
  | 0, _ => 0
  | n + 1, x => pq_8 (x % 256) + pq_s n (x / 256)
theorem bs_eq : ∀ (n x : Nat), pq_s n x = sg_f (fun j => if x.testBit j then 1 else 0) (8 * n)
  | 0, _ => rfl
  | n + 1, x => by
    have ih := bs_eq n (x / 256)
    show pq_8 (x % 256) + pq_s n (x / 256) = _
    rw [ih, show 8 * (n + 1) = 8 + 8 * n by omega, sg_split]
    congr 1
    · unfold pq_8
      refine sg_congr (fun i hi => ?_)
      have : (x % 256).testBit i = x.testBit i := by
        rw [show (256 : Nat) = 2 ^ 8 from rfl, Nat.testBit_mod_two_pow]
        simp [hi]
      rw [this]
    · refine sg_congr (fun i _ => ?_)
      have : (x / 256).testBit i = x.testBit (8 + i) := by
        rw [show (256 : Nat) = 2 ^ 8 from rfl, Nat.testBit_div_two_pow, Nat.add_comm]
      rw [this]
theorem p8_le {b : Nat} (h : b < 256) : pq_8 b ≤ 8 := (f123 b h).2
theorem st_div {t m : Nat} (r : Nat) (h : t < m) : (t + m * r) / m = r := by
  rw [Nat.add_mul_div_left _ _ (by omega), Nat.div_eq_of_lt h, Nat.zero_add]
theorem st_mod {t m : Nat} (r : Nat) (h : t < m) : (t + m * r) % m = t := by
  rw [Nat.add_mul_mod_self_left, Nat.mod_eq_of_lt h]
theorem st_e1 (c0 c1 c2 c3 c4 c5 c6 c7 : Nat) : (c0 + 256 * (c1 + 256 * (c2 + 256 * (c3 + 256 * (c4 + 256 * (c5 + 256 * (c6 + 256 * (c7 + 256 * 0)))))))) + (c1 + 256 * (c2 + 256 * (c3 + 256 * (c4 + 256 * (c5 + 256 * (c6 + 256 * (c7 + 256 * 0))))))) = (c0 + c1 + 256 * (c1 + c2)) + 65536 * ((c2 + c3) + 256 * (c3 + c4) + 65536 * (c4 + c5) + 16777216 * (c5 + c6) + 4294967296 * (c6 + c7) + 1099511627776 * c7) := by omega
theorem st_e2 (c0 c1 c2 c3 c4 c5 c6 c7 : Nat) : (c0 + c1 + 256 * (c1 + c2)) + 65536 * ((c2 + c3) + 256 * (c3 + c4) + 65536 * (c4 + c5) + 16777216 * (c5 + c6) + 4294967296 * (c6 + c7) + 1099511627776 * c7) + ((c2 + c3) + 256 * (c3 + c4) + 65536 * (c4 + c5) + 16777216 * (c5 + c6) + 4294967296 * (c6 + c7) + 1099511627776 * c7) = (c0 + c1 + c2 + c3 + 256 * (c1 + c2 + c3 + c4) + 65536 * (c2 + c3 + c4 + c5) + 16777216 * (c3 + c4 + c5 + c6)) + 4294967296 * ((c4 + c5 + c6 + c7) + 256 * (c5 + c6 + c7) + 65536 * (c6 + c7) + 16777216 * c7) := by omega
theorem st_e3 (c0 c1 c2 c3 c4 c5 c6 c7 : Nat) : (c0 + c1 + c2 + c3 + 256 * (c1 + c2 + c3 + c4) + 65536 * (c2 + c3 + c4 + c5) + 16777216 * (c3 + c4 + c5 + c6)) + 4294967296 * ((c4 + c5 + c6 + c7) + 256 * (c5 + c6 + c7) + 65536 * (c6 + c7) + 16777216 * c7) + ((c4 + c5 + c6 + c7) + 256 * (c5 + c6 + c7) + 65536 * (c6 + c7) + 16777216 * c7) = (c0 + (c1 + (c2 + (c3 + (c4 + (c5 + (c6 + (c7 + 0)))))))) + 128 * (2 * (c1 + c2 + c3 + c4 + c5 + c6 + c7) + 512 * (c2 + c3 + c4 + c5 + c6 + c7) + 131072 * (c3 + c4 + c5 + c6 + c7) + 33554432 * ((c4 + c5 + c6 + c7) + 256 * (c5 + c6 + c7) + 65536 * (c6 + c7) + 16777216 * c7)) := by omega
theorem st_b1 {c0 c1 c2 : Nat} (h0 : c0 ≤ 8) (h1 : c1 ≤ 8) (h2 : c2 ≤ 8) : c0 + c1 + 256 * (c1 + c2) < 65536 := by omega
theorem st_b2 {c0 c1 c2 c3 c4 c5 c6 : Nat} (h0 : c0 ≤ 8) (h1 : c1 ≤ 8) (h2 : c2 ≤ 8) (h3 : c3 ≤ 8) (h4 : c4 ≤ 8) (h5 : c5 ≤ 8) (h6 : c6 ≤ 8) : c0 + c1 + c2 + c3 + 256 * (c1 + c2 + c3 + c4) + 65536 * (c2 + c3 + c4 + c5) + 16777216 * (c3 + c4 + c5 + c6) < 4294967296 := by omega
theorem st_b3 {c0 c1 c2 c3 c4 c5 c6 c7 : Nat} (h0 : c0 ≤ 8) (h1 : c1 ≤ 8) (h2 : c2 ≤ 8) (h3 : c3 ≤ 8) (h4 : c4 ≤ 8) (h5 : c5 ≤ 8) (h6 : c6 ≤ 8) (h7 : c7 ≤ 8) : c0 + (c1 + (c2 + (c3 + (c4 + (c5 + (c6 + (c7 + 0))))))) ≤ 64 := by omega
theorem st_b4 {c1 c2 c3 c4 c5 c6 c7 : Nat} (h1 : c1 ≤ 8) (h2 : c2 ≤ 8) (h3 : c3 ≤ 8) (h4 : c4 ≤ 8) (h5 : c5 ≤ 8) (h6 : c6 ≤ 8) (h7 : c7 ≤ 8) : 2 * (c1 + c2 + c3 + c4 + c5 + c6 + c7) + 512 * (c2 + c3 + c4 + c5 + c6 + c7) + 131072 * (c3 + c4 + c5 + c6 + c7) + 33554432 * ((c4 + c5 + c6 + c7) + 256 * (c5 + c6 + c7) + 65536 * (c6 + c7) + 16777216 * c7) < 36028797018963968 := by omega
theorem st_all {c0 c1 c2 c3 c4 c5 c6 c7 a b c : Nat} (h0 : c0 ≤ 8) (h1 : c1 ≤ 8) (h2 : c2 ≤ 8) (h3 : c3 ≤ 8) (h4 : c4 ≤ 8) (h5 : c5 ≤ 8) (h6 : c6 ≤ 8) (h7 : c7 ≤ 8)
    (ha : a = (c0 + 256 * (c1 + 256 * (c2 + 256 * (c3 + 256 * (c4 + 256 * (c5 + 256 * (c6 + 256 * (c7 + 256 * 0)))))))) + (c0 + 256 * (c1 + 256 * (c2 + 256 * (c3 + 256 * (c4 + 256 * (c5 + 256 * (c6 + 256 * (c7 + 256 * 0)))))))) / 256) (hb : b = a + a / 65536) (hc : c = b + b / 4294967296) :
    c % 128 = c0 + (c1 + (c2 + (c3 + (c4 + (c5 + (c6 + (c7 + 0))))))) ∧ c0 + (c1 + (c2 + (c3 + (c4 + (c5 + (c6 + (c7 + 0))))))) ≤ 64 ∧ c < 4611686018427388032 := by
  rw [st_div _ (show c0 < 256 from Nat.lt_of_le_of_lt h0 (by decide)), st_e1] at ha
  rw [ha, st_div _ (st_b1 h0 h1 h2), st_e2] at hb
  rw [hb, st_div _ (st_b2 h0 h1 h2 h3 h4 h5 h6), st_e3] at hc
  have hs := st_b3 h0 h1 h2 h3 h4 h5 h6 h7
  have ht := st_b4 h1 h2 h3 h4 h5 h6 h7
  generalize c0 + (c1 + (c2 + (c3 + (c4 + (c5 + (c6 + (c7 + 0))))))) = t at hs hc ⊢
  generalize 2 * (c1 + c2 + c3 + c4 + c5 + c6 + c7) + 512 * (c2 + c3 + c4 + c5 + c6 + c7) + 131072 * (c3 + c4 + c5 + c6 + c7) + 33554432 * ((c4 + c5 + c6 + c7) + 256 * (c5 + c6 + c7) + 65536 * (c6 + c7) + 16777216 * c7) = r at ht hc
  clear ha hb h0 h1 h2 h3 h4 h5 h6 h7
  subst hc
  refine ⟨st_mod r (by omega), hs, by omega⟩
/-- the last three steps -/
theorem st456 {x a b c : Nat} (ha : a = pq_b pq_8 8 x + pq_b pq_8 8 x / 256) (hb : b = a + a / 65536) (hc : c = b + b / 4294967296) : c % 128 = pq_s 8 x ∧ pq_s 8 x ≤ 64 ∧ c < 4611686018427388032 :=
  st_all (p8_le (Nat.mod_lt x (show 0 < 256 by decide))) (p8_le (Nat.mod_lt (x / 256) (show 0 < 256 by decide))) (p8_le (Nat.mod_lt (x / 256 / 256) (show 0 < 256 by decide))) (p8_le (Nat.mod_lt (x / 256 / 256 / 256) (show 0 < 256 by decide))) (p8_le (Nat.mod_lt (x / 256 / 256 / 256 / 256) (show 0 < 256 by decide))) (p8_le (Nat.mod_lt (x / 256 / 256 / 256 / 256 / 256) (show 0 < 256 by decide))) (p8_le (Nat.mod_lt (x / 256 / 256 / 256 / 256 / 256 / 256) (show 0 < 256 by decide))) (p8_le (Nat.mod_lt (x / 256 / 256 / 256 / 256 / 256 / 256 / 256) (show 0 < 256 by decide))) ha hb hc
end
section
/-! LEAVES: points, labels, bits, sums; the JDK's own -/
def is_n (x : Int32) (n : Nat) : Prop := ∃ j, j < n ∧ x = nI j
theorem is_of {x : Int32} {n : Nat} (hn : n < 2 ^ 31) (h1 : ¬ x < 0) (h2 : ¬ nI n ≤ x) : is_n x n := by
  rcases pk_ix x hn with h | h | h
  · exact absurd h h1
  · exact absurd h h2
  · exact h
theorem is_neg {x : Int32} {n : Nat} (hn : n < 2 ^ 31) (h : x < 0) : ¬ is_n x n := by
  rintro ⟨j, hj, rfl⟩
  exact nI_pos (by omega) h
theorem is_big {x : Int32} {n : Nat} (hn : n < 2 ^ 31) (h : nI n ≤ x) : ¬ is_n x n := by
  rintro ⟨j, hj, rfl⟩
  have := (nI_leI hn (by omega)).mp h
  omega
/-- a yes or no: 1 where P, 0 elsewhere -/
def yn (r : Int32) (P : Prop) : Prop := (r = 1 ∧ P) ∨ (r = 0 ∧ ¬ P)
theorem yn_1 {P : Prop} (h : P) : yn 1 P := Or.inl ⟨rfl, h⟩
theorem yn_0 {P : Prop} (h : ¬ P) : yn 0 P := Or.inr ⟨rfl, h⟩
theorem yn_t {r : Int32} {P : Prop} (h : yn r P) (hr : ¬ r = 0) : P := by
  rcases h with ⟨-, h⟩ | ⟨h, -⟩
  · exact h
  · exact absurd h hr
theorem yn_f {r : Int32} {P : Prop} (h : yn r P) (hr : r = 0) : ¬ P := by
  rcases h with ⟨h, -⟩ | ⟨-, h⟩
  · rw [h] at hr; exact absurd hr (by decide)
  · exact h
theorem yn_01 {r : Int32} {P : Prop} (h : yn r P) : r = 0 ∨ r = 1 := by
  rcases h with ⟨h, -⟩ | ⟨h, -⟩
  · exact Or.inr h
  · exact Or.inl h
set_option maxHeartbeats 4000000 in
set_option maxRecDepth 100000 in
theorem k_PF_isPoint (l : Launch) {X : Lay} (hI : pw_I X) (w : Wd) (x : Int32) : CtI l y_PF_isPoint (pw_ws y_PF_isPoint c_PF_isPoint 1 (some .boolean)) { frames := 0, cells := 0, slots := 0, locals := 0 } X w [.int x] (fun r w1 => w1 = w ∧ yn r (is_n x 64)) := by
  refine pw_open (by decide) hI [some (.int x)] rfl (Nat.le_of_ble_eq_true rfl) ?_
  intro zp ze zs zm za zb zt zc hargs C hr hlk hnm
  refine pw_iload_n C d_PF_isPoint_0 rfl ?_
  refine pw_if_lt C 14 d_PF_isPoint_1 (by decide) (fun h1 => ?_) (fun h1 => ?_)
  · refine pw_iconst C d_PF_isPoint_14 (v := 0) (by decide) ?_
    refine pw_zret C hr (by first | rfl | decide) hlk d_PF_isPoint_15 ?_
    exact ⟨rfl, yn_0 (is_neg (by decide) h1)⟩
  · refine pw_iload_n C d_PF_isPoint_4 rfl ?_
    refine pw_bipush C d_PF_isPoint_5 (v := 64) (by decide) ?_
    refine pw_icmp_ge C 14 d_PF_isPoint_7 (by decide) (fun h7 => ?_) (fun h7 => ?_)
    · refine pw_iconst C d_PF_isPoint_14 (v := 0) (by decide) ?_
      refine pw_zret C hr (by first | rfl | decide) hlk d_PF_isPoint_15 ?_
      exact ⟨rfl, yn_0 (is_big (by decide) h7)⟩
    · refine pw_iconst C d_PF_isPoint_10 (v := 1) (by decide) ?_
      refine pw_goto C 15 d_PF_isPoint_11 (by decide) ?_
      refine pw_zret C hr (by first | rfl | decide) hlk d_PF_isPoint_15 ?_
      exact ⟨rfl, yn_1 (is_of (by decide) h1 h7)⟩
set_option maxHeartbeats 4000000 in
set_option maxRecDepth 100000 in
theorem k_PF_isLabel (l : Launch) {X : Lay} (hI : pw_I X) (w : Wd) (x : Int32) : CtI l y_PF_isLabel (pw_ws y_PF_isLabel c_PF_isLabel 1 (some .boolean)) { frames := 0, cells := 0, slots := 0, locals := 0 } X w [.int x] (fun r w1 => w1 = w ∧ yn r (is_n x 8)) := by
  refine pw_open (by decide) hI [some (.int x)] rfl (Nat.le_of_ble_eq_true rfl) ?_
  intro zp ze zs zm za zb zt zc hargs C hr hlk hnm
  refine pw_iload_n C d_PF_isLabel_0 rfl ?_
  refine pw_if_lt C 14 d_PF_isLabel_1 (by decide) (fun h1 => ?_) (fun h1 => ?_)
  · refine pw_iconst C d_PF_isLabel_14 (v := 0) (by decide) ?_
    refine pw_zret C hr (by first | rfl | decide) hlk d_PF_isLabel_15 ?_
    exact ⟨rfl, yn_0 (is_neg (by decide) h1)⟩
  · refine pw_iload_n C d_PF_isLabel_4 rfl ?_
    refine pw_bipush C d_PF_isLabel_5 (v := 8) (by decide) ?_
    refine pw_icmp_ge C 14 d_PF_isLabel_7 (by decide) (fun h7 => ?_) (fun h7 => ?_)
    · refine pw_iconst C d_PF_isLabel_14 (v := 0) (by decide) ?_
      refine pw_zret C hr (by first | rfl | decide) hlk d_PF_isLabel_15 ?_
      exact ⟨rfl, yn_0 (is_big (by decide) h7)⟩
    · refine pw_iconst C d_PF_isLabel_10 (v := 1) (by decide) ?_
      refine pw_goto C 15 d_PF_isLabel_11 (by decide) ?_
      refine pw_zret C hr (by first | rfl | decide) hlk d_PF_isLabel_15 ?_
      exact ⟨rfl, yn_1 (is_of (by decide) h1 h7)⟩
set_option maxHeartbeats 4000000 in
set_option maxRecDepth 100000 in
theorem k_MO_isPoint (l : Launch) {X : Lay} (hI : pw_I X) (w : Wd) (x : Int32) : CtI l y_MO_isPoint (pw_ws y_MO_isPoint c_MO_isPoint 1 (some .boolean)) { frames := 0, cells := 0, slots := 0, locals := 0 } X w [.int x] (fun r w1 => w1 = w ∧ yn r (is_n x 64)) := by
  refine pw_open (by decide) hI [some (.int x)] rfl (Nat.le_of_ble_eq_true rfl) ?_
  intro zp ze zs zm za zb zt zc hargs C hr hlk hnm
  refine pw_iload_n C d_MO_isPoint_0 rfl ?_
  refine pw_if_lt C 14 d_MO_isPoint_1 (by decide) (fun h1 => ?_) (fun h1 => ?_)
  · refine pw_iconst C d_MO_isPoint_14 (v := 0) (by decide) ?_
    refine pw_zret C hr (by first | rfl | decide) hlk d_MO_isPoint_15 ?_
    exact ⟨rfl, yn_0 (is_neg (by decide) h1)⟩
  · refine pw_iload_n C d_MO_isPoint_4 rfl ?_
    refine pw_bipush C d_MO_isPoint_5 (v := 64) (by decide) ?_
    refine pw_icmp_ge C 14 d_MO_isPoint_7 (by decide) (fun h7 => ?_) (fun h7 => ?_)
    · refine pw_iconst C d_MO_isPoint_14 (v := 0) (by decide) ?_
      refine pw_zret C hr (by first | rfl | decide) hlk d_MO_isPoint_15 ?_
      exact ⟨rfl, yn_0 (is_big (by decide) h7)⟩
    · refine pw_iconst C d_MO_isPoint_10 (v := 1) (by decide) ?_
      refine pw_goto C 15 d_MO_isPoint_11 (by decide) ?_
      refine pw_zret C hr (by first | rfl | decide) hlk d_MO_isPoint_15 ?_
      exact ⟨rfl, yn_1 (is_of (by decide) h1 h7)⟩
set_option maxHeartbeats 4000000 in
set_option maxRecDepth 100000 in
theorem k_PF_bit (l : Launch) {X : Lay} (hI : pw_I X) (w : Wd) (k : Nat) : CtL l y_PF_bit (pw_ws y_PF_bit c_PF_bit 1 (some .long)) { frames := 0, cells := 0, slots := 0, locals := 0 } X w [.int (nI k)] (fun r w1 => w1 = w ∧ r = (1 : Int64) <<< ((nI k).toInt64 &&& 63)) := by
  refine pw_open (by decide) hI [some (.int (nI k))] rfl (Nat.le_of_ble_eq_true rfl) ?_
  intro zp ze zs zm za zb zt zc hargs C hr hlk hnm
  refine pw_lconst C d_PF_bit_0 (v := 1) (by decide) ?_
  refine pw_iload_n C d_PF_bit_1 rfl ?_
  refine pw_lshl C d_PF_bit_2 ?_
  refine pw_lret C hr hlk d_PF_bit_3 ?_
  exact ⟨rfl, rfl⟩
set_option maxHeartbeats 4000000 in
set_option maxRecDepth 100000 in
theorem k_PF_holds (l : Launch) {X : Lay} (hI : pw_I X) (w : Wd) (x : Int64) {k : Nat} (hk : k < 64) : CtI l y_PF_holds (pw_ws y_PF_holds c_PF_holds 3 (some .boolean)) { frames := 0, cells := 0, slots := 0, locals := 0 } X w [.long x, .int (nI k)] (fun r w1 => w1 = w ∧ yn r (bt_f x k = true)) := by
  refine pw_open (by decide) hI [some (.long x), none, some (.int (nI k))] rfl (Nat.le_of_ble_eq_true rfl) ?_
  intro zp ze zs zm za zb zt zc hargs C hr hlk hnm
  refine pw_lload_n C d_PF_holds_0 rfl ?_
  refine pw_iload_n C d_PF_holds_1 rfl ?_
  refine pw_lushr C d_PF_holds_2 ?_
  refine pw_lconst C d_PF_holds_3 (v := 1) (by decide) ?_
  refine pw_land C d_PF_holds_4 ?_
  refine pw_lconst C d_PF_holds_5 (v := 0) (by decide) ?_
  refine pw_lcmp C d_PF_holds_6 ?_
  refine pw_if_eq C 14 d_PF_holds_7 (by decide) (fun h7 => ?_) (fun h7 => ?_)
  · refine pw_iconst C d_PF_holds_14 (v := 0) (by decide) ?_
    refine pw_zret C hr (by first | rfl | decide) hlk d_PF_holds_15 ?_
    refine ⟨rfl, yn_0 ?_⟩
    rw [(bt_hold hk).mp ((lc_eq _ _).mp h7)]; decide
  · refine pw_iconst C d_PF_holds_10 (v := 1) (by decide) ?_
    refine pw_goto C 15 d_PF_holds_11 (by decide) ?_
    refine pw_zret C hr (by first | rfl | decide) hlk d_PF_holds_15 ?_
    refine ⟨rfl, yn_1 ?_⟩
    cases hb : bt_f x k with
    | true => rfl
    | false => exact absurd ((lc_eq _ _).mpr ((bt_hold hk).mpr hb)) h7
theorem su_add {a b : Nat} (ha : a ≤ C15) (hb : b ≤ C15) : (lN a + lN b < (1000000000000000 : Int64) ↔ a + b < C15) ∧ (cp_f (a + b) = if a + b < C15 then a + b else C15) := by
  refine ⟨?_, rfl⟩
  rw [lN_add]
  unfold C15 at *
  exact pk_lLT (a := a + b) (b := 1000000000000000) (by omega) (by omega)
set_option maxHeartbeats 4000000 in
set_option maxRecDepth 100000 in
theorem k_PF_sumOf (l : Launch) {X : Lay} (hI : pw_I X) (w : Wd) {a b : Nat} (ha : a ≤ C15) (hb : b ≤ C15) : CtL l y_PF_sumOf (pw_ws y_PF_sumOf c_PF_sumOf 6 (some .long)) { frames := 0, cells := 0, slots := 0, locals := 0 } X w [.long (lN a), .long (lN b)] (fun r w1 => w1 = w ∧ r = lN (cp_f (a + b))) := by
  refine pw_open (by decide) hI [some (.long (lN a)), none, some (.long (lN b)), none, none, none] rfl (Nat.le_of_ble_eq_true rfl) ?_
  intro zp ze zs zm za zb zt zc hargs C hr hlk hnm
  refine pw_lload_n C d_PF_sumOf_0 rfl ?_
  refine pw_lload_n C d_PF_sumOf_1 rfl ?_
  refine pw_ladd C d_PF_sumOf_2 ?_
  refine pw_lstore C d_PF_sumOf_3 (by decide) ?_
  refine pw_lload C d_PF_sumOf_5 rfl ?_
  refine pw_ldc2_w C d_PF_sumOf_7 (v := 1000000000000000) W_297 ?_
  refine pw_lcmp C d_PF_sumOf_10 ?_
  refine pw_if_ge C 19 d_PF_sumOf_11 (by decide) (fun h11 => ?_) (fun h11 => ?_)
  · refine pw_ldc2_w C d_PF_sumOf_19 (v := 1000000000000000) W_297 ?_
    refine pw_lret C hr hlk d_PF_sumOf_22 ?_
    refine ⟨rfl, ?_⟩
    have hn := mt (su_add ha hb).1.mpr ((lc_ge _ _).mp h11)
    rw [(su_add ha hb).2, if_neg hn]
    rfl
  · refine pw_lload C d_PF_sumOf_14 rfl ?_
    refine pw_goto C 22 d_PF_sumOf_16 (by decide) ?_
    refine pw_lret C hr hlk d_PF_sumOf_22 ?_
    refine ⟨rfl, ?_⟩
    have hn := (su_add ha hb).1.mp (Classical.byContradiction fun q => h11 ((lc_ge _ _).mpr q))
    rw [(su_add ha hb).2, if_pos hn, lN_add]
end
section
/-! THE JDK: trailing zeros, fill, bitCount -/
set_option maxHeartbeats 4000000 in
set_option maxRecDepth 100000 in
theorem k_IN_ntz (l : Launch) {X : Lay} (hI : pw_I X) (w : Wd) {x : Int32} {k : Nat} (hk : k < 32) (hb1 : b3_f x k = true) (hb2 : ∀ j, j < k → b3_f x j = false) : CtI l y_IN_ntz (pw_ws y_IN_ntz c_IN_ntz 2 (some .int)) { frames := 0, cells := 0, slots := 0, locals := 0 } X w [.int x] (fun r w1 => w1 = w ∧ r = nI k) := by
  refine pw_open (by decide) hI [some (.int x), none] rfl (Nat.le_of_ble_eq_true rfl) ?_
  intro zp ze zs zm za zb zt zc hargs C hr hlk hnm
  have L74 : ∀ a n : Nat, 1 ≤ a → a ≤ 2 → n + a = k + 1 → MW zp l ze ({ frames := 0, cells := 0, slots := 0, locals := 0 } : Room) zs zm za zb zt zc X 2 0 0 (MQ zb (va_Qi (fun r w1 => w1 = w ∧ r = nI k) (pw_B X) (pw_F X)) za zs 0 0 (pw_F X)) w 74 [some (.int (nI (2 ^ a - 1))), some (.int (nI n))] [] := by
    intro a n ha hab hna
    refine pw_iload_n C d_IN_ntz_74 rfl ?_
    refine pw_iload_n C d_IN_ntz_75 rfl ?_
    refine pw_iconst C d_IN_ntz_76 (v := 1) (by decide) ?_
    refine pw_iushr C d_IN_ntz_77 ?_
    refine pw_iadd C d_IN_ntz_78 ?_
    refine pw_iret C hr hlk d_IN_ntz_79 ?_
    refine ⟨rfl, ?_⟩
    rw [nz_s1 a (by omega) ha, nI_add]
    congr 1
    omega
  have L62 : ∀ a n : Nat, 1 ≤ a → a ≤ 4 → n + a = k + 1 → MW zp l ze ({ frames := 0, cells := 0, slots := 0, locals := 0 } : Room) zs zm za zb zt zc X 2 0 0 (MQ zb (va_Qi (fun r w1 => w1 = w ∧ r = nI k) (pw_B X) (pw_F X)) za zs 0 0 (pw_F X)) w 62 [some (.int (nI (2 ^ a - 1))), some (.int (nI n))] [] := by
    intro a n ha hab hna
    refine pw_iload_n C d_IN_ntz_62 rfl ?_
    refine pw_iconst C d_IN_ntz_63 (v := 4) (by decide) ?_
    refine pw_icmp_le C 74 d_IN_ntz_64 (by decide) (fun h64 => ?_) (fun h64 => ?_)
    · exact L74 a n ha ((nz_2 a (by omega)).mp h64) hna
    · refine pw_iinc C d_IN_ntz_67 rfl (by decide) ?_
      refine pw_iload_n C d_IN_ntz_70 rfl ?_
      refine pw_iconst C d_IN_ntz_71 (v := 2) (by decide) ?_
      refine pw_iushr C d_IN_ntz_72 ?_
      refine pw_istore_n C d_IN_ntz_73 (by decide) ?_
      have hgt := mt (nz_2 a (by omega)).mpr h64
      rw [nz_s2 a (by omega) (by omega), show nI n + Int32.ofInt 2 = nI (n + 2) from nI_add n 2]
      exact L74 (a - 2) (n + 2) (by omega) (by omega) (by omega)
  have L49 : ∀ a n : Nat, 1 ≤ a → a ≤ 8 → n + a = k + 1 → MW zp l ze ({ frames := 0, cells := 0, slots := 0, locals := 0 } : Room) zs zm za zb zt zc X 2 0 0 (MQ zb (va_Qi (fun r w1 => w1 = w ∧ r = nI k) (pw_B X) (pw_F X)) za zs 0 0 (pw_F X)) w 49 [some (.int (nI (2 ^ a - 1))), some (.int (nI n))] [] := by
    intro a n ha hab hna
    refine pw_iload_n C d_IN_ntz_49 rfl ?_
    refine pw_bipush C d_IN_ntz_50 (v := 16) (by decide) ?_
    refine pw_icmp_le C 62 d_IN_ntz_52 (by decide) (fun h52 => ?_) (fun h52 => ?_)
    · exact L62 a n ha ((nz_4 a (by omega)).mp h52) hna
    · refine pw_iinc C d_IN_ntz_55 rfl (by decide) ?_
      refine pw_iload_n C d_IN_ntz_58 rfl ?_
      refine pw_iconst C d_IN_ntz_59 (v := 4) (by decide) ?_
      refine pw_iushr C d_IN_ntz_60 ?_
      refine pw_istore_n C d_IN_ntz_61 (by decide) ?_
      have hgt := mt (nz_4 a (by omega)).mpr h52
      rw [nz_s4 a (by omega) (by omega), show nI n + Int32.ofInt 4 = nI (n + 4) from nI_add n 4]
      exact L62 (a - 4) (n + 4) (by omega) (by omega) (by omega)
  have L34 : ∀ a n : Nat, 1 ≤ a → a ≤ 16 → n + a = k + 1 → MW zp l ze ({ frames := 0, cells := 0, slots := 0, locals := 0 } : Room) zs zm za zb zt zc X 2 0 0 (MQ zb (va_Qi (fun r w1 => w1 = w ∧ r = nI k) (pw_B X) (pw_F X)) za zs 0 0 (pw_F X)) w 34 [some (.int (nI (2 ^ a - 1))), some (.int (nI n))] [] := by
    intro a n ha hab hna
    refine pw_iload_n C d_IN_ntz_34 rfl ?_
    refine pw_sipush C d_IN_ntz_35 (v := 256) (by decide) ?_
    refine pw_icmp_le C 49 d_IN_ntz_38 (by decide) (fun h38 => ?_) (fun h38 => ?_)
    · exact L49 a n ha ((nz_8 a (by omega)).mp h38) hna
    · refine pw_iinc C d_IN_ntz_41 rfl (by decide) ?_
      refine pw_iload_n C d_IN_ntz_44 rfl ?_
      refine pw_bipush C d_IN_ntz_45 (v := 8) (by decide) ?_
      refine pw_iushr C d_IN_ntz_47 ?_
      refine pw_istore_n C d_IN_ntz_48 (by decide) ?_
      have hgt := mt (nz_8 a (by omega)).mpr h38
      rw [nz_s8 a (by omega) (by omega), show nI n + Int32.ofInt 8 = nI (n + 8) from nI_add n 8]
      exact L49 (a - 8) (n + 8) (by omega) (by omega) (by omega)
  refine pw_iload_n C d_IN_ntz_0 rfl ?_
  refine pw_iconst C d_IN_ntz_1 (v := -1) (by decide) ?_
  refine pw_ixor C d_IN_ntz_2 ?_
  refine pw_iload_n C d_IN_ntz_3 rfl ?_
  refine pw_iconst C d_IN_ntz_4 (v := 1) (by decide) ?_
  refine pw_isub C d_IN_ntz_5 ?_
  refine pw_iand C d_IN_ntz_6 ?_
  rw [b3_low hk hb1 hb2]
  refine pw_istore_n C d_IN_ntz_7 (by decide) ?_
  refine pw_iload_n C d_IN_ntz_8 rfl ?_
  refine pw_if_gt C 17 d_IN_ntz_9 (by decide) (fun h9 => ?_) (fun h9 => ?_)
  · refine pw_iconst C d_IN_ntz_17 (v := 1) (by decide) ?_
    refine pw_istore_n C d_IN_ntz_18 (by decide) ?_
    refine pw_iload_n C d_IN_ntz_19 rfl ?_
    refine pw_ldc_w C d_IN_ntz_20 (v := 65536) W_266 ?_
    refine pw_icmp_le C 34 d_IN_ntz_23 (by decide) (fun h23 => ?_) (fun h23 => ?_)
    · have hk1 : ¬ k = 0 := fun q => absurd h9 (Int32.not_lt.mpr ((nz_pos k hk).mpr q))
      exact L34 k 1 (by omega) ((nz_16 k hk).mp h23) (by omega)
    · refine pw_iinc C d_IN_ntz_26 rfl (by decide) ?_
      refine pw_iload_n C d_IN_ntz_29 rfl ?_
      refine pw_bipush C d_IN_ntz_30 (v := 16) (by decide) ?_
      refine pw_iushr C d_IN_ntz_32 ?_
      refine pw_istore_n C d_IN_ntz_33 (by decide) ?_
      have hgt := mt (nz_16 k hk).mpr h23
      rw [nz_s16 k hk (by omega)]
      exact L34 (k - 16) 17 (by omega) (by omega) (by omega)
  · refine pw_iload_n C d_IN_ntz_12 rfl ?_
    refine pw_bipush C d_IN_ntz_13 (v := 32) (by decide) ?_
    refine pw_iand C d_IN_ntz_15 ?_
    refine pw_iret C hr hlk d_IN_ntz_16 ?_
    have hk0 : k = 0 := (nz_pos k hk).mp (Int32.not_lt.mp h9)
    subst hk0
    exact ⟨rfl, by decide⟩
set_option maxHeartbeats 4000000 in
set_option maxRecDepth 100000 in
theorem k_LO_ntz (l : Launch) {X : Lay} (hI : pw_I X) (w : Wd) {x : Int64} {k : Nat} (hk : k < 64) (hb1 : bt_f x k = true) (hb2 : ∀ j, j < k → bt_f x j = false) : CtI l y_LO_ntz (pw_ws y_LO_ntz c_LO_ntz 3 (some .int)) { frames := 1, cells := 0, slots := 0, locals := 21 } X w [.long x] (fun r w1 => w1 = w ∧ r = nI k) := by
  refine pw_open (by decide) hI [some (.long x), none, none] rfl (Nat.le_of_ble_eq_true rfl) ?_
  intro zp ze zs zm za zb zt zc hargs C hr hlk hnm
  refine pw_lload_n C d_LO_ntz_0 rfl ?_
  refine pw_l2i C d_LO_ntz_1 ?_
  refine pw_istore_n C d_LO_ntz_2 (by decide) ?_
  refine pw_iload_n C d_LO_ntz_3 rfl ?_
  refine pw_if_ne C 21 d_LO_ntz_4 (by decide) (fun h4 => ?_) (fun h4 => ?_)
  · have hk3 : k < 32 := by
      rcases Nat.lt_or_ge k 32 with q | q
      · exact q
      · exact absurd (b3_zero (fun j hj => by rw [b3_lo x hj]; exact hb2 j (by omega))) h4
    have q1 : b3_f x.toInt32 k = true := by rw [b3_lo x hk3]; exact hb1
    have q2 : ∀ j, j < k → b3_f x.toInt32 j = false := fun j hj => by rw [b3_lo x (by omega)]; exact hb2 j hj
    refine pw_iload_n C d_LO_ntz_21 rfl ?_
    refine pw_callSi C (k_IN_ntz l hI w hk3 q1 q2) ⟨pw_cb C 1 W_265 W_9 W_263 ⟨rfl, rfl⟩ (by decide +kernel) ⟨(Nat.le_of_ble_eq_true rfl), (Nat.le_of_ble_eq_true rfl)⟩, pw_w C W_264⟩ rfl rfl (Nat.le_of_ble_eq_true rfl) d_LO_ntz_22 ⟨Nat.zero_le _, Nat.zero_le _⟩ (fun r w1 hp => ?_)
    refine pw_iret C hr hlk d_LO_ntz_25 ?_
    exact hp
  · have hk3 : ¬ k < 32 := fun q => by
      have := b3_lo x q
      rw [h4, hb1] at this
      have h0 : b3_f 0 k = false := by unfold b3_f; rw [Int32.toBitVec_zero, BitVec.getLsbD_zero]
      rw [h0] at this
      cases this
    have q1 : b3_f (x.toUInt64 >>> ((32 : Int32).toInt64.toUInt64 &&& Int64.toUInt64 63)).toInt64.toInt32 (k - 32) = true := by rw [b3_hi x (by omega), show 32 + (k - 32) = k by omega]; exact hb1
    have q2 : ∀ j, j < k - 32 → b3_f (x.toUInt64 >>> ((32 : Int32).toInt64.toUInt64 &&& Int64.toUInt64 63)).toInt64.toInt32 j = false := fun j hj => by rw [b3_hi x (by omega)]; exact hb2 _ (by omega)
    refine pw_bipush C d_LO_ntz_7 (v := 32) (by decide) ?_
    refine pw_lload_n C d_LO_ntz_9 rfl ?_
    refine pw_bipush C d_LO_ntz_10 (v := 32) (by decide) ?_
    refine pw_lushr C d_LO_ntz_12 ?_
    refine pw_l2i C d_LO_ntz_13 ?_
    refine pw_callSi C (k_IN_ntz l hI w (k := k - 32) (by omega) q1 q2) ⟨pw_cb C 1 W_265 W_9 W_263 ⟨rfl, rfl⟩ (by decide +kernel) ⟨(Nat.le_of_ble_eq_true rfl), (Nat.le_of_ble_eq_true rfl)⟩, pw_w C W_264⟩ rfl rfl (Nat.le_of_ble_eq_true rfl) d_LO_ntz_14 ⟨Nat.zero_le _, Nat.zero_le _⟩ (fun r w1 hp => ?_)
    refine pw_iadd C d_LO_ntz_17 ?_
    refine pw_goto C 25 d_LO_ntz_18 (by decide) ?_
    refine pw_iret C hr hlk d_LO_ntz_25 ?_
    refine ⟨hp.1, ?_⟩
    rw [hp.2]
    show nI 32 + nI (k - 32) = nI k
    rw [nI_add]
    congr 1
    omega
set_option maxHeartbeats 4000000 in
set_option maxRecDepth 100000 in
theorem k_AR_fill (l : Launch) {X : Lay} (hI : pw_I X) (w : Wd) {g i n : Nat} {f : Nat → Int64} (v : Int64) (hn : n < 2 ^ 31) (hd : pw_d X g i) (hw : w g i = aL X n f) : CtV l y_AR_fill (pw_ws y_AR_fill c_AR_fill 5 none) { frames := 0, cells := 0, slots := 0, locals := 0 } X w [.ref (pw_a X g i), .long v] (fun w1 => ∃ f1, w1 = pw_up w g i (aL X n f1) ∧ ∀ j, j < n → f1 j = v) := by
  refine pw_open (by decide) hI [some (.ref (pw_a X g i)), some (.long v), none, none, none] rfl (Nat.le_of_ble_eq_true rfl) ?_
  intro zp ze zs zm za zb zt zc hargs C hr hlk hnm
  have L6 : ∀ d k : Nat, k + d = n → ∀ f1 : Nat → Int64, (∀ j, j < k → f1 j = v) → MW zp l ze ({ frames := 0, cells := 0, slots := 0, locals := 0 } : Room) zs zm za zb zt zc X 5 0 0 (MQ zb (va_Qv (fun w1 => ∃ f1, w1 = pw_up w g i (aL X n f1) ∧ ∀ j, j < n → f1 j = v) (pw_B X) (pw_F X)) za zs 0 0 (pw_F X)) (pw_up w g i (aL X n f1)) 6 [some (.ref (pw_a X g i)), some (.long v), none, some (.int (nI k)), some (.int (nI n))] [] := by
    intro d
    induction d with
    | zero =>
      intro k hkd f1 hf
      refine pw_iload_n C d_AR_fill_6 rfl ?_
      refine pw_iload C d_AR_fill_7 rfl ?_
      refine pw_icmp_ge C 22 d_AR_fill_9 (by decide) (fun h9 => ?_) (fun h9 => ?_)
      · refine pw_vret C hr hlk d_AR_fill_22 ?_
        exact ⟨f1, rfl, fun j hj => hf j (by omega)⟩
      · exact absurd (nI_le (by omega) (by omega)) h9
    | succ d ih =>
      intro k hkd f1 hf
      refine pw_iload_n C d_AR_fill_6 rfl ?_
      refine pw_iload C d_AR_fill_7 rfl ?_
      refine pw_icmp_ge C 22 d_AR_fill_9 (by decide) (fun h9 => ?_) (fun h9 => ?_)
      · exact absurd ((nI_leI hn (by omega)).mp h9) (by omega)
      refine pw_aload_n C d_AR_fill_12 rfl ?_
      refine pw_iload_n C d_AR_fill_13 rfl ?_
      refine pw_lload_n C d_AR_fill_14 rfl ?_
      refine pw_lastK C d_AR_fill_15 hd (pw_up_self w g i _) (by omega) ?_
      refine pw_iinc1 C d_AR_fill_16 rfl (by decide) ?_
      refine pw_goto C 6 d_AR_fill_19 (by decide) ?_
      rw [pw_up_up]
      exact ih (k + 1) (by omega) _ (fun j hj => by
        by_cases q : j = k
        · subst q; exact pk_uLs
        · rw [pk_uLn q]; exact hf j (by omega))
  refine pw_iconst C d_AR_fill_0 (v := 0) (by decide) ?_
  refine pw_istore_n C d_AR_fill_1 (by decide) ?_
  refine pw_aload_n C d_AR_fill_2 rfl ?_
  refine pw_alenL C d_AR_fill_3  hd hw ?_
  refine pw_istore C d_AR_fill_4 (by decide) ?_
  refine MW.world (pw_up_id w hw).symm ?_
  exact L6 n 0 (by omega) f (fun j hj => absurd hj (Nat.not_lt_zero j))
end
section
/-! bitCount. The wb_ rows are the kit's own (laws/BITS.to-paste), pasted -/
theorem wb_tb (n : Nat) : (lN n).toBitVec = BitVec.ofNat 64 n := rfl
theorem wb_inj {a b : Int64} (h : a.toBitVec = b.toBitVec) : a = b := Int64.toBitVec_inj.mp h
theorem wb_tn {n : Nat} (h : n < 2 ^ 64) : (lN n).toBitVec.toNat = n := by rw [wb_tb, BitVec.toNat_ofNat, Nat.mod_eq_of_lt h]
theorem wb_of (x : Int64) : ∃ n, n < 2 ^ 64 ∧ x = lN n := ⟨x.toBitVec.toNat, x.toBitVec.isLt, wb_inj (by rw [wb_tb]; simp)⟩
theorem wb_cu : ∀ k, k < 64 → ((nI k).toInt64.toUInt64 &&& Int64.toUInt64 63) = UInt64.ofNat k := by decide +kernel
theorem wb_shr {n k : Nat} (hn : n < 2 ^ 64) (hk : k < 64) : ((lN n).toUInt64 >>> ((nI k).toInt64.toUInt64 &&& Int64.toUInt64 63)).toInt64 = lN (n / 2 ^ k) := by
  rw [wb_cu k hk]
  apply wb_inj
  apply BitVec.eq_of_toNat_eq
  show ((lN n).toUInt64 >>> UInt64.ofNat k).toNat = (BitVec.ofNat 64 _).toNat
  have h1 : (UInt64.ofNat k).toNat = k := by
    show (BitVec.ofNat 64 k).toNat = k
    rw [BitVec.toNat_ofNat, Nat.mod_eq_of_lt (by omega)]
  have h2 : (lN n).toUInt64.toNat = n := wb_tn hn
  rw [UInt64.toNat_shiftRight, h1, h2, Nat.mod_eq_of_lt hk, Nat.shiftRight_eq_div_pow, BitVec.toNat_ofNat, Nat.mod_eq_of_lt (Nat.lt_of_le_of_lt (Nat.div_le_self _ _) hn)]
theorem wb_and {a b : Nat} (ha : a < 2 ^ 64) (hb : b < 2 ^ 64) : lN a &&& lN b = lN (a &&& b) := by
  apply wb_inj
  rw [Int64.toBitVec_and, wb_tb, wb_tb, wb_tb]
  apply BitVec.eq_of_toNat_eq
  rw [BitVec.toNat_and, BitVec.toNat_ofNat, BitVec.toNat_ofNat, BitVec.toNat_ofNat, Nat.mod_eq_of_lt ha, Nat.mod_eq_of_lt hb, Nat.mod_eq_of_lt (Nat.and_lt_two_pow _ hb)]
theorem bc_m1 : (6148914691236517205 : Int64) = lN (pq_m 85 8) := by decide +kernel
theorem bc_m2 : (3689348814741910323 : Int64) = lN (pq_m 51 8) := by decide +kernel
theorem bc_m4 : (1085102592571150095 : Int64) = lN (pq_m 15 8) := by decide +kernel
theorem bc_l1 : pq_m 85 8 = 6148914691236517205 := by decide +kernel
theorem bc_l2 : pq_m 51 8 = 3689348814741910323 := by decide +kernel
theorem bc_l4 : pq_m 15 8 = 1085102592571150095 := by decide +kernel
theorem bc_s {n : Nat} (hn : n < 2 ^ 64) (k : Nat) (hk : k < 64) : ((lN n).toUInt64 >>> ((nI k).toInt64.toUInt64 &&& Int64.toUInt64 63)).toInt64 = lN (n / 2 ^ k) := wb_shr hn hk
def bc_n (x : Int64) : Nat := sg_f (fun j => if bt_f x j then 1 else 0) 64
theorem bc_e1 {n : Nat} (hn : n < 2 ^ 64) : lN n - (((lN n).toUInt64 >>> ((1 : Int32).toInt64.toUInt64 &&& Int64.toUInt64 63)).toInt64 &&& 6148914691236517205) = lN (n - ((n / 2) &&& pq_m 85 8)) := by
  rw [show ((lN n).toUInt64 >>> ((1 : Int32).toInt64.toUInt64 &&& Int64.toUInt64 63)).toInt64 = lN (n / 2) from bc_s hn 1 (by decide), bc_m1, wb_and (by omega) (by rw [bc_l1]; decide), lN_sub]
  have : (n / 2) &&& pq_m 85 8 ≤ n / 2 := Nat.and_le_left
  omega
theorem bc_e2 {y : Nat} (hy : y < 2 ^ 64) : (lN y &&& 3689348814741910323) + (((lN y).toUInt64 >>> ((2 : Int32).toInt64.toUInt64 &&& Int64.toUInt64 63)).toInt64 &&& 3689348814741910323) = lN ((y &&& pq_m 51 8) + ((y / 4) &&& pq_m 51 8)) := by
  rw [show ((lN y).toUInt64 >>> ((2 : Int32).toInt64.toUInt64 &&& Int64.toUInt64 63)).toInt64 = lN (y / 4) from bc_s hy 2 (by decide), bc_m2, wb_and hy (by rw [bc_l2]; decide), wb_and (by omega) (by rw [bc_l2]; decide), lN_add]
theorem bc_e3 {z : Nat} (hz : z ≤ 7378697629483820646) : (lN z + ((lN z).toUInt64 >>> ((4 : Int32).toInt64.toUInt64 &&& Int64.toUInt64 63)).toInt64) &&& 1085102592571150095 = lN ((z + z / 16) &&& pq_m 15 8) := by
  rw [show ((lN z).toUInt64 >>> ((4 : Int32).toInt64.toUInt64 &&& Int64.toUInt64 63)).toInt64 = lN (z / 16) from bc_s (by omega) 4 (by decide), bc_m4, lN_add, wb_and (by omega) (by rw [bc_l4]; decide)]
theorem bc_e4 {a : Nat} (k : Nat) (hk : k < 64) (ha : a < 2 ^ 64) : lN a + ((lN a).toUInt64 >>> ((nI k).toInt64.toUInt64 &&& Int64.toUInt64 63)).toInt64 = lN (a + a / 2 ^ k) := by
  rw [bc_s ha k hk, lN_add]
theorem bc_e7 {c : Nat} (hc : c < 2 ^ 64) : (lN c).toInt32 &&& 127 = nI (c % 128) := by
  rw [lN_i, pk_and (nI c) 7 (by decide)]
  congr 1
  show (BitVec.ofNat 32 c).toNat % 128 = c % 128
  rw [BitVec.toNat_ofNat]
  omega
theorem bc_bnd (y : Nat) : (y &&& pq_m 51 8) + ((y / 4) &&& pq_m 51 8) ≤ 7378697629483820646 := by
  have h1 : y &&& pq_m 51 8 ≤ pq_m 51 8 := Nat.and_le_right
  have h2 : (y / 4) &&& pq_m 51 8 ≤ pq_m 51 8 := Nat.and_le_right
  rw [bc_l2] at h1 h2 ⊢
  omega
theorem bc_b8 (n : Nat) : pq_b pq_8 8 n < 1157442765409226759 := by
  have h : ∀ (k x : Nat), pq_b pq_8 k x ≤ pq_m 8 k := by
    intro k
    induction k with
    | zero => intro x; exact Nat.le_refl _
    | succ k ih =>
      intro x
      have h1 := ih (x / 256)
      have h2 := p8_le (Nat.mod_lt x (show 0 < 256 by decide))
      show pq_8 (x % 256) + 256 * pq_b pq_8 k (x / 256) ≤ 8 + 256 * pq_m 8 k
      omega
  have h1 := h 8 n
  have h2 : pq_m 8 8 = 578721382704613384 := by decide +kernel
  omega
theorem bc_end (x : Int64) : pq_s 8 x.toBitVec.toNat = bc_n x := bs_eq 8 _
set_option maxHeartbeats 4000000 in
set_option maxRecDepth 100000 in
theorem k_LO_bc (l : Launch) {X : Lay} (hI : pw_I X) (w : Wd) (x : Int64) : CtI l y_LO_bc (pw_ws y_LO_bc c_LO_bc 2 (some .int)) { frames := 0, cells := 0, slots := 0, locals := 0 } X w [.long x] (fun r w1 => w1 = w ∧ r = nI (bc_n x)) := by
  obtain ⟨n, hn, hx⟩ := wb_of x
  have hxn : x.toBitVec.toNat = n := by rw [hx]; exact wb_tn hn
  rw [← bc_end x, hxn]
  subst hx
  have s3 := st123 (x := n) (by omega) rfl rfl
  have s6 := st456 (x := n) rfl rfl rfl
  have b8 := bc_b8 n
  refine pw_open (by decide) hI [some (.long (lN n)), none] rfl (Nat.le_of_ble_eq_true rfl) ?_
  intro zp ze zs zm za zb zt zc hargs C hr hlk hnm
  refine pw_lload_n C d_LO_bc_0 rfl ?_
  refine pw_lload_n C d_LO_bc_1 rfl ?_
  refine pw_iconst C d_LO_bc_2 (v := 1) (by decide) ?_
  refine pw_lushr C d_LO_bc_3 ?_
  refine pw_ldc2_w C d_LO_bc_4 (v := 6148914691236517205) W_313 ?_
  refine pw_land C d_LO_bc_7 ?_
  refine pw_lsub C d_LO_bc_8 ?_
  rw [bc_e1 hn]
  refine pw_lstore_n C d_LO_bc_9 (by decide) ?_
  refine pw_lload_n C d_LO_bc_10 rfl ?_
  refine pw_ldc2_w C d_LO_bc_11 (v := 3689348814741910323) W_314 ?_
  refine pw_land C d_LO_bc_14 ?_
  refine pw_lload_n C d_LO_bc_15 rfl ?_
  refine pw_iconst C d_LO_bc_16 (v := 2) (by decide) ?_
  refine pw_lushr C d_LO_bc_17 ?_
  refine pw_ldc2_w C d_LO_bc_18 (v := 3689348814741910323) W_314 ?_
  refine pw_land C d_LO_bc_21 ?_
  refine pw_ladd C d_LO_bc_22 ?_
  rw [bc_e2 (Nat.lt_of_le_of_lt (Nat.sub_le _ _) hn)]
  refine pw_lstore_n C d_LO_bc_23 (by decide) ?_
  refine pw_lload_n C d_LO_bc_24 rfl ?_
  refine pw_lload_n C d_LO_bc_25 rfl ?_
  refine pw_iconst C d_LO_bc_26 (v := 4) (by decide) ?_
  refine pw_lushr C d_LO_bc_27 ?_
  refine pw_ladd C d_LO_bc_28 ?_
  refine pw_ldc2_w C d_LO_bc_29 (v := 1085102592571150095) W_315 ?_
  refine pw_land C d_LO_bc_32 ?_
  rw [bc_e3 (bc_bnd _), s3]
  refine pw_lstore_n C d_LO_bc_33 (by decide) ?_
  refine pw_lload_n C d_LO_bc_34 rfl ?_
  refine pw_lload_n C d_LO_bc_35 rfl ?_
  refine pw_bipush C d_LO_bc_36 (v := 8) (by decide) ?_
  refine pw_lushr C d_LO_bc_38 ?_
  refine pw_ladd C d_LO_bc_39 ?_
  rw [show lN (pq_b pq_8 8 n) + ((lN (pq_b pq_8 8 n)).toUInt64 >>> ((8 : Int32).toInt64.toUInt64 &&& Int64.toUInt64 63)).toInt64 = lN (pq_b pq_8 8 n + pq_b pq_8 8 n / 256) from bc_e4 8 (by decide) (by omega)]
  generalize ha : pq_b pq_8 8 n + pq_b pq_8 8 n / 256 = a at s6 ⊢
  have hab : a < 2 ^ 63 := by omega
  refine pw_lstore_n C d_LO_bc_40 (by decide) ?_
  refine pw_lload_n C d_LO_bc_41 rfl ?_
  refine pw_lload_n C d_LO_bc_42 rfl ?_
  refine pw_bipush C d_LO_bc_43 (v := 16) (by decide) ?_
  refine pw_lushr C d_LO_bc_45 ?_
  refine pw_ladd C d_LO_bc_46 ?_
  rw [show lN a + ((lN a).toUInt64 >>> ((16 : Int32).toInt64.toUInt64 &&& Int64.toUInt64 63)).toInt64 = lN (a + a / 65536) from bc_e4 16 (by decide) (by omega)]
  generalize hb : a + a / 65536 = b at s6 ⊢
  have hbb : b < 2 ^ 64 := by omega
  refine pw_lstore_n C d_LO_bc_47 (by decide) ?_
  refine pw_lload_n C d_LO_bc_48 rfl ?_
  refine pw_lload_n C d_LO_bc_49 rfl ?_
  refine pw_bipush C d_LO_bc_50 (v := 32) (by decide) ?_
  refine pw_lushr C d_LO_bc_52 ?_
  refine pw_ladd C d_LO_bc_53 ?_
  rw [show lN b + ((lN b).toUInt64 >>> ((32 : Int32).toInt64.toUInt64 &&& Int64.toUInt64 63)).toInt64 = lN (b + b / 4294967296) from bc_e4 32 (by decide) (by omega)]
  generalize hc : b + b / 4294967296 = d at s6 ⊢
  refine pw_lstore_n C d_LO_bc_54 (by decide) ?_
  refine pw_lload_n C d_LO_bc_55 rfl ?_
  refine pw_l2i C d_LO_bc_56 ?_
  refine pw_bipush C d_LO_bc_57 (v := 127) (by decide) ?_
  refine pw_iand C d_LO_bc_59 ?_
  refine pw_iret C hr hlk d_LO_bc_60 ?_
  refine ⟨rfl, ?_⟩
  rw [bc_e7 (by omega), s6.1]
end
section
/-! GRAPH. Its cells: the object (1, 0), the outer array (2, 0), the rows (3, label) -/
def g_rep (X : Lay) (w : Wd) (T : Nat → Nat → Int64) (n : Int32) : Prop := pw_d X 1 0 ∧ pw_d X 2 0 ∧ (∀ j, j < 8 → pw_d X 3 j) ∧ w 1 0 = oB 1 [.ref (pw_a X 2 0), .int n] ∧ (∃ f, w 2 0 = aQ X 8 f ∧ ∀ j, j < 8 → f j = some (pw_a X 3 j)) ∧ ∀ j, j < 8 → w 3 j = aL X 64 (T j)
theorem g_rep_of {X : Lay} {w w1 : Wd} {T : Nat → Nat → Int64} {n : Int32} (h : g_rep X w T n) (h1 : w1 1 = w 1) (h2 : w1 2 = w 2) (h3 : w1 3 = w 3) : g_rep X w1 T n := by
  obtain ⟨d1, d2, d3, a, b, c⟩ := h
  exact ⟨d1, d2, d3, by rw [h1]; exact a, by rw [h2]; exact b, by rw [h3]; exact c⟩
theorem pw_up_row (w : Wd) {g i g' : Nat} (e : va_E) (h : g' ≠ g) : pw_up w g i e g' = w g' := funext fun i' => pw_up_g w e h
theorem bt_m1 : (-1 : Int64).toBitVec = BitVec.allOnes 64 := by decide +kernel
theorem bt_not {x : Int64} {j : Nat} (hj : j < 64) : bt_f (x ^^^ (-1)) j = !(bt_f x j) := by
  unfold bt_f
  rw [Int64.toBitVec_xor, bt_m1, BitVec.getLsbD_xor, BitVec.getLsbD_allOnes]
  simp [hj]
set_option maxHeartbeats 4000000 in
set_option maxRecDepth 100000 in
theorem k_GR_isEdge (l : Launch) {X : Lay} (hI : pw_I X) (w : Wd) (a b c : Int32) : CtI l y_GR_isEdge (pw_ws y_GR_isEdge c_GR_isEdge 3 (some .boolean)) { frames := 1, cells := 0, slots := 0, locals := 20 } X w [.int a, .int b, .int c] (fun r w1 => w1 = w ∧ yn r (is_n a 64 ∧ is_n b 8 ∧ is_n c 64)) := by
  refine pw_open (by decide) hI [some (.int a), some (.int b), some (.int c)] rfl (Nat.le_of_ble_eq_true rfl) ?_
  intro zp ze zs zm za zb zt zc hargs C hr hlk hnm
  refine pw_iload_n C d_GR_isEdge_0 rfl ?_
  refine pw_callSNi C (k_PF_isPoint l hI _ a) ⟨pw_cn C 1 W_153 W_1 N_20 ⟨rfl, rfl⟩ (by decide +kernel) ⟨(Nat.le_of_ble_eq_true rfl), (Nat.le_of_ble_eq_true rfl)⟩, pw_w C W_152, trivial⟩ rfl rfl (Nat.le_of_ble_eq_true rfl) d_GR_isEdge_1 ⟨Nat.zero_le _, Nat.zero_le _⟩ (fun r w9 hp1 => ?_)
  obtain ⟨e9, hp1⟩ := hp1
  refine MW.world e9 ?_
  refine pw_if_eq C 25 d_GR_isEdge_4 (by decide) (fun h4 => ?_) (fun h4 => ?_)
  · refine pw_iconst C d_GR_isEdge_25 (v := 0) (by decide) ?_
    refine pw_zret C hr (by first | rfl | decide) hlk d_GR_isEdge_26 ?_
    exact ⟨rfl, yn_0 (fun q => yn_f hp1 h4 q.1)⟩
  · refine pw_iload_n C d_GR_isEdge_7 rfl ?_
    refine pw_callSNi C (k_PF_isLabel l hI _ b) ⟨pw_cn C 1 W_156 W_1 N_21 ⟨rfl, rfl⟩ (by decide +kernel) ⟨(Nat.le_of_ble_eq_true rfl), (Nat.le_of_ble_eq_true rfl)⟩, pw_w C W_155, trivial⟩ rfl rfl (Nat.le_of_ble_eq_true rfl) d_GR_isEdge_8 ⟨Nat.zero_le _, Nat.zero_le _⟩ (fun r w9 hp2 => ?_)
    obtain ⟨e9, hp2⟩ := hp2
    refine MW.world e9 ?_
    refine pw_if_eq C 25 d_GR_isEdge_11 (by decide) (fun h11 => ?_) (fun h11 => ?_)
    · refine pw_iconst C d_GR_isEdge_25 (v := 0) (by decide) ?_
      refine pw_zret C hr (by first | rfl | decide) hlk d_GR_isEdge_26 ?_
      exact ⟨rfl, yn_0 (fun q => yn_f hp2 h11 q.2.1)⟩
    · refine pw_iload_n C d_GR_isEdge_14 rfl ?_
      refine pw_callSNi C (k_PF_isPoint l hI _ c) ⟨pw_cn C 1 W_153 W_1 N_20 ⟨rfl, rfl⟩ (by decide +kernel) ⟨(Nat.le_of_ble_eq_true rfl), (Nat.le_of_ble_eq_true rfl)⟩, pw_w C W_152, trivial⟩ rfl rfl (Nat.le_of_ble_eq_true rfl) d_GR_isEdge_15 ⟨Nat.zero_le _, Nat.zero_le _⟩ (fun r w9 hp3 => ?_)
      obtain ⟨e9, hp3⟩ := hp3
      refine MW.world e9 ?_
      refine pw_if_eq C 25 d_GR_isEdge_18 (by decide) (fun h18 => ?_) (fun h18 => ?_)
      · refine pw_iconst C d_GR_isEdge_25 (v := 0) (by decide) ?_
        refine pw_zret C hr (by first | rfl | decide) hlk d_GR_isEdge_26 ?_
        exact ⟨rfl, yn_0 (fun q => yn_f hp3 h18 q.2.2)⟩
      · refine pw_iconst C d_GR_isEdge_21 (v := 1) (by decide) ?_
        refine pw_goto C 26 d_GR_isEdge_22 (by decide) ?_
        refine pw_zret C hr (by first | rfl | decide) hlk d_GR_isEdge_26 ?_
        exact ⟨rfl, yn_1 ⟨yn_t hp1 h4, yn_t hp2 h11, yn_t hp3 h18⟩⟩
/-- what put and remove do: refused; nothing to do; done (v: is the edge there behind it) -/
def g_post (X : Lay) (w : Wd) (T : Nat → Nat → Int64) (n d : Int32) (v : Bool) (a b c : Int32) (r : Int32) (w1 : Wd) : Prop :=
  (¬ (is_n a 64 ∧ is_n b 8 ∧ is_n c 64) ∧ r = -1 ∧ w1 = w) ∨
  ∃ i k j : Nat, i < 64 ∧ k < 8 ∧ j < 64 ∧ a = nI i ∧ b = nI k ∧ c = nI j ∧
    ((bt_f (T k i) j = v ∧ r = 0 ∧ w1 = w) ∨
     (bt_f (T k i) j = !v ∧ r = 1 ∧ (∀ g, g ≠ 1 → g ≠ 3 → w1 g = w g) ∧ ∃ T1, g_rep X w1 T1 (n + d) ∧ ∀ k1 i1 j1, j1 < 64 → bt_f (T1 k1 i1) j1 = if k1 = k ∧ i1 = i ∧ j1 = j then v else bt_f (T k1 i1) j1))
theorem g_wrote {X : Lay} {w : Wd} {T : Nat → Nat → Int64} {n d : Int32} {i k j : Nat} {v : Bool} {x : Int64} (hG : g_rep X w T n) (hk : k < 8) (hx : ∀ j1, j1 < 64 → bt_f x j1 = if j1 = j then v else bt_f (T k i) j1) :
    (∀ g, g ≠ 1 → g ≠ 3 → pw_up (pw_up w 3 k (aL X 64 (vp_updL (T k) i x))) 1 0 (oB 1 [.ref (pw_a X 2 0), .int (n + d)]) g = w g) ∧ ∃ T1, g_rep X (pw_up (pw_up w 3 k (aL X 64 (vp_updL (T k) i x))) 1 0 (oB 1 [.ref (pw_a X 2 0), .int (n + d)])) T1 (n + d) ∧ ∀ k1 i1 j1, j1 < 64 → bt_f (T1 k1 i1) j1 = if k1 = k ∧ i1 = i ∧ j1 = j then v else bt_f (T k1 i1) j1 := by
  obtain ⟨d1, d2, d3, a, b, c⟩ := hG
  refine ⟨fun g h1 h3 => by rw [pw_up_row _ _ h1, pw_up_row _ _ h3], fun k1 => if k1 = k then vp_updL (T k) i x else T k1, ⟨d1, d2, d3, by rw [pw_up_self], by rw [pw_up_row _ _ (by decide), pw_up_row _ _ (by decide)]; exact b, fun j9 h9 => ?_⟩, fun k1 i1 j1 hj1 => ?_⟩
  · rw [pw_up_g _ _ (by decide)]
    by_cases q : j9 = k
    · subst q
      dsimp only
      rw [pw_up_self, if_pos rfl]
    · dsimp only
      rw [pw_up_i _ _ q, if_neg q]
      exact c j9 h9
  · dsimp only
    by_cases q : k1 = k
    · subst q
      rw [if_pos rfl]
      by_cases q2 : i1 = i
      · subst q2
        rw [pk_uLs, hx j1 hj1]
        by_cases q3 : j1 = j
        · simp [q3]
        · simp [q3]
      · rw [pk_uLn q2]
        simp [q2]
    · rw [if_neg q]
      simp [q]
set_option maxHeartbeats 4000000 in
set_option maxRecDepth 100000 in
theorem k_GR_put (l : Launch) {X : Lay} (hI : pw_I X) (w : Wd) {T : Nat → Nat → Int64} {n : Int32} (hG : g_rep X w T n) (a b c : Int32) : CtI l y_GR_put (pw_ws y_GR_put c_GR_put 4 (some .int)) { frames := 2, cells := 0, slots := 0, locals := 42 } X w [.ref (pw_a X 1 0), .int a, .int b, .int c] (g_post X w T n 1 true a b c) := by
  refine pw_open (by decide) hI [some (.ref (pw_a X 1 0)), some (.int a), some (.int b), some (.int c)] rfl (Nat.le_of_ble_eq_true rfl) ?_
  intro zp ze zs zm za zb zt zc hargs C hr hlk hnm
  refine pw_iload_n C d_GR_put_0 rfl ?_
  refine pw_iload_n C d_GR_put_1 rfl ?_
  refine pw_iload_n C d_GR_put_2 rfl ?_
  refine pw_callSi C (k_GR_isEdge l hI _ a b c) ⟨pw_cb C 3 W_150 W_2 W_148 ⟨rfl, rfl⟩ (by decide +kernel) ⟨(Nat.le_of_ble_eq_true rfl), (Nat.le_of_ble_eq_true rfl)⟩, pw_w C W_149⟩ rfl rfl (Nat.le_of_ble_eq_true rfl) d_GR_put_3 ⟨Nat.zero_le _, Nat.zero_le _⟩ (fun r w9 hp => ?_)
  obtain ⟨e9, hp⟩ := hp
  refine MW.world e9 ?_
  refine pw_if_ne C 11 d_GR_put_6 (by decide) (fun h6 => ?_) (fun h6 => ?_)
  · have hg := hG
    obtain ⟨d1, d2, d3, w1e, ⟨f, w2e, hf⟩, w3e⟩ := hG
    obtain ⟨⟨i, hi, rfl⟩, ⟨k, hk, rfl⟩, ⟨j, hj, rfl⟩⟩ := yn_t hp h6
    refine pw_aload_n C d_GR_put_11 rfl ?_
    refine pw_get C d_GR_put_12 d1 w1e 0 rfl rfl (by decide) in_GR W_26 rfl ?_
    refine pw_iload_n C d_GR_put_15 rfl ?_
    refine pw_aaldK C d_GR_put_16 d2 w2e hk (hf k hk) ?_
    refine pw_iload_n C d_GR_put_17 rfl ?_
    refine pw_laldK C d_GR_put_18 (d3 k hk) (w3e k hk) hi ?_
    refine pw_iload_n C d_GR_put_19 rfl ?_
    refine pw_callSNi C (k_PF_holds l hI _ _ hj) ⟨pw_cn C 2 W_159 W_1 N_22 ⟨rfl, rfl⟩ (by decide +kernel) ⟨(Nat.le_of_ble_eq_true rfl), (Nat.le_of_ble_eq_true rfl)⟩, pw_w C W_158, trivial⟩ rfl rfl (Nat.le_of_ble_eq_true rfl) d_GR_put_20 ⟨Nat.zero_le _, Nat.zero_le _⟩ (fun r2 w9 hp2 => ?_)
    obtain ⟨e9, hp2⟩ := hp2
    refine MW.world e9 ?_
    refine pw_if_eq C 28 d_GR_put_23 (by decide) (fun h23 => ?_) (fun h23 => ?_)
    · refine pw_aload_n C d_GR_put_28 rfl ?_
      refine pw_get C d_GR_put_29 d1 w1e 0 rfl rfl (by decide) in_GR W_26 rfl ?_
      refine pw_iload_n C d_GR_put_32 rfl ?_
      refine pw_aaldK C d_GR_put_33 d2 w2e hk (hf k hk) ?_
      refine pw_iload_n C d_GR_put_34 rfl ?_
      refine pw_dup2 C d_GR_put_35 rfl rfl ?_
      refine pw_laldK C d_GR_put_36 (d3 k hk) (w3e k hk) hi ?_
      refine pw_iload_n C d_GR_put_37 rfl ?_
      refine pw_callSNl C (k_PF_bit l hI _ j) ⟨pw_cn C 1 W_162 W_1 N_23 ⟨rfl, rfl⟩ (by decide +kernel) ⟨(Nat.le_of_ble_eq_true rfl), (Nat.le_of_ble_eq_true rfl)⟩, pw_w C W_161, trivial⟩ rfl rfl (Nat.le_of_ble_eq_true rfl) d_GR_put_38 ⟨Nat.zero_le _, Nat.zero_le _⟩ (fun r3 w9 hp3 => ?_)
      obtain ⟨e9, hp3⟩ := hp3
      subst hp3
      refine MW.world e9 ?_
      refine pw_lor C d_GR_put_41 ?_
      refine pw_lastK C d_GR_put_42 (d3 k hk) (w3e k hk) hi ?_
      refine pw_aload_n C d_GR_put_43 rfl ?_
      refine pw_dup C d_GR_put_44 rfl ?_
      refine pw_get C d_GR_put_45 d1 (by rw [pw_up_g _ _ (by decide)]; exact w1e) 1 rfl rfl (by decide) in_GR W_29 rfl ?_
      refine pw_iconst C d_GR_put_48 (v := 1) (by decide) ?_
      refine pw_iadd C d_GR_put_49 ?_
      refine pw_put C d_GR_put_50 d1 (by rw [pw_up_g _ _ (by decide)]; exact w1e) 1 (Nat.le_of_ble_eq_true rfl) rfl (by decide) in_GR t_GR tk_GR n_GR W_29 rfl rfl (tk_GR 1 (by decide)) rfl rfl ?_
      refine pw_iconst C d_GR_put_53 (v := 1) (by decide) ?_
      refine pw_iret C hr hlk d_GR_put_54 ?_
      have hb : bt_f (T k i) j = false := by
        cases q : bt_f (T k i) j with
        | false => rfl
        | true => exact absurd q (yn_f hp2 h23)
      refine Or.inr ⟨i, k, j, hi, hk, hj, rfl, rfl, rfl, Or.inr ⟨hb, rfl, ?_⟩⟩
      exact g_wrote hg hk (fun j1 hj1 => by
        rw [bt_or, bt_bit hj]
        by_cases q : j1 = j
        · subst q; simp
        · simp [q])
    · refine pw_iconst C d_GR_put_26 (v := 0) (by decide) ?_
      refine pw_iret C hr hlk d_GR_put_27 ?_
      exact Or.inr ⟨i, k, j, hi, hk, hj, rfl, rfl, rfl, Or.inl ⟨yn_t hp2 h23, rfl, rfl⟩⟩
  · refine pw_iconst C d_GR_put_9 (v := -1) (by decide) ?_
    refine pw_iret C hr hlk d_GR_put_10 ?_
    exact Or.inl ⟨yn_f hp h6, rfl, rfl⟩
set_option maxHeartbeats 4000000 in
set_option maxRecDepth 100000 in
theorem k_GR_remove (l : Launch) {X : Lay} (hI : pw_I X) (w : Wd) {T : Nat → Nat → Int64} {n : Int32} (hG : g_rep X w T n) (a b c : Int32) : CtI l y_GR_remove (pw_ws y_GR_remove c_GR_remove 4 (some .int)) { frames := 2, cells := 0, slots := 0, locals := 42 } X w [.ref (pw_a X 1 0), .int a, .int b, .int c] (g_post X w T n (-1) false a b c) := by
  refine pw_open (by decide) hI [some (.ref (pw_a X 1 0)), some (.int a), some (.int b), some (.int c)] rfl (Nat.le_of_ble_eq_true rfl) ?_
  intro zp ze zs zm za zb zt zc hargs C hr hlk hnm
  refine pw_iload_n C d_GR_remove_0 rfl ?_
  refine pw_iload_n C d_GR_remove_1 rfl ?_
  refine pw_iload_n C d_GR_remove_2 rfl ?_
  refine pw_callSi C (k_GR_isEdge l hI _ a b c) ⟨pw_cb C 3 W_150 W_2 W_148 ⟨rfl, rfl⟩ (by decide +kernel) ⟨(Nat.le_of_ble_eq_true rfl), (Nat.le_of_ble_eq_true rfl)⟩, pw_w C W_149⟩ rfl rfl (Nat.le_of_ble_eq_true rfl) d_GR_remove_3 ⟨Nat.zero_le _, Nat.zero_le _⟩ (fun r w9 hp => ?_)
  obtain ⟨e9, hp⟩ := hp
  refine MW.world e9 ?_
  refine pw_if_ne C 11 d_GR_remove_6 (by decide) (fun h6 => ?_) (fun h6 => ?_)
  · have hg := hG
    obtain ⟨d1, d2, d3, w1e, ⟨f, w2e, hf⟩, w3e⟩ := hG
    obtain ⟨⟨i, hi, rfl⟩, ⟨k, hk, rfl⟩, ⟨j, hj, rfl⟩⟩ := yn_t hp h6
    refine pw_aload_n C d_GR_remove_11 rfl ?_
    refine pw_get C d_GR_remove_12 d1 w1e 0 rfl rfl (by decide) in_GR W_26 rfl ?_
    refine pw_iload_n C d_GR_remove_15 rfl ?_
    refine pw_aaldK C d_GR_remove_16 d2 w2e hk (hf k hk) ?_
    refine pw_iload_n C d_GR_remove_17 rfl ?_
    refine pw_laldK C d_GR_remove_18 (d3 k hk) (w3e k hk) hi ?_
    refine pw_iload_n C d_GR_remove_19 rfl ?_
    refine pw_callSNi C (k_PF_holds l hI _ _ hj) ⟨pw_cn C 2 W_159 W_1 N_22 ⟨rfl, rfl⟩ (by decide +kernel) ⟨(Nat.le_of_ble_eq_true rfl), (Nat.le_of_ble_eq_true rfl)⟩, pw_w C W_158, trivial⟩ rfl rfl (Nat.le_of_ble_eq_true rfl) d_GR_remove_20 ⟨Nat.zero_le _, Nat.zero_le _⟩ (fun r2 w9 hp2 => ?_)
    obtain ⟨e9, hp2⟩ := hp2
    refine MW.world e9 ?_
    refine pw_if_ne C 28 d_GR_remove_23 (by decide) (fun h23 => ?_) (fun h23 => ?_)
    · refine pw_aload_n C d_GR_remove_28 rfl ?_
      refine pw_get C d_GR_remove_29 d1 w1e 0 rfl rfl (by decide) in_GR W_26 rfl ?_
      refine pw_iload_n C d_GR_remove_32 rfl ?_
      refine pw_aaldK C d_GR_remove_33 d2 w2e hk (hf k hk) ?_
      refine pw_iload_n C d_GR_remove_34 rfl ?_
      refine pw_dup2 C d_GR_remove_35 rfl rfl ?_
      refine pw_laldK C d_GR_remove_36 (d3 k hk) (w3e k hk) hi ?_
      refine pw_iload_n C d_GR_remove_37 rfl ?_
      refine pw_callSNl C (k_PF_bit l hI _ j) ⟨pw_cn C 1 W_162 W_1 N_23 ⟨rfl, rfl⟩ (by decide +kernel) ⟨(Nat.le_of_ble_eq_true rfl), (Nat.le_of_ble_eq_true rfl)⟩, pw_w C W_161, trivial⟩ rfl rfl (Nat.le_of_ble_eq_true rfl) d_GR_remove_38 ⟨Nat.zero_le _, Nat.zero_le _⟩ (fun r3 w9 hp3 => ?_)
      obtain ⟨e9, hp3⟩ := hp3
      subst hp3
      refine MW.world e9 ?_
      refine pw_ldc2_w C d_GR_remove_41 (v := -1) W_175 ?_
      refine pw_lxor C d_GR_remove_44 ?_
      refine pw_land C d_GR_remove_45 ?_
      refine pw_lastK C d_GR_remove_46 (d3 k hk) (w3e k hk) hi ?_
      refine pw_aload_n C d_GR_remove_47 rfl ?_
      refine pw_dup C d_GR_remove_48 rfl ?_
      refine pw_get C d_GR_remove_49 d1 (by rw [pw_up_g _ _ (by decide)]; exact w1e) 1 rfl rfl (by decide) in_GR W_29 rfl ?_
      refine pw_iconst C d_GR_remove_52 (v := 1) (by decide) ?_
      refine pw_isub C d_GR_remove_53 ?_
      refine pw_put C d_GR_remove_54 d1 (by rw [pw_up_g _ _ (by decide)]; exact w1e) 1 (Nat.le_of_ble_eq_true rfl) rfl (by decide) in_GR t_GR tk_GR n_GR W_29 rfl rfl (tk_GR 1 (by decide)) rfl rfl ?_
      refine pw_iconst C d_GR_remove_57 (v := 1) (by decide) ?_
      refine pw_iret C hr hlk d_GR_remove_58 ?_
      refine Or.inr ⟨i, k, j, hi, hk, hj, rfl, rfl, rfl, Or.inr ⟨yn_t hp2 h23, rfl, ?_⟩⟩
      rw [show n - 1 = n + (-1) from by rw [Int32.sub_eq_add_neg]]
      exact g_wrote hg hk (fun j1 hj1 => by
        rw [bt_and, bt_not hj1, bt_bit hj]
        by_cases q : j1 = j
        · subst q; simp
        · simp [q])
    · refine pw_iconst C d_GR_remove_26 (v := 0) (by decide) ?_
      refine pw_iret C hr hlk d_GR_remove_27 ?_
      have hb : bt_f (T k i) j = false := by
        cases q : bt_f (T k i) j with
        | false => rfl
        | true => exact absurd q (yn_f hp2 h23)
      exact Or.inr ⟨i, k, j, hi, hk, hj, rfl, rfl, rfl, Or.inl ⟨hb, rfl, rfl⟩⟩
  · refine pw_iconst C d_GR_remove_9 (v := -1) (by decide) ?_
    refine pw_iret C hr hlk d_GR_remove_10 ?_
    exact Or.inl ⟨yn_f hp h6, rfl, rfl⟩
end
section
/-! READING A PATH: what it is, and what the tables are behind it -/
def rd_f (wd : Nat → Int32) (n : Nat) : Nat → Nat → Nat → Bool × Nat × Nat
  | 0, a, t => (false, a, t)
  | d + 1, a, t =>
    if t < 40 ∧ a < n ∧ 0 ≤ wd a ∧ wd a ≤ 7 then
      if wd a = 0 ∨ wd a = 7 then
        if a + 1 < n ∧ 0 ≤ wd (a + 1) ∧ wd (a + 1) ≤ (if wd a = 0 then 7 else 255) then (true, a + 2, t + 1) else (false, a + 1, t + 1)
      else
        match rd_f wd n d (a + 1) (t + 1) with
        | (true, b, t2) => if wd a = 2 ∨ wd a = 3 then rd_f wd n d b t2 else (true, b, t2)
        | (false, f, t2) => (false, f, t2)
    else (false, a, t)
theorem rd_s (wd : Nat → Int32) (n d a t : Nat) : rd_f wd n (d + 1) a t = if t < 40 ∧ a < n ∧ 0 ≤ wd a ∧ wd a ≤ 7 then
      if wd a = 0 ∨ wd a = 7 then
        if a + 1 < n ∧ 0 ≤ wd (a + 1) ∧ wd (a + 1) ≤ (if wd a = 0 then 7 else 255) then (true, a + 2, t + 1) else (false, a + 1, t + 1)
      else
        match rd_f wd n d (a + 1) (t + 1) with
        | (true, b, t2) => if wd a = 2 ∨ wd a = 3 then rd_f wd n d b t2 else (true, b, t2)
        | (false, f, t2) => (false, f, t2)
    else (false, a, t) := rfl
theorem rd_no {wd : Nat → Int32} {n d a t : Nat} (h : ¬ (t < 40 ∧ a < n ∧ 0 ≤ wd a ∧ wd a ≤ 7)) : rd_f wd n (d + 1) a t = (false, a, t) := by
  rw [rd_s, if_neg h]
theorem rd_leaf {wd : Nat → Int32} {n d a t : Nat} (h : t < 40 ∧ a < n ∧ 0 ≤ wd a ∧ wd a ≤ 7) (h2 : wd a = 0 ∨ wd a = 7) : rd_f wd n (d + 1) a t = if a + 1 < n ∧ 0 ≤ wd (a + 1) ∧ wd (a + 1) ≤ (if wd a = 0 then 7 else 255) then (true, a + 2, t + 1) else (false, a + 1, t + 1) := by
  rw [rd_s, if_pos h, if_pos h2]
theorem rd_f1 {wd : Nat → Int32} {n d a t f t2 : Nat} (h : t < 40 ∧ a < n ∧ 0 ≤ wd a ∧ wd a ≤ 7) (h2 : ¬ (wd a = 0 ∨ wd a = 7)) (h3 : rd_f wd n d (a + 1) (t + 1) = (false, f, t2)) : rd_f wd n (d + 1) a t = (false, f, t2) := by
  rw [rd_s, if_pos h, if_neg h2, h3]
theorem rd_u {wd : Nat → Int32} {n d a t b t2 : Nat} (h : t < 40 ∧ a < n ∧ 0 ≤ wd a ∧ wd a ≤ 7) (h2 : ¬ (wd a = 0 ∨ wd a = 7)) (h3 : rd_f wd n d (a + 1) (t + 1) = (true, b, t2)) (h4 : ¬ (wd a = 2 ∨ wd a = 3)) : rd_f wd n (d + 1) a t = (true, b, t2) := by
  rw [rd_s, if_pos h, if_neg h2, h3]
  exact if_neg h4
theorem rd_b {wd : Nat → Int32} {n d a t b t2 : Nat} (h : t < 40 ∧ a < n ∧ 0 ≤ wd a ∧ wd a ≤ 7) (h2 : ¬ (wd a = 0 ∨ wd a = 7)) (h3 : rd_f wd n d (a + 1) (t + 1) = (true, b, t2)) (h4 : wd a = 2 ∨ wd a = 3) : rd_f wd n (d + 1) a t = rd_f wd n d b t2 := by
  rw [rd_s, if_pos h, if_neg h2, h3]
  exact if_pos h4
/-- where a reading ends: never behind the words' end; parts only grow, up to 40 -/
theorem rd_in (wd : Nat → Int32) (n : Nat) : ∀ (d a t : Nat) (ok : Bool) (b t1 : Nat), rd_f wd n d a t = (ok, b, t1) → a ≤ n → t ≤ 40 → b ≤ n ∧ a ≤ b ∧ t ≤ t1 ∧ t1 ≤ 40 ∧ (ok = true → a < b ∧ t < t1)
  | 0, a, t, ok, b, t1, h, ha, ht => by
    cases h
    exact ⟨ha, Nat.le_refl _, Nat.le_refl _, ht, fun q => by cases q⟩
  | d + 1, a, t, ok, b, t1, h, ha, ht => by
    by_cases c1 : t < 40 ∧ a < n ∧ 0 ≤ wd a ∧ wd a ≤ 7
    · obtain ⟨c1t, c1a, c1b, c1c⟩ := c1
      by_cases c2 : wd a = 0 ∨ wd a = 7
      · rw [rd_leaf ⟨c1t, c1a, c1b, c1c⟩ c2] at h
        by_cases c3 : a + 1 < n ∧ 0 ≤ wd (a + 1) ∧ wd (a + 1) ≤ (if wd a = 0 then 7 else 255)
        · rw [if_pos c3] at h
          cases h
          exact ⟨by omega, by omega, by omega, by omega, fun _ => by omega⟩
        · rw [if_neg c3] at h
          cases h
          exact ⟨by omega, by omega, by omega, by omega, fun q => by cases q⟩
      · rcases h1 : rd_f wd n d (a + 1) (t + 1) with ⟨ok1, b1, t2⟩
        have ih := rd_in wd n d (a + 1) (t + 1) ok1 b1 t2 h1 (by omega) (by omega)
        cases ok1 with
        | false =>
          rw [rd_f1 ⟨c1t, c1a, c1b, c1c⟩ c2 h1] at h
          cases h
          exact ⟨by omega, by omega, by omega, by omega, fun q => by cases q⟩
        | true =>
          have ih5 := ih.2.2.2.2 rfl
          by_cases c4 : wd a = 2 ∨ wd a = 3
          · rw [rd_b ⟨c1t, c1a, c1b, c1c⟩ c2 h1 c4] at h
            have ih2 := rd_in wd n d b1 t2 ok b t1 h (by omega) (by omega)
            exact ⟨by omega, by omega, by omega, by omega, fun q => by have := ih2.2.2.2.2 q; omega⟩
          · rw [rd_u ⟨c1t, c1a, c1b, c1c⟩ c2 h1 c4] at h
            cases h
            exact ⟨by omega, by omega, by omega, by omega, fun _ => by omega⟩
    · rw [rd_no c1] at h
      cases h
      exact ⟨ha, Nat.le_refl _, Nat.le_refl _, ht, fun q => by cases q⟩
def lb_f (k v : Int32) : Int32 := if k = 0 then (1 : Int32) <<< (v &&& 31) else 255 - v
/-- the tables of the part t that begins at the word a, and of the parts inside it, up to t1; it ends before the word b -/
def tb_f (wd ks ls ss : Nat → Int32) : Nat → Nat → Nat → Nat → Nat → Prop
  | 0, _, _, _, _ => False
  | d + 1, a, t, b, t1 => ks t = wd a ∧
    ((wd a = 0 ∨ wd a = 7) → b = a + 2 ∧ t1 = t + 1 ∧ ls t = lb_f (wd a) (wd (a + 1))) ∧
    (¬ (wd a = 0 ∨ wd a = 7) → (wd a = 2 ∨ wd a = 3) → ∃ b1 t2, tb_f wd ks ls ss d (a + 1) (t + 1) b1 t2 ∧ ss t = nI t2 ∧ tb_f wd ks ls ss d b1 t2 b t1) ∧
    (¬ (wd a = 0 ∨ wd a = 7) → ¬ (wd a = 2 ∨ wd a = 3) → ss t = nI t ∧ tb_f wd ks ls ss d (a + 1) (t + 1) b t1)
theorem tb_lt (wd ks ls ss : Nat → Int32) : ∀ (d a t b t1 : Nat), tb_f wd ks ls ss d a t b t1 → t < t1
  | 0, _, _, _, _, h => h.elim
  | d + 1, a, t, b, t1, h => by
    obtain ⟨-, h1, h2, h3⟩ := h
    by_cases c : wd a = 0 ∨ wd a = 7
    · have := (h1 c).2.1; omega
    · by_cases c2 : wd a = 2 ∨ wd a = 3
      · obtain ⟨b1, t2, g1, -, g2⟩ := h2 c c2
        have := tb_lt wd ks ls ss d _ _ _ _ g1
        have := tb_lt wd ks ls ss d _ _ _ _ g2
        omega
      · have := tb_lt wd ks ls ss d _ _ _ _ (h3 c c2).2; omega
theorem tb_congr (wd ks ls ss ks' ls' ss' : Nat → Int32) : ∀ (d a t b t1 : Nat), tb_f wd ks ls ss d a t b t1 → (∀ p, t ≤ p → p < t1 → ks' p = ks p ∧ ls' p = ls p ∧ ss' p = ss p) → tb_f wd ks' ls' ss' d a t b t1
  | 0, _, _, _, _, h, _ => h.elim
  | d + 1, a, t, b, t1, h, hc => by
    have hl := tb_lt wd ks ls ss (d + 1) a t b t1 h
    obtain ⟨h0, h1, h2, h3⟩ := h
    obtain ⟨e1, e2, e3⟩ := hc t (Nat.le_refl t) hl
    refine ⟨e1.trans h0, fun c => ?_, fun c c2 => ?_, fun c c2 => ?_⟩
    · obtain ⟨g1, g2, g3⟩ := h1 c
      exact ⟨g1, g2, e2.trans g3⟩
    · obtain ⟨b1, t2, g1, g2, g3⟩ := h2 c c2
      have l1 := tb_lt wd ks ls ss d _ _ _ _ g1
      have l2 := tb_lt wd ks ls ss d _ _ _ _ g3
      exact ⟨b1, t2, tb_congr wd ks ls ss ks' ls' ss' d _ _ _ _ g1 (fun p hp1 hp2 => hc p (by omega) (by omega)), e3.trans g2, tb_congr wd ks ls ss ks' ls' ss' d _ _ _ _ g3 (fun p hp1 hp2 => hc p (by omega) (by omega))⟩
    · exact ⟨e3.trans (h3 c c2).1, tb_congr wd ks ls ss ks' ls' ss' d _ _ _ _ (h3 c c2).2 (fun p hp1 hp2 => hc p (by omega) (by omega))⟩
/-- the tables, part by part: where a part's parts are -/
def fl_f (ks ss : Nat → Int32) (parts : Nat) : Prop := ∀ p, p < parts → ¬ (ks p = 0 ∨ ks p = 7) → p + 1 < parts ∧ ∃ q, q < parts ∧ p ≤ q ∧ ss p = nI q ∧ ((ks p = 2 ∨ ks p = 3) → p < q)
theorem tb_fl (wd ks ls ss : Nat → Int32) : ∀ (d a t b t1 : Nat), tb_f wd ks ls ss d a t b t1 → ∀ p, t ≤ p → p < t1 → ¬ (ks p = 0 ∨ ks p = 7) → p + 1 < t1 ∧ ∃ q, q < t1 ∧ p ≤ q ∧ ss p = nI q ∧ ((ks p = 2 ∨ ks p = 3) → p < q)
  | 0, _, _, _, _, h => h.elim
  | d + 1, a, t, b, t1, h => by
    intro p hp1 hp2 hp3
    obtain ⟨h0, h1, h2, h3⟩ := h
    by_cases c : wd a = 0 ∨ wd a = 7
    · obtain ⟨-, g2, -⟩ := h1 c
      have : p = t := by omega
      subst this
      rw [h0] at hp3
      exact absurd c hp3
    · by_cases c2 : wd a = 2 ∨ wd a = 3
      · obtain ⟨b1, t2, g1, g2, g3⟩ := h2 c c2
        have l1 := tb_lt wd ks ls ss d _ _ _ _ g1
        have l2 := tb_lt wd ks ls ss d _ _ _ _ g3
        rcases Nat.lt_trichotomy p t with q | q | q
        · omega
        · subst q
          exact ⟨by omega, t2, by omega, by omega, g2, fun _ => by omega⟩
        · rcases Nat.lt_or_ge p t2 with q2 | q2
          · obtain ⟨k1, x, k2, k3, k4, k5⟩ := tb_fl wd ks ls ss d _ _ _ _ g1 p (by omega) q2 hp3
            exact ⟨by omega, x, by omega, k3, k4, k5⟩
          · exact tb_fl wd ks ls ss d _ _ _ _ g3 p q2 hp2 hp3
      · obtain ⟨g1, g2⟩ := h3 c c2
        have l1 := tb_lt wd ks ls ss d _ _ _ _ g2
        by_cases q : p = t
        · subst q
          exact ⟨by omega, p, by omega, Nat.le_refl p, g1, fun k => by rw [h0] at k; exact absurd k c2⟩
        · obtain ⟨k1, x, k2, k3, k4, k5⟩ := tb_fl wd ks ls ss d _ _ _ _ g2 p (by omega) hp2 hp3
          exact ⟨by omega, x, by omega, k3, k4, k5⟩
/-- the path's cells over a world -/
def p_w (X : Lay) (w : Wd) (wd : Nat → Int32) (nn tt ft : Int32) (ks ls ss : Nat → Int32) : Wd := fun g i => if i = 0 then (if g = 4 then oB 2 [.ref (pw_a X 5 0), .ref (pw_a X 6 0), .ref (pw_a X 7 0), .ref (pw_a X 8 0), .int nn, .int tt, .int ft] else if g = 5 then aI X 60 wd else if g = 6 then aI X 40 ks else if g = 7 then aI X 40 ls else if g = 8 then aI X 40 ss else w g i) else w g i
theorem p_u4 {X : Lay} {w : Wd} {wd ks ls ss : Nat → Int32} {nn tt ft : Int32} {n1 t1 f1 : Int32} : pw_up (p_w X w wd nn tt ft ks ls ss) 4 0 (oB 2 [.ref (pw_a X 5 0), .ref (pw_a X 6 0), .ref (pw_a X 7 0), .ref (pw_a X 8 0), .int n1, .int t1, .int f1]) = p_w X w wd n1 t1 f1 ks ls ss := by
  funext g i
  by_cases hi : i = 0
  · by_cases hg : g = 4
    · subst hi; subst hg; rfl
    · rw [pw_up_ne _ _ (fun q => hg q.1)]
      simp only [p_w, hi, hg, if_true, if_false]
  · rw [pw_up_ne _ _ (fun q => hi q.2)]
    simp only [p_w, hi, if_false]
theorem p_u5 {X : Lay} {w : Wd} {wd ks ls ss : Nat → Int32} {nn tt ft : Int32} {f : Nat → Int32} : pw_up (p_w X w wd nn tt ft ks ls ss) 5 0 (aI X 60 f) = p_w X w f nn tt ft ks ls ss := by
  funext g i
  by_cases hi : i = 0
  · by_cases hg : g = 5
    · subst hi; subst hg; rfl
    · rw [pw_up_ne _ _ (fun q => hg q.1)]
      simp only [p_w, hi, hg, if_true, if_false]
  · rw [pw_up_ne _ _ (fun q => hi q.2)]
    simp only [p_w, hi, if_false]
theorem p_u6 {X : Lay} {w : Wd} {wd ks ls ss : Nat → Int32} {nn tt ft : Int32} {f : Nat → Int32} : pw_up (p_w X w wd nn tt ft ks ls ss) 6 0 (aI X 40 f) = p_w X w wd nn tt ft f ls ss := by
  funext g i
  by_cases hi : i = 0
  · by_cases hg : g = 6
    · subst hi; subst hg; rfl
    · rw [pw_up_ne _ _ (fun q => hg q.1)]
      simp only [p_w, hi, hg, if_true, if_false]
  · rw [pw_up_ne _ _ (fun q => hi q.2)]
    simp only [p_w, hi, if_false]
theorem p_u7 {X : Lay} {w : Wd} {wd ks ls ss : Nat → Int32} {nn tt ft : Int32} {f : Nat → Int32} : pw_up (p_w X w wd nn tt ft ks ls ss) 7 0 (aI X 40 f) = p_w X w wd nn tt ft ks f ss := by
  funext g i
  by_cases hi : i = 0
  · by_cases hg : g = 7
    · subst hi; subst hg; rfl
    · rw [pw_up_ne _ _ (fun q => hg q.1)]
      simp only [p_w, hi, hg, if_true, if_false]
  · rw [pw_up_ne _ _ (fun q => hi q.2)]
    simp only [p_w, hi, if_false]
theorem p_u8 {X : Lay} {w : Wd} {wd ks ls ss : Nat → Int32} {nn tt ft : Int32} {f : Nat → Int32} : pw_up (p_w X w wd nn tt ft ks ls ss) 8 0 (aI X 40 f) = p_w X w wd nn tt ft ks ls f := by
  funext g i
  by_cases hi : i = 0
  · by_cases hg : g = 8
    · subst hi; subst hg; rfl
    · rw [pw_up_ne _ _ (fun q => hg q.1)]
      simp only [p_w, hi, hg, if_true, if_false]
  · rw [pw_up_ne _ _ (fun q => hi q.2)]
    simp only [p_w, hi, if_false]
theorem p_row {X : Lay} {w : Wd} {wd ks ls ss : Nat → Int32} {nn tt ft : Int32} {g : Nat} (h4 : g ≠ 4) (h5 : g ≠ 5) (h6 : g ≠ 6) (h7 : g ≠ 7) (h8 : g ≠ 8) : p_w X w wd nn tt ft ks ls ss g = w g := by
  funext i
  by_cases hi : i = 0
  · simp only [p_w, hi, h4, h5, h6, h7, h8, if_true, if_false]
  · simp only [p_w, hi, if_false]
theorem p_ww {X : Lay} {w : Wd} {wd ks ls ss : Nat → Int32} {nn tt ft : Int32} {wd' ks' ls' ss' : Nat → Int32} {n' t' f' : Int32} : p_w X (p_w X w wd' n' t' f' ks' ls' ss') wd nn tt ft ks ls ss = p_w X w wd nn tt ft ks ls ss := by
  funext g i
  by_cases hi : i = 0
  · by_cases h4 : g = 4
    · simp only [p_w, hi, h4, if_true]
    · by_cases h5 : g = 5
      · simp [p_w, hi, h5]
      · by_cases h6 : g = 6
        · simp [p_w, hi, h6]
        · by_cases h7 : g = 7
          · simp [p_w, hi, h7]
          · by_cases h8 : g = 8
            · simp [p_w, hi, h8]
            · simp only [p_w, hi, h4, h5, h6, h7, h8, if_true, if_false]
  · simp only [p_w, hi, if_false]
/-- which keys there are -/
def dm_k (g i : Nat) : Bool := if g = 3 then decide (i < 8) else if g = 11 then decide (i < 40) else if g = 16 then decide (i < 12) else decide (g < 27 ∧ i = 0)
def Dm (X : Lay) : Prop := ∀ g i, dm_k g i = true → pw_d X g i
theorem fc_neg : ∀ b, b < 200 → (-100 - nI b : Int32) < 0 := by decide +kernel
end
section
/-! PATH: its methods, leaves first -/
set_option maxHeartbeats 4000000 in
set_option maxRecDepth 100000 in
theorem k_PA_faultAt (l : Launch) {X : Lay} (hI : pw_I X) (w : Wd) (a : Int32) : CtI l y_PA_faultAt (pw_ws y_PA_faultAt c_PA_faultAt 1 (some .int)) { frames := 0, cells := 0, slots := 0, locals := 0 } X w [.int a] (fun r w1 => w1 = w ∧ r = -100 - a) := by
  refine pw_open (by decide) hI [some (.int a)] rfl (Nat.le_of_ble_eq_true rfl) ?_
  intro zp ze zs zm za zb zt zc hargs C hr hlk hnm
  refine pw_bipush C d_PA_faultAt_0 (v := -100) (by decide) ?_
  refine pw_iload_n C d_PA_faultAt_2 rfl ?_
  refine pw_isub C d_PA_faultAt_3 ?_
  refine pw_iret C hr hlk d_PA_faultAt_4 ?_
  exact ⟨rfl, rfl⟩
set_option maxHeartbeats 4000000 in
set_option maxRecDepth 100000 in
theorem k_PA_isWithin (l : Launch) {X : Lay} (hI : pw_I X) (hX : Dm X) (w : Wd) {wd ks ls ss : Nat → Int32} {n : Nat} {tt ft : Int32} (hn : n ≤ 60) {a : Nat} (ha : a < 2 ^ 31) (lo hi : Int32) : CtI l y_PA_isWithin (pw_ws y_PA_isWithin c_PA_isWithin 4 (some .boolean)) { frames := 0, cells := 0, slots := 0, locals := 0 } X (p_w X w wd (nI n) tt ft ks ls ss) [.ref (pw_a X 4 0), .int (nI a), .int lo, .int hi] (fun r w1 => w1 = (p_w X w wd (nI n) tt ft ks ls ss) ∧ yn r (a < n ∧ lo ≤ wd a ∧ wd a ≤ hi)) := by
  refine pw_open (by decide) hI [some (.ref (pw_a X 4 0)), some (.int (nI a)), some (.int lo), some (.int hi)] rfl (Nat.le_of_ble_eq_true rfl) ?_
  intro zp ze zs zm za zb zt zc hargs C hr hlk hnm
  refine pw_iload_n C d_PA_isWithin_0 rfl ?_
  refine pw_if_lt C 36 d_PA_isWithin_1 (by decide) (fun h1 => ?_) (fun h1 => ?_)
  · exact absurd h1 (nI_pos ha)
  refine pw_iload_n C d_PA_isWithin_4 rfl ?_
  refine pw_aload_n C d_PA_isWithin_5 rfl ?_
  refine pw_get C d_PA_isWithin_6 (hX 4 0 rfl) rfl 4 rfl rfl (by decide) in_PA W_53 rfl ?_
  refine pw_icmp_ge C 36 d_PA_isWithin_9 (by decide) (fun h9 => ?_) (fun h9 => ?_)
  · refine pw_iconst C d_PA_isWithin_36 (v := 0) (by decide) ?_
    refine pw_zret C hr (by first | rfl | decide) hlk d_PA_isWithin_37 ?_
    refine ⟨rfl, yn_0 (fun q => ?_)⟩
    have := (nI_leI (by omega) ha).mp h9
    omega
  · have h9b : a < n := Nat.not_le.mp (fun q => h9 (nI_le q ha))
    refine pw_aload_n C d_PA_isWithin_12 rfl ?_
    refine pw_get C d_PA_isWithin_13 (hX 4 0 rfl) rfl 0 rfl rfl (by decide) in_PA W_43 rfl ?_
    refine pw_iload_n C d_PA_isWithin_16 rfl ?_
    refine pw_ialdK C d_PA_isWithin_17 (hX 5 0 rfl) rfl (by omega) ?_
    refine pw_iload_n C d_PA_isWithin_18 rfl ?_
    refine pw_icmp_lt C 36 d_PA_isWithin_19 (by decide) (fun h19 => ?_) (fun h19 => ?_)
    · refine pw_iconst C d_PA_isWithin_36 (v := 0) (by decide) ?_
      refine pw_zret C hr (by first | rfl | decide) hlk d_PA_isWithin_37 ?_
      exact ⟨rfl, yn_0 (fun q => Int32.not_le.mpr h19 q.2.1)⟩
    · refine pw_aload_n C d_PA_isWithin_22 rfl ?_
      refine pw_get C d_PA_isWithin_23 (hX 4 0 rfl) rfl 0 rfl rfl (by decide) in_PA W_43 rfl ?_
      refine pw_iload_n C d_PA_isWithin_26 rfl ?_
      refine pw_ialdK C d_PA_isWithin_27 (hX 5 0 rfl) rfl (by omega) ?_
      refine pw_iload_n C d_PA_isWithin_28 rfl ?_
      refine pw_icmp_gt C 36 d_PA_isWithin_29 (by decide) (fun h29 => ?_) (fun h29 => ?_)
      · refine pw_iconst C d_PA_isWithin_36 (v := 0) (by decide) ?_
        refine pw_zret C hr (by first | rfl | decide) hlk d_PA_isWithin_37 ?_
        exact ⟨rfl, yn_0 (fun q => Int32.not_le.mpr h29 q.2.2)⟩
      · refine pw_iconst C d_PA_isWithin_32 (v := 1) (by decide) ?_
        refine pw_goto C 37 d_PA_isWithin_33 (by decide) ?_
        refine pw_zret C hr (by first | rfl | decide) hlk d_PA_isWithin_37 ?_
        exact ⟨rfl, yn_1 ⟨h9b, Int32.not_lt.mp h19, Int32.not_lt.mp h29⟩⟩
set_option maxHeartbeats 4000000 in
set_option maxRecDepth 100000 in
theorem k_PA_isJust (l : Launch) {X : Lay} (hI : pw_I X) (hX : Dm X) (w : Wd) {wd ks ls ss : Nat → Int32} {nn tt ft : Int32} : CtI l y_PA_isJust (pw_ws y_PA_isJust c_PA_isJust 1 (some .boolean)) { frames := 0, cells := 0, slots := 0, locals := 0 } X (p_w X w wd nn tt ft ks ls ss) [.ref (pw_a X 4 0)] (fun r w1 => w1 = p_w X w wd nn tt ft ks ls ss ∧ yn r (ft = 0)) := by
  refine pw_open (by decide) hI [some (.ref (pw_a X 4 0))] rfl (Nat.le_of_ble_eq_true rfl) ?_
  intro zp ze zs zm za zb zt zc hargs C hr hlk hnm
  refine pw_aload_n C d_PA_isJust_0 rfl ?_
  refine pw_get C d_PA_isJust_1 (hX 4 0 rfl) rfl 6 rfl rfl (by decide) in_PA W_57 rfl ?_
  refine pw_if_ne C 11 d_PA_isJust_4 (by decide) (fun h4 => ?_) (fun h4 => ?_)
  · refine pw_iconst C d_PA_isJust_11 (v := 0) (by decide) ?_
    refine pw_zret C hr (by first | rfl | decide) hlk d_PA_isJust_12 ?_
    exact ⟨rfl, yn_0 h4⟩
  · refine pw_iconst C d_PA_isJust_7 (v := 1) (by decide) ?_
    refine pw_goto C 12 d_PA_isJust_8 (by decide) ?_
    refine pw_zret C hr (by first | rfl | decide) hlk d_PA_isJust_12 ?_
    exact ⟨rfl, yn_1 h4⟩
set_option maxHeartbeats 4000000 in
set_option maxRecDepth 100000 in
theorem k_PA_readLabels (l : Launch) {X : Lay} (hI : pw_I X) (hX : Dm X) (w : Wd) {wd ks ls ss : Nat → Int32} {n : Nat} {tt ft : Int32} (hn : n ≤ 60) {a t : Nat} (ha : a < 2 ^ 31) (ht : t < 40) : CtI l y_PA_readLabels (pw_ws y_PA_readLabels c_PA_readLabels 5 (some .int)) { frames := 1, cells := 0, slots := 0, locals := 23 } X (p_w X w wd (nI n) tt ft ks ls ss) [.ref (pw_a X 4 0), .int (nI t), .int (nI a)] (fun r w1 => (a < n ∧ 0 ≤ wd a ∧ wd a ≤ (if ks t = 0 then 7 else 255) ∧ r = nI (a + 1) ∧ w1 = p_w X w wd (nI n) tt ft ks (upd ls t (lb_f (ks t) (wd a))) ss) ∨ (¬ (a < n ∧ 0 ≤ wd a ∧ wd a ≤ (if ks t = 0 then 7 else 255)) ∧ r = -100 - nI a ∧ w1 = (p_w X w wd (nI n) tt ft ks ls ss))) := by
  refine pw_open (by decide) hI [some (.ref (pw_a X 4 0)), some (.int (nI t)), some (.int (nI a)), none, none] rfl (Nat.le_of_ble_eq_true rfl) ?_
  intro zp ze zs zm za zb zt zc hargs C hr hlk hnm
  refine pw_aload_n C d_PA_readLabels_0 rfl ?_
  refine pw_get C d_PA_readLabels_1 (hX 4 0 rfl) rfl 1 rfl rfl (by decide) in_PA W_44 rfl ?_
  refine pw_iload_n C d_PA_readLabels_4 rfl ?_
  refine pw_ialdK C d_PA_readLabels_5 (hX 6 0 rfl) rfl ht ?_
  refine pw_if_ne C 13 d_PA_readLabels_6 (by decide) (fun h6 => ?_) (fun h6 => ?_)
  · refine pw_iconst C d_PA_readLabels_13 (v := 0) (by decide) ?_
    refine pw_istore_n C d_PA_readLabels_14 (by decide) ?_
    refine pw_aload_n C d_PA_readLabels_15 rfl ?_
    refine pw_iload_n C d_PA_readLabels_16 rfl ?_
    refine pw_iconst C d_PA_readLabels_17 (v := 0) (by decide) ?_
    refine pw_iload_n C d_PA_readLabels_18 rfl ?_
    refine pw_if_eq C 27 d_PA_readLabels_19 (by decide) (fun h19 => ?_) (fun h19 => ?_)
    · refine pw_sipush C d_PA_readLabels_27 (v := 255) (by decide) ?_
      refine pw_callVi C (k_PA_isWithin l hI hX w hn ha _ _) (hX 4 0 rfl) rfl rfl ⟨pw_cb C 3 W_199 W_3 W_196 ⟨rfl, rfl⟩ (by decide +kernel) ⟨(Nat.le_of_ble_eq_true rfl), (Nat.le_of_ble_eq_true rfl)⟩, pw_w C W_198, pw_w C V_6⟩ rfl rfl (Nat.le_of_ble_eq_true rfl) d_PA_readLabels_30 ⟨Nat.zero_le _, Nat.zero_le _⟩ (fun r w9 hp => ?_)
      obtain ⟨e9, hp⟩ := hp
      refine MW.world e9 ?_
      refine pw_if_ne C 41 d_PA_readLabels_33 (by decide) (fun h33 => ?_) (fun h33 => ?_)
      · obtain ⟨hy1, hy2, hy3⟩ := yn_t hp h33
        refine pw_aload_n C d_PA_readLabels_41 rfl ?_
        refine pw_get C d_PA_readLabels_42 (hX 4 0 rfl) rfl 0 rfl rfl (by decide) in_PA W_43 rfl ?_
        refine pw_iload_n C d_PA_readLabels_45 rfl ?_
        refine pw_ialdK C d_PA_readLabels_46 (hX 5 0 rfl) rfl (by omega) ?_
        refine pw_istore C d_PA_readLabels_47 (by decide) ?_
        refine pw_aload_n C d_PA_readLabels_49 rfl ?_
        refine pw_get C d_PA_readLabels_50 (hX 4 0 rfl) rfl 2 rfl rfl (by decide) in_PA W_47 rfl ?_
        refine pw_iload_n C d_PA_readLabels_53 rfl ?_
        refine pw_iload_n C d_PA_readLabels_54 rfl ?_
        refine pw_if_eq C 65 d_PA_readLabels_55 (by decide) (fun h55 => ?_) (fun h55 => ?_)
        · refine pw_sipush C d_PA_readLabels_65 (v := 255) (by decide) ?_
          refine pw_iload C d_PA_readLabels_68 rfl ?_
          refine pw_isub C d_PA_readLabels_70 ?_
          refine pw_iastK C d_PA_readLabels_71 (hX 7 0 rfl) rfl ht ?_
          refine MW.world p_u7 ?_
          refine pw_iload_n C d_PA_readLabels_72 rfl ?_
          refine pw_iconst C d_PA_readLabels_73 (v := 1) (by decide) ?_
          refine pw_iadd C d_PA_readLabels_74 ?_
          refine pw_iret C hr hlk d_PA_readLabels_75 ?_
          refine Or.inl ⟨hy1, hy2, by rw [if_neg h6]; exact hy3, nI_1 a, ?_⟩
          show p_w X w wd (nI n) tt ft ks (upd ls t _) ss = p_w X w wd (nI n) tt ft ks (upd ls t (lb_f (ks t) (wd a))) ss
          rw [show lb_f (ks t) (wd a) = 255 - wd a from if_neg h6]
        · exact absurd rfl h55
      · refine pw_iload_n C d_PA_readLabels_36 rfl ?_
        refine pw_callSi C (k_PA_faultAt l hI _ _) ⟨pw_cb C 1 W_202 W_3 W_200 ⟨rfl, rfl⟩ (by decide +kernel) ⟨(Nat.le_of_ble_eq_true rfl), (Nat.le_of_ble_eq_true rfl)⟩, pw_w C W_201⟩ rfl rfl (Nat.le_of_ble_eq_true rfl) d_PA_readLabels_37 ⟨Nat.zero_le _, Nat.zero_le _⟩ (fun r2 w9 hp2 => ?_)
        obtain ⟨e9, hp2⟩ := hp2
        refine MW.world e9 ?_
        refine pw_iret C hr hlk d_PA_readLabels_40 ?_
        refine Or.inr ⟨fun q => yn_f hp h33 ⟨q.1, q.2.1, ?_⟩, hp2, rfl⟩
        have q3 := q.2.2
        rw [if_neg h6] at q3
        exact q3
    · exact absurd rfl h19
  · refine pw_iconst C d_PA_readLabels_9 (v := 1) (by decide) ?_
    refine pw_goto C 14 d_PA_readLabels_10 (by decide) ?_
    refine pw_istore_n C d_PA_readLabels_14 (by decide) ?_
    refine pw_aload_n C d_PA_readLabels_15 rfl ?_
    refine pw_iload_n C d_PA_readLabels_16 rfl ?_
    refine pw_iconst C d_PA_readLabels_17 (v := 0) (by decide) ?_
    refine pw_iload_n C d_PA_readLabels_18 rfl ?_
    refine pw_if_eq C 27 d_PA_readLabels_19 (by decide) (fun h19 => ?_) (fun h19 => ?_)
    · exact absurd h19 (by decide)
    refine pw_bipush C d_PA_readLabels_22 (v := 7) (by decide) ?_
    refine pw_goto C 30 d_PA_readLabels_24 (by decide) ?_
    refine pw_callVi C (k_PA_isWithin l hI hX w hn ha _ _) (hX 4 0 rfl) rfl rfl ⟨pw_cb C 3 W_199 W_3 W_196 ⟨rfl, rfl⟩ (by decide +kernel) ⟨(Nat.le_of_ble_eq_true rfl), (Nat.le_of_ble_eq_true rfl)⟩, pw_w C W_198, pw_w C V_6⟩ rfl rfl (Nat.le_of_ble_eq_true rfl) d_PA_readLabels_30 ⟨Nat.zero_le _, Nat.zero_le _⟩ (fun r w9 hp => ?_)
    obtain ⟨e9, hp⟩ := hp
    refine MW.world e9 ?_
    refine pw_if_ne C 41 d_PA_readLabels_33 (by decide) (fun h33 => ?_) (fun h33 => ?_)
    · obtain ⟨hy1, hy2, hy3⟩ := yn_t hp h33
      refine pw_aload_n C d_PA_readLabels_41 rfl ?_
      refine pw_get C d_PA_readLabels_42 (hX 4 0 rfl) rfl 0 rfl rfl (by decide) in_PA W_43 rfl ?_
      refine pw_iload_n C d_PA_readLabels_45 rfl ?_
      refine pw_ialdK C d_PA_readLabels_46 (hX 5 0 rfl) rfl (by omega) ?_
      refine pw_istore C d_PA_readLabels_47 (by decide) ?_
      refine pw_aload_n C d_PA_readLabels_49 rfl ?_
      refine pw_get C d_PA_readLabels_50 (hX 4 0 rfl) rfl 2 rfl rfl (by decide) in_PA W_47 rfl ?_
      refine pw_iload_n C d_PA_readLabels_53 rfl ?_
      refine pw_iload_n C d_PA_readLabels_54 rfl ?_
      refine pw_if_eq C 65 d_PA_readLabels_55 (by decide) (fun h55 => ?_) (fun h55 => ?_)
      · exact absurd h55 (by decide)
      refine pw_iconst C d_PA_readLabels_58 (v := 1) (by decide) ?_
      refine pw_iload C d_PA_readLabels_59 rfl ?_
      refine pw_ishl C d_PA_readLabels_61 ?_
      refine pw_goto C 71 d_PA_readLabels_62 (by decide) ?_
      refine pw_iastK C d_PA_readLabels_71 (hX 7 0 rfl) rfl ht ?_
      refine MW.world p_u7 ?_
      refine pw_iload_n C d_PA_readLabels_72 rfl ?_
      refine pw_iconst C d_PA_readLabels_73 (v := 1) (by decide) ?_
      refine pw_iadd C d_PA_readLabels_74 ?_
      refine pw_iret C hr hlk d_PA_readLabels_75 ?_
      refine Or.inl ⟨hy1, hy2, by rw [if_pos h6]; exact hy3, nI_1 a, ?_⟩
      show p_w X w wd (nI n) tt ft ks (upd ls t _) ss = p_w X w wd (nI n) tt ft ks (upd ls t (lb_f (ks t) (wd a))) ss
      rw [show lb_f (ks t) (wd a) = (1 : Int32) <<< (wd a &&& 31) from if_pos h6]
    · refine pw_iload_n C d_PA_readLabels_36 rfl ?_
      refine pw_callSi C (k_PA_faultAt l hI _ _) ⟨pw_cb C 1 W_202 W_3 W_200 ⟨rfl, rfl⟩ (by decide +kernel) ⟨(Nat.le_of_ble_eq_true rfl), (Nat.le_of_ble_eq_true rfl)⟩, pw_w C W_201⟩ rfl rfl (Nat.le_of_ble_eq_true rfl) d_PA_readLabels_37 ⟨Nat.zero_le _, Nat.zero_le _⟩ (fun r2 w9 hp2 => ?_)
      obtain ⟨e9, hp2⟩ := hp2
      refine MW.world e9 ?_
      refine pw_iret C hr hlk d_PA_readLabels_40 ?_
      refine Or.inr ⟨fun q => yn_f hp h33 ⟨q.1, q.2.1, ?_⟩, hp2, rfl⟩
      have q3 := q.2.2
      rw [if_pos h6] at q3
      exact q3
/-- what the reading of a part answers, and leaves -/
def rp_post (X : Lay) (w : Wd) (wd : Nat → Int32) (n : Nat) (ft : Int32) (ks ls ss : Nat → Int32) (d a t : Nat) (r : Int32) (w1 : Wd) : Prop :=
  ∃ (ok : Bool) (b t1 : Nat) (ks1 ls1 ss1 : Nat → Int32), rd_f wd n d a t = (ok, b, t1) ∧ w1 = p_w X w wd (nI n) (nI t1) ft ks1 ls1 ss1 ∧ (∀ p, p < t → ks1 p = ks p ∧ ls1 p = ls p ∧ ss1 p = ss p) ∧ (ok = true → r = nI b ∧ tb_f wd ks1 ls1 ss1 d a t b t1) ∧ (ok = false → r = -100 - nI b)
set_option maxHeartbeats 4000000 in
set_option maxRecDepth 100000 in
theorem k_PA_readPart (l : Launch) {X : Lay} (hI : pw_I X) (hX : Dm X) (w : Wd) (wd : Nat → Int32) {n : Nat} (ft : Int32) (hn : n ≤ 60) : ∀ (d : Nat), d ≤ 12 → ∀ (ks ls ss : Nat → Int32) (a t : Nat), a ≤ n → t ≤ 40 → CtI l y_PA_readPart (pw_ws y_PA_readPart c_PA_readPart 6 (some .int)) { frames := d + 2, cells := 0, slots := 0, locals := 25 * d + 47 } X (p_w X w wd (nI n) (nI t) ft ks ls ss) [.ref (pw_a X 4 0), .int (nI a), .int (nI (13 - d))] (rp_post X w wd n ft ks ls ss d a t) := by
  intro d
  induction d with
  | zero =>
    intro hd12 ks ls ss a t ha ht
    refine pw_open (by decide) hI [some (.ref (pw_a X 4 0)), some (.int (nI a)), some (.int (nI 13)), none, none, none] rfl (Nat.le_of_ble_eq_true rfl) ?_
    intro zp ze zs zm za zb zt zc hargs C hr hlk hnm
    refine pw_iload_n C d_PA_readPart_0 rfl ?_
    refine pw_bipush C d_PA_readPart_1 (v := 12) (by decide) ?_
    refine pw_icmp_gt C 26 d_PA_readPart_3 (by decide) (fun h3 => ?_) (fun h3 => ?_)
    · refine pw_iload_n C d_PA_readPart_26 rfl ?_
      refine pw_callSi C (k_PA_faultAt l hI _ _) ⟨pw_cb C 1 W_202 W_3 W_200 ⟨rfl, rfl⟩ (by decide +kernel) ⟨by show 0 + 1 ≤ 0 + 2; omega, by show 8 + (1 + 11) + 0 ≤ 25 * 0 + 47; omega⟩, pw_w C W_201⟩ rfl rfl (Nat.le_of_ble_eq_true rfl) d_PA_readPart_27 ⟨Nat.zero_le _, Nat.zero_le _⟩ (fun r w9 hp => ?_)
      obtain ⟨e9, hp⟩ := hp
      refine MW.world e9 ?_
      refine pw_iret C hr hlk d_PA_readPart_30 ?_
      exact ⟨false, a, t, ks, ls, ss, rfl, rfl, fun p _ => ⟨rfl, rfl, rfl⟩, fun q => (by cases q), fun _ => hp⟩
    · exact absurd (show (12 : Int32) < nI 13 by decide) h3
  | succ d ih =>
    intro hd12 ks ls ss a t ha ht
    have ih := ih (by omega)
    refine pw_open (by decide) hI [some (.ref (pw_a X 4 0)), some (.int (nI a)), some (.int (nI (13 - (d + 1)))), none, none, none] rfl (Nat.le_of_ble_eq_true rfl) ?_
    intro zp ze zs zm za zb zt zc hargs C hr hlk hnm
    refine pw_iload_n C d_PA_readPart_0 rfl ?_
    refine pw_bipush C d_PA_readPart_1 (v := 12) (by decide) ?_
    refine pw_icmp_gt C 26 d_PA_readPart_3 (by decide) (fun h3 => ?_) (fun h3 => ?_)
    · exact absurd ((nI_ltI (a := 12) (by decide) (by omega)).mp h3) (by omega)
    refine pw_aload_n C d_PA_readPart_6 rfl ?_
    refine pw_get C d_PA_readPart_7 (hX 4 0 rfl) rfl 5 rfl rfl (by decide) in_PA W_56 rfl ?_
    refine pw_bipush C d_PA_readPart_10 (v := 40) (by decide) ?_
    refine pw_icmp_ge C 26 d_PA_readPart_12 (by decide) (fun h12 => ?_) (fun h12 => ?_)
    · refine pw_iload_n C d_PA_readPart_26 rfl ?_
      refine pw_callSi C (k_PA_faultAt l hI _ _) ⟨pw_cb C 1 W_202 W_3 W_200 ⟨rfl, rfl⟩ (by decide +kernel) ⟨by show 0 + 1 ≤ d + 1 + 2; omega, by show 8 + (1 + 11) + 0 ≤ 25 * (d + 1) + 47; omega⟩, pw_w C W_201⟩ rfl rfl (Nat.le_of_ble_eq_true rfl) d_PA_readPart_27 ⟨Nat.zero_le _, Nat.zero_le _⟩ (fun r2 w9 hp2 => ?_)
      obtain ⟨e9, hp2⟩ := hp2
      refine MW.world e9 ?_
      refine pw_iret C hr hlk d_PA_readPart_30 ?_
      refine ⟨false, a, t, ks, ls, ss, rd_no (fun q => ?_), rfl, fun p _ => ⟨rfl, rfl, rfl⟩, fun q => (by cases q), fun _ => hp2⟩
      have := (nI_leI (a := 40) (by decide) (by omega)).mp h12
      omega
    · have ht40 : t < 40 := Nat.not_le.mp (fun q => h12 (nI_le q (by omega)))
      refine pw_aload_n C d_PA_readPart_15 rfl ?_
      refine pw_iload_n C d_PA_readPart_16 rfl ?_
      refine pw_iconst C d_PA_readPart_17 (v := 0) (by decide) ?_
      refine pw_bipush C d_PA_readPart_18 (v := 7) (by decide) ?_
      refine pw_callVi C (k_PA_isWithin l hI hX w hn (by omega) _ _) (hX 4 0 rfl) rfl rfl ⟨pw_cb C 3 W_199 W_3 W_196 ⟨rfl, rfl⟩ (by decide +kernel) ⟨by show 0 + 1 ≤ d + 1 + 2; omega, by show 8 + (4 + 11) + 0 ≤ 25 * (d + 1) + 47; omega⟩, pw_w C W_198, pw_w C V_6⟩ rfl rfl (Nat.le_of_ble_eq_true rfl) d_PA_readPart_20 ⟨Nat.zero_le _, Nat.zero_le _⟩ (fun r1 w9 hp1 => ?_)
      obtain ⟨e9, hp1⟩ := hp1
      refine MW.world e9 ?_
      refine pw_if_ne C 31 d_PA_readPart_23 (by decide) (fun h23 => ?_) (fun h23 => ?_)
      · obtain ⟨hy1, hy2, hy3⟩ := yn_t hp1 h23
        have hok : t < 40 ∧ a < n ∧ 0 ≤ wd a ∧ wd a ≤ 7 := ⟨ht40, hy1, hy2, hy3⟩
        refine pw_aload_n C d_PA_readPart_31 rfl ?_
        refine pw_get C d_PA_readPart_32 (hX 4 0 rfl) rfl 5 rfl rfl (by decide) in_PA W_56 rfl ?_
        refine pw_istore_n C d_PA_readPart_35 (by decide) ?_
        refine pw_aload_n C d_PA_readPart_36 rfl ?_
        refine pw_get C d_PA_readPart_37 (hX 4 0 rfl) rfl 0 rfl rfl (by decide) in_PA W_43 rfl ?_
        refine pw_iload_n C d_PA_readPart_40 rfl ?_
        refine pw_ialdK C d_PA_readPart_41 (hX 5 0 rfl) rfl (by omega) ?_
        refine pw_istore C d_PA_readPart_42 (by decide) ?_
        refine pw_aload_n C d_PA_readPart_44 rfl ?_
        refine pw_dup C d_PA_readPart_45 rfl ?_
        refine pw_get C d_PA_readPart_46 (hX 4 0 rfl) rfl 5 rfl rfl (by decide) in_PA W_56 rfl ?_
        refine pw_iconst C d_PA_readPart_49 (v := 1) (by decide) ?_
        refine pw_iadd C d_PA_readPart_50 ?_
        refine pw_put C d_PA_readPart_51 (hX 4 0 rfl) rfl 5 (Nat.le_of_ble_eq_true rfl) rfl (by decide) in_PA t_PA tk_PA n_PA W_56 rfl rfl (tk_PA 5 (by decide)) rfl rfl ?_
        refine MW.world p_u4 ?_
        rw [nI_1]
        refine pw_aload_n C d_PA_readPart_54 rfl ?_
        refine pw_get C d_PA_readPart_55 (hX 4 0 rfl) rfl 1 rfl rfl (by decide) in_PA W_44 rfl ?_
        refine pw_iload_n C d_PA_readPart_58 rfl ?_
        refine pw_iload C d_PA_readPart_59 rfl ?_
        refine pw_iastK C d_PA_readPart_61 (hX 6 0 rfl) rfl ht40 ?_
        refine MW.world p_u6 ?_
        refine pw_aload_n C d_PA_readPart_62 rfl ?_
        refine pw_get C d_PA_readPart_63 (hX 4 0 rfl) rfl 2 rfl rfl (by decide) in_PA W_47 rfl ?_
        refine pw_iload_n C d_PA_readPart_66 rfl ?_
        refine pw_iconst C d_PA_readPart_67 (v := 0) (by decide) ?_
        refine pw_iastK C d_PA_readPart_68 (hX 7 0 rfl) rfl ht40 ?_
        refine MW.world p_u7 ?_
        refine pw_aload_n C d_PA_readPart_69 rfl ?_
        refine pw_get C d_PA_readPart_70 (hX 4 0 rfl) rfl 3 rfl rfl (by decide) in_PA W_50 rfl ?_
        refine pw_iload_n C d_PA_readPart_73 rfl ?_
        refine pw_iload_n C d_PA_readPart_74 rfl ?_
        refine pw_iastK C d_PA_readPart_75 (hX 8 0 rfl) rfl ht40 ?_
        refine MW.world p_u8 ?_
        refine pw_iload C d_PA_readPart_76 rfl ?_
        refine pw_if_eq C 88 d_PA_readPart_78 (by decide) (fun h78 => ?_) (fun h78 => ?_)
        · refine pw_aload_n C d_PA_readPart_88 rfl ?_
          refine pw_iload_n C d_PA_readPart_89 rfl ?_
          refine pw_iload_n C d_PA_readPart_90 rfl ?_
          refine pw_iconst C d_PA_readPart_91 (v := 1) (by decide) ?_
          refine pw_iadd C d_PA_readPart_92 ?_
          rw [nI_1]
          refine pw_callVi C (k_PA_readLabels l hI hX w hn (a := a + 1) (by omega) ht40) (hX 4 0 rfl) rfl rfl ⟨pw_cb C 2 W_206 W_3 W_203 ⟨rfl, rfl⟩ (by decide +kernel) ⟨by show 1 + 1 ≤ d + 1 + 2; omega, by show 8 + (5 + 11) + 23 ≤ 25 * (d + 1) + 47; omega⟩, pw_w C W_205, pw_w C V_7⟩ rfl rfl (Nat.le_of_ble_eq_true rfl) d_PA_readPart_93 ⟨Nat.zero_le _, Nat.zero_le _⟩ (fun r3 w3 hp3 => ?_)
          refine pw_iret C hr hlk d_PA_readPart_96 ?_
          have hleaf : wd a = 0 ∨ wd a = 7 := Or.inl h78
          have hke : upd ks t (wd a) t = wd a := pk_us
          rw [hke] at hp3
          rcases hp3 with ⟨g1, g2, g3, rfl, rfl⟩ | ⟨g1, rfl, rfl⟩
          · refine ⟨true, a + 2, t + 1, _, _, _, by rw [rd_leaf hok hleaf, if_pos ⟨g1, g2, g3⟩], rfl, fun p hp => ?_, fun _ => ⟨rfl, hke, fun _ => ⟨rfl, rfl, pk_us⟩, fun q => absurd hleaf q, fun q => absurd hleaf q⟩, fun q => (by cases q)⟩
            have hne : p ≠ t := by omega
            exact ⟨pk_un hne, by rw [pk_un hne, pk_un hne], pk_un hne⟩
          · refine ⟨false, a + 1, t + 1, _, _, _, by rw [rd_leaf hok hleaf, if_neg g1], rfl, fun p hp => ?_, fun q => (by cases q), fun _ => rfl⟩
            have hne : p ≠ t := by omega
            exact ⟨pk_un hne, pk_un hne, pk_un hne⟩
        · refine pw_iload C d_PA_readPart_81 rfl ?_
          refine pw_bipush C d_PA_readPart_83 (v := 7) (by decide) ?_
          refine pw_icmp_ne C 97 d_PA_readPart_85 (by decide) (fun h85 => ?_) (fun h85 => ?_)
          · refine pw_aload_n C d_PA_readPart_97 rfl ?_
            refine pw_iload_n C d_PA_readPart_98 rfl ?_
            refine pw_iconst C d_PA_readPart_99 (v := 1) (by decide) ?_
            refine pw_iadd C d_PA_readPart_100 ?_
            refine pw_iload_n C d_PA_readPart_101 rfl ?_
            refine pw_iconst C d_PA_readPart_102 (v := 1) (by decide) ?_
            refine pw_iadd C d_PA_readPart_103 ?_
            rw [nI_1 a, show nI (13 - (d + 1)) + 1 = nI (13 - d) from by rw [nI_1]; congr 1; omega]
            refine pw_callVi C (ih _ _ _ (a + 1) (t + 1) (by omega) (by omega)) (hX 4 0 rfl) rfl rfl ⟨pw_cb C 2 W_195 W_3 W_192 ⟨rfl, rfl⟩ (by decide +kernel) ⟨by show (d + 2) + 1 ≤ d + 1 + 2; omega, by show 8 + (6 + 11) + (25 * d + 47) ≤ 25 * (d + 1) + 47; omega⟩, pw_w C W_194, pw_w C V_5⟩ rfl rfl (Nat.le_of_ble_eq_true rfl) d_PA_readPart_104 ⟨Nat.zero_le _, Nat.zero_le _⟩ (fun r4 w4 hp4 => ?_)
            obtain ⟨ok1, b1, t2, ks1, ls1, ss1, hrd1, rfl, hsame1, hok1, hno1⟩ := hp4
            have hin1 := rd_in wd n d (a + 1) (t + 1) ok1 b1 t2 hrd1 (by omega) (by omega)
            have hleaf : ¬ (wd a = 0 ∨ wd a = 7) := fun q => q.elim h78 h85
            refine pw_istore C d_PA_readPart_107 (by decide) ?_
            refine pw_iload C d_PA_readPart_109 rfl ?_
            refine pw_if_lt C 126 d_PA_readPart_111 (by decide) (fun h111 => ?_) (fun h111 => ?_)
            · refine pw_iload C d_PA_readPart_126 rfl ?_
              refine pw_iret C hr hlk d_PA_readPart_128 ?_
              have hsame : ∀ p, p < t → ks1 p = ks p ∧ ls1 p = ls p ∧ ss1 p = ss p := fun p hp => by
                obtain ⟨e1, e2, e3⟩ := hsame1 p (by omega)
                have hne : p ≠ t := by omega
                exact ⟨by rw [e1, pk_un hne], by rw [e2, pk_un hne], by rw [e3, pk_un hne]⟩
              have hkt : ks1 t = wd a := by rw [(hsame1 t (by omega)).1]; exact pk_us
              cases ok1 with
              | true => rw [(hok1 rfl).1] at h111; exact absurd h111 (nI_pos (by omega))
              | false =>
                exact ⟨false, b1, t2, ks1, ls1, ss1, rd_f1 hok hleaf hrd1, rfl, hsame, fun q => (by cases q), hno1⟩
            · refine pw_iload C d_PA_readPart_114 rfl ?_
              refine pw_iconst C d_PA_readPart_116 (v := 2) (by decide) ?_
              refine pw_icmp_eq C 129 d_PA_readPart_117 (by decide) (fun h117 => ?_) (fun h117 => ?_)
              · have hokT : ok1 = true := by
                  cases ok1 with
                  | false => rw [hno1 rfl] at h111; exact absurd (fc_neg b1 (by omega)) h111
                  | true => rfl
                subst hokT
                obtain ⟨hb1e, htb1⟩ := hok1 rfl
                subst hb1e
                refine pw_aload_n C d_PA_readPart_129 rfl ?_
                refine pw_get C d_PA_readPart_130 (hX 4 0 rfl) rfl 3 rfl rfl (by decide) in_PA W_50 rfl ?_
                refine pw_iload_n C d_PA_readPart_133 rfl ?_
                refine pw_aload_n C d_PA_readPart_134 rfl ?_
                refine pw_get C d_PA_readPart_135 (hX 4 0 rfl) rfl 5 rfl rfl (by decide) in_PA W_56 rfl ?_
                refine pw_iastK C d_PA_readPart_138 (hX 8 0 rfl) rfl ht40 ?_
                refine MW.world p_u8 ?_
                refine pw_aload_n C d_PA_readPart_139 rfl ?_
                refine pw_iload C d_PA_readPart_140 rfl ?_
                refine pw_iload_n C d_PA_readPart_142 rfl ?_
                refine pw_iconst C d_PA_readPart_143 (v := 1) (by decide) ?_
                refine pw_iadd C d_PA_readPart_144 ?_
                rw [show nI (13 - (d + 1)) + 1 = nI (13 - d) from by rw [nI_1]; congr 1; omega]
                refine pw_callVi C (ih _ _ _ b1 t2 (by omega) (by omega)) (hX 4 0 rfl) rfl rfl ⟨pw_cb C 2 W_195 W_3 W_192 ⟨rfl, rfl⟩ (by decide +kernel) ⟨by show (d + 2) + 1 ≤ d + 1 + 2; omega, by show 8 + (6 + 11) + (25 * d + 47) ≤ 25 * (d + 1) + 47; omega⟩, pw_w C W_194, pw_w C V_5⟩ rfl rfl (Nat.le_of_ble_eq_true rfl) d_PA_readPart_145 ⟨Nat.zero_le _, Nat.zero_le _⟩ (fun r5 w5 hp5 => ?_)
                refine pw_iret C hr hlk d_PA_readPart_148 ?_
                have hsame : ∀ p, p < t → ks1 p = ks p ∧ ls1 p = ls p ∧ ss1 p = ss p := fun p hp => by
                  obtain ⟨e1, e2, e3⟩ := hsame1 p (by omega)
                  have hne : p ≠ t := by omega
                  exact ⟨by rw [e1, pk_un hne], by rw [e2, pk_un hne], by rw [e3, pk_un hne]⟩
                have hkt : ks1 t = wd a := by rw [(hsame1 t (by omega)).1]; exact pk_us
                have hbi : wd a = 2 ∨ wd a = 3 := Or.inl h117
                obtain ⟨ok2, b2, t3, ks2, ls2, ss2, hrd2, rfl, hsame2, hok2, hno2⟩ := hp5
                have hin2 := rd_in wd n d b1 t2 ok2 b2 t3 hrd2 (by omega) (by omega)
                have e2 : ∀ p, p < t2 → p ≠ t → ks2 p = ks1 p ∧ ls2 p = ls1 p ∧ ss2 p = ss1 p := fun p hp hne => by
                  obtain ⟨f1, f2, f3⟩ := hsame2 p hp
                  exact ⟨f1, f2, by rw [f3, pk_un hne]⟩
                have et := hsame2 t (by omega)
                refine ⟨ok2, b2, t3, ks2, ls2, ss2, by rw [rd_b hok hleaf hrd1 hbi]; exact hrd2, rfl, fun p hp => ?_, fun q => ⟨(hok2 q).1, et.1.trans hkt, fun q => absurd q hleaf, fun _ _ => ⟨b1, t2, ?_, by rw [et.2.2]; exact pk_us, (hok2 q).2⟩, fun _ q => absurd hbi q⟩, hno2⟩
                · obtain ⟨f1, f2, f3⟩ := e2 p (by omega) (by omega)
                  obtain ⟨k1, k2, k3⟩ := hsame p hp
                  exact ⟨f1.trans k1, f2.trans k2, f3.trans k3⟩
                · exact tb_congr wd ks1 ls1 ss1 ks2 ls2 ss2 d _ _ _ _ htb1 (fun p hp1 hp2 => e2 p hp2 (by omega))
              · refine pw_iload C d_PA_readPart_120 rfl ?_
                refine pw_iconst C d_PA_readPart_122 (v := 3) (by decide) ?_
                refine pw_icmp_eq C 129 d_PA_readPart_123 (by decide) (fun h123 => ?_) (fun h123 => ?_)
                · have hokT : ok1 = true := by
                    cases ok1 with
                    | false => rw [hno1 rfl] at h111; exact absurd (fc_neg b1 (by omega)) h111
                    | true => rfl
                  subst hokT
                  obtain ⟨hb1e, htb1⟩ := hok1 rfl
                  subst hb1e
                  refine pw_aload_n C d_PA_readPart_129 rfl ?_
                  refine pw_get C d_PA_readPart_130 (hX 4 0 rfl) rfl 3 rfl rfl (by decide) in_PA W_50 rfl ?_
                  refine pw_iload_n C d_PA_readPart_133 rfl ?_
                  refine pw_aload_n C d_PA_readPart_134 rfl ?_
                  refine pw_get C d_PA_readPart_135 (hX 4 0 rfl) rfl 5 rfl rfl (by decide) in_PA W_56 rfl ?_
                  refine pw_iastK C d_PA_readPart_138 (hX 8 0 rfl) rfl ht40 ?_
                  refine MW.world p_u8 ?_
                  refine pw_aload_n C d_PA_readPart_139 rfl ?_
                  refine pw_iload C d_PA_readPart_140 rfl ?_
                  refine pw_iload_n C d_PA_readPart_142 rfl ?_
                  refine pw_iconst C d_PA_readPart_143 (v := 1) (by decide) ?_
                  refine pw_iadd C d_PA_readPart_144 ?_
                  rw [show nI (13 - (d + 1)) + 1 = nI (13 - d) from by rw [nI_1]; congr 1; omega]
                  refine pw_callVi C (ih _ _ _ b1 t2 (by omega) (by omega)) (hX 4 0 rfl) rfl rfl ⟨pw_cb C 2 W_195 W_3 W_192 ⟨rfl, rfl⟩ (by decide +kernel) ⟨by show (d + 2) + 1 ≤ d + 1 + 2; omega, by show 8 + (6 + 11) + (25 * d + 47) ≤ 25 * (d + 1) + 47; omega⟩, pw_w C W_194, pw_w C V_5⟩ rfl rfl (Nat.le_of_ble_eq_true rfl) d_PA_readPart_145 ⟨Nat.zero_le _, Nat.zero_le _⟩ (fun r5 w5 hp5 => ?_)
                  refine pw_iret C hr hlk d_PA_readPart_148 ?_
                  have hsame : ∀ p, p < t → ks1 p = ks p ∧ ls1 p = ls p ∧ ss1 p = ss p := fun p hp => by
                    obtain ⟨e1, e2, e3⟩ := hsame1 p (by omega)
                    have hne : p ≠ t := by omega
                    exact ⟨by rw [e1, pk_un hne], by rw [e2, pk_un hne], by rw [e3, pk_un hne]⟩
                  have hkt : ks1 t = wd a := by rw [(hsame1 t (by omega)).1]; exact pk_us
                  have hbi : wd a = 2 ∨ wd a = 3 := Or.inr h123
                  obtain ⟨ok2, b2, t3, ks2, ls2, ss2, hrd2, rfl, hsame2, hok2, hno2⟩ := hp5
                  have hin2 := rd_in wd n d b1 t2 ok2 b2 t3 hrd2 (by omega) (by omega)
                  have e2 : ∀ p, p < t2 → p ≠ t → ks2 p = ks1 p ∧ ls2 p = ls1 p ∧ ss2 p = ss1 p := fun p hp hne => by
                    obtain ⟨f1, f2, f3⟩ := hsame2 p hp
                    exact ⟨f1, f2, by rw [f3, pk_un hne]⟩
                  have et := hsame2 t (by omega)
                  refine ⟨ok2, b2, t3, ks2, ls2, ss2, by rw [rd_b hok hleaf hrd1 hbi]; exact hrd2, rfl, fun p hp => ?_, fun q => ⟨(hok2 q).1, et.1.trans hkt, fun q => absurd q hleaf, fun _ _ => ⟨b1, t2, ?_, by rw [et.2.2]; exact pk_us, (hok2 q).2⟩, fun _ q => absurd hbi q⟩, hno2⟩
                  · obtain ⟨f1, f2, f3⟩ := e2 p (by omega) (by omega)
                    obtain ⟨k1, k2, k3⟩ := hsame p hp
                    exact ⟨f1.trans k1, f2.trans k2, f3.trans k3⟩
                  · exact tb_congr wd ks1 ls1 ss1 ks2 ls2 ss2 d _ _ _ _ htb1 (fun p hp1 hp2 => e2 p hp2 (by omega))
                · refine pw_iload C d_PA_readPart_126 rfl ?_
                  refine pw_iret C hr hlk d_PA_readPart_128 ?_
                  have hsame : ∀ p, p < t → ks1 p = ks p ∧ ls1 p = ls p ∧ ss1 p = ss p := fun p hp => by
                    obtain ⟨e1, e2, e3⟩ := hsame1 p (by omega)
                    have hne : p ≠ t := by omega
                    exact ⟨by rw [e1, pk_un hne], by rw [e2, pk_un hne], by rw [e3, pk_un hne]⟩
                  have hkt : ks1 t = wd a := by rw [(hsame1 t (by omega)).1]; exact pk_us
                  cases ok1 with
                  | false => rw [hno1 rfl] at h111; exact absurd (fc_neg b1 (by omega)) h111
                  | true =>
                    have hbi : ¬ (wd a = 2 ∨ wd a = 3) := fun q => q.elim h117 h123
                    exact ⟨true, b1, t2, ks1, ls1, ss1, rd_u hok hleaf hrd1 hbi, rfl, hsame, fun _ => ⟨(hok1 rfl).1, hkt, fun q => absurd q hleaf, fun _ q => absurd q hbi, fun _ _ => ⟨by rw [(hsame1 t (by omega)).2.2]; exact pk_us, (hok1 rfl).2⟩⟩, fun q => (by cases q)⟩
          · refine pw_aload_n C d_PA_readPart_88 rfl ?_
            refine pw_iload_n C d_PA_readPart_89 rfl ?_
            refine pw_iload_n C d_PA_readPart_90 rfl ?_
            refine pw_iconst C d_PA_readPart_91 (v := 1) (by decide) ?_
            refine pw_iadd C d_PA_readPart_92 ?_
            rw [nI_1]
            refine pw_callVi C (k_PA_readLabels l hI hX w hn (a := a + 1) (by omega) ht40) (hX 4 0 rfl) rfl rfl ⟨pw_cb C 2 W_206 W_3 W_203 ⟨rfl, rfl⟩ (by decide +kernel) ⟨by show 1 + 1 ≤ d + 1 + 2; omega, by show 8 + (5 + 11) + 23 ≤ 25 * (d + 1) + 47; omega⟩, pw_w C W_205, pw_w C V_7⟩ rfl rfl (Nat.le_of_ble_eq_true rfl) d_PA_readPart_93 ⟨Nat.zero_le _, Nat.zero_le _⟩ (fun r3 w3 hp3 => ?_)
            refine pw_iret C hr hlk d_PA_readPart_96 ?_
            have hleaf : wd a = 0 ∨ wd a = 7 := Or.inr h85
            have hke : upd ks t (wd a) t = wd a := pk_us
            rw [hke] at hp3
            rcases hp3 with ⟨g1, g2, g3, rfl, rfl⟩ | ⟨g1, rfl, rfl⟩
            · refine ⟨true, a + 2, t + 1, _, _, _, by rw [rd_leaf hok hleaf, if_pos ⟨g1, g2, g3⟩], rfl, fun p hp => ?_, fun _ => ⟨rfl, hke, fun _ => ⟨rfl, rfl, pk_us⟩, fun q => absurd hleaf q, fun q => absurd hleaf q⟩, fun q => (by cases q)⟩
              have hne : p ≠ t := by omega
              exact ⟨pk_un hne, by rw [pk_un hne, pk_un hne], pk_un hne⟩
            · refine ⟨false, a + 1, t + 1, _, _, _, by rw [rd_leaf hok hleaf, if_neg g1], rfl, fun p hp => ?_, fun q => (by cases q), fun _ => rfl⟩
              have hne : p ≠ t := by omega
              exact ⟨pk_un hne, pk_un hne, pk_un hne⟩
      · refine pw_iload_n C d_PA_readPart_26 rfl ?_
        refine pw_callSi C (k_PA_faultAt l hI _ _) ⟨pw_cb C 1 W_202 W_3 W_200 ⟨rfl, rfl⟩ (by decide +kernel) ⟨by show 0 + 1 ≤ d + 1 + 2; omega, by show 8 + (1 + 11) + 0 ≤ 25 * (d + 1) + 47; omega⟩, pw_w C W_201⟩ rfl rfl (Nat.le_of_ble_eq_true rfl) d_PA_readPart_27 ⟨Nat.zero_le _, Nat.zero_le _⟩ (fun r2 w9 hp2 => ?_)
        obtain ⟨e9, hp2⟩ := hp2
        refine MW.world e9 ?_
        refine pw_iret C hr hlk d_PA_readPart_30 ?_
        exact ⟨false, a, t, ks, ls, ss, rd_no (fun q => yn_f hp1 h23 ⟨q.2.1, q.2.2.1, q.2.2.2⟩), rfl, fun p _ => ⟨rfl, rfl, rfl⟩, fun q => (by cases q), fun _ => hp2⟩
end
section
/-! PATH: readWords, append, empty -/
/-- what look answers -/
def lk_f (wd : Nat → Int32) (n : Nat) : Int32 := match rd_f wd n 12 0 0 with
  | (true, b, _) => if b < n then -100 - nI b else 0
  | (false, f, _) => -100 - nI f
/-- the tables behind a reading of the whole path -/
def p_st (wd : Nat → Int32) (n t : Nat) (ks ls ss : Nat → Int32) : Prop := ∃ (ok : Bool) (b : Nat), rd_f wd n 12 0 0 = (ok, b, t) ∧ (ok = true → tb_f wd ks ls ss 12 0 0 b t)
set_option maxHeartbeats 4000000 in
set_option maxRecDepth 100000 in
theorem k_PA_readWords (l : Launch) {X : Lay} (hI : pw_I X) (hX : Dm X) (w : Wd) {wd ks ls ss : Nat → Int32} {n : Nat} {tt ft : Int32} (hn : n ≤ 60) : CtV l y_PA_readWords (pw_ws y_PA_readWords c_PA_readWords 2 none) { frames := 15, cells := 0, slots := 0, locals := 372 } X (p_w X w wd (nI n) tt ft ks ls ss) [.ref (pw_a X 4 0)] (fun w1 => ∃ t1 ks1 ls1 ss1, w1 = p_w X w wd (nI n) (nI t1) (lk_f wd n) ks1 ls1 ss1 ∧ p_st wd n t1 ks1 ls1 ss1) := by
  refine pw_open (by decide) hI [some (.ref (pw_a X 4 0)), none] rfl (Nat.le_of_ble_eq_true rfl) ?_
  intro zp ze zs zm za zb zt zc hargs C hr hlk hnm
  refine pw_aload_n C d_PA_readWords_0 rfl ?_
  refine pw_iconst C d_PA_readWords_1 (v := 0) (by decide) ?_
  refine pw_put C d_PA_readWords_2 (hX 4 0 rfl) rfl 5 (Nat.le_of_ble_eq_true rfl) rfl (by decide) in_PA t_PA tk_PA n_PA W_56 rfl rfl (tk_PA 5 (by decide)) rfl rfl ?_
  refine MW.world p_u4 ?_
  refine pw_aload_n C d_PA_readWords_5 rfl ?_
  refine pw_iconst C d_PA_readWords_6 (v := 0) (by decide) ?_
  refine pw_iconst C d_PA_readWords_7 (v := 1) (by decide) ?_
  refine pw_callVi C (k_PA_readPart l hI hX w wd ft hn 12 (Nat.le_refl 12) ks ls ss 0 0 (Nat.zero_le _) (by omega)) (hX 4 0 rfl) rfl rfl ⟨pw_cb C 2 W_195 W_3 W_192 ⟨rfl, rfl⟩ (by decide +kernel) ⟨(Nat.le_of_ble_eq_true rfl), (Nat.le_of_ble_eq_true rfl)⟩, pw_w C W_194, pw_w C V_5⟩ rfl rfl (Nat.le_of_ble_eq_true rfl) d_PA_readWords_8 ⟨Nat.zero_le _, Nat.zero_le _⟩ (fun r w4 hp4 => ?_)
  obtain ⟨ok1, b1, t2, ks1, ls1, ss1, hrd1, rfl, hsame1, hok1, hno1⟩ := hp4
  have hin1 := rd_in wd n 12 0 0 ok1 b1 t2 hrd1 (Nat.zero_le _) (by omega)
  refine pw_istore_n C d_PA_readWords_11 (by decide) ?_
  refine pw_iload_n C d_PA_readWords_12 rfl ?_
  refine pw_if_ge C 24 d_PA_readWords_13 (by decide) (fun h13 => ?_) (fun h13 => ?_)
  · have hT : ok1 = true := by
      cases ok1 with
      | false => rw [hno1 rfl] at h13; exact absurd (fc_neg b1 (by omega)) (Int32.not_lt.mpr h13)
      | true => rfl
    subst hT
    obtain ⟨hb1e, htb1⟩ := hok1 rfl
    subst hb1e
    refine pw_aload_n C d_PA_readWords_24 rfl ?_
    refine pw_iload_n C d_PA_readWords_25 rfl ?_
    refine pw_aload_n C d_PA_readWords_26 rfl ?_
    refine pw_get C d_PA_readWords_27 (hX 4 0 rfl) rfl 4 rfl rfl (by decide) in_PA W_53 rfl ?_
    refine pw_icmp_ge C 40 d_PA_readWords_30 (by decide) (fun h30 => ?_) (fun h30 => ?_)
    · refine pw_iconst C d_PA_readWords_40 (v := 0) (by decide) ?_
      refine pw_put C d_PA_readWords_41 (hX 4 0 rfl) rfl 6 (Nat.le_of_ble_eq_true rfl) rfl (by decide) in_PA t_PA tk_PA n_PA W_57 rfl rfl (tk_PA 6 (by decide)) rfl rfl ?_
      refine MW.world p_u4 ?_
      refine pw_vret C hr hlk d_PA_readWords_44 ?_
      refine ⟨t2, ks1, ls1, ss1, ?_, true, b1, hrd1, fun _ => htb1⟩
      have hlt : ¬ b1 < n := fun q => absurd h30 (nI_ge q (by omega))
      unfold lk_f
      rw [hrd1]
      dsimp only
      rw [if_neg hlt]
    · refine pw_iload_n C d_PA_readWords_33 rfl ?_
      refine pw_callSi C (k_PA_faultAt l hI _ _) ⟨pw_cb C 1 W_202 W_3 W_200 ⟨rfl, rfl⟩ (by decide +kernel) ⟨(Nat.le_of_ble_eq_true rfl), (Nat.le_of_ble_eq_true rfl)⟩, pw_w C W_201⟩ rfl rfl (Nat.le_of_ble_eq_true rfl) d_PA_readWords_34 ⟨Nat.zero_le _, Nat.zero_le _⟩ (fun r2 w9 hp2 => ?_)
      obtain ⟨e9, hp2⟩ := hp2
      refine MW.world e9 ?_
      refine pw_goto C 41 d_PA_readWords_37 (by decide) ?_
      refine pw_put C d_PA_readWords_41 (hX 4 0 rfl) rfl 6 (Nat.le_of_ble_eq_true rfl) rfl (by decide) in_PA t_PA tk_PA n_PA W_57 rfl rfl (tk_PA 6 (by decide)) rfl rfl ?_
      refine MW.world p_u4 ?_
      refine pw_vret C hr hlk d_PA_readWords_44 ?_
      refine ⟨t2, ks1, ls1, ss1, ?_, true, b1, hrd1, fun _ => htb1⟩
      have hlt : b1 < n := Nat.not_le.mp (fun q => h30 (nI_le q (by omega)))
      unfold lk_f
      rw [hrd1]
      dsimp only
      rw [if_pos hlt, hp2]
  · have hF : ok1 = false := by
      cases ok1 with
      | true => rw [(hok1 rfl).1] at h13; exact absurd (nI_pos' (by omega)) h13
      | false => rfl
    subst hF
    refine pw_aload_n C d_PA_readWords_16 rfl ?_
    refine pw_iload_n C d_PA_readWords_17 rfl ?_
    refine pw_put C d_PA_readWords_18 (hX 4 0 rfl) rfl 6 (Nat.le_of_ble_eq_true rfl) rfl (by decide) in_PA t_PA tk_PA n_PA W_57 rfl rfl (tk_PA 6 (by decide)) rfl rfl ?_
    refine pw_goto C 44 d_PA_readWords_21 (by decide) ?_
    refine MW.world p_u4 ?_
    refine pw_vret C hr hlk d_PA_readWords_44 ?_
    refine ⟨t2, ks1, ls1, ss1, ?_, false, b1, hrd1, fun q => (by cases q)⟩
    unfold lk_f
    rw [hrd1, hno1 rfl]
set_option maxHeartbeats 4000000 in
set_option maxRecDepth 100000 in
theorem k_PA_append (l : Launch) {X : Lay} (hI : pw_I X) (hX : Dm X) (w : Wd) {wd ks ls ss : Nat → Int32} {n : Nat} {tt ft : Int32} (hn : n ≤ 60) (v : Int32) : CtI l y_PA_append (pw_ws y_PA_append c_PA_append 2 (some .int)) { frames := 16, cells := 0, slots := 0, locals := 393 } X (p_w X w wd (nI n) tt ft ks ls ss) [.ref (pw_a X 4 0), .int v] (fun r w1 => (n = 60 ∧ r = -3 ∧ w1 = p_w X w wd (nI n) tt ft ks ls ss) ∨ (n < 60 ∧ r = nI (n + 1) ∧ ∃ t1 ks1 ls1 ss1, w1 = p_w X w (upd wd n v) (nI (n + 1)) (nI t1) (lk_f (upd wd n v) (n + 1)) ks1 ls1 ss1 ∧ p_st (upd wd n v) (n + 1) t1 ks1 ls1 ss1)) := by
  refine pw_open (by decide) hI [some (.ref (pw_a X 4 0)), some (.int v)] rfl (Nat.le_of_ble_eq_true rfl) ?_
  intro zp ze zs zm za zb zt zc hargs C hr hlk hnm
  refine pw_aload_n C d_PA_append_0 rfl ?_
  refine pw_get C d_PA_append_1 (hX 4 0 rfl) rfl 4 rfl rfl (by decide) in_PA W_53 rfl ?_
  refine pw_bipush C d_PA_append_4 (v := 60) (by decide) ?_
  refine pw_icmp_lt C 12 d_PA_append_6 (by decide) (fun h6 => ?_) (fun h6 => ?_)
  · have hlt : n < 60 := (nI_ltI (b := 60) (by omega) (by decide)).mp h6
    refine pw_aload_n C d_PA_append_12 rfl ?_
    refine pw_get C d_PA_append_13 (hX 4 0 rfl) rfl 0 rfl rfl (by decide) in_PA W_43 rfl ?_
    refine pw_aload_n C d_PA_append_16 rfl ?_
    refine pw_get C d_PA_append_17 (hX 4 0 rfl) rfl 4 rfl rfl (by decide) in_PA W_53 rfl ?_
    refine pw_iload_n C d_PA_append_20 rfl ?_
    refine pw_iastK C d_PA_append_21 (hX 5 0 rfl) rfl hlt ?_
    refine MW.world p_u5 ?_
    refine pw_aload_n C d_PA_append_22 rfl ?_
    refine pw_dup C d_PA_append_23 rfl ?_
    refine pw_get C d_PA_append_24 (hX 4 0 rfl) rfl 4 rfl rfl (by decide) in_PA W_53 rfl ?_
    refine pw_iconst C d_PA_append_27 (v := 1) (by decide) ?_
    refine pw_iadd C d_PA_append_28 ?_
    refine pw_put C d_PA_append_29 (hX 4 0 rfl) rfl 4 (Nat.le_of_ble_eq_true rfl) rfl (by decide) in_PA t_PA tk_PA n_PA W_53 rfl rfl (tk_PA 4 (by decide)) rfl rfl ?_
    refine MW.world p_u4 ?_
    rw [nI_1]
    refine pw_aload_n C d_PA_append_32 rfl ?_
    refine pw_callVv C (k_PA_readWords l hI hX w (n := n + 1) (by omega)) (hX 4 0 rfl) rfl rfl ⟨pw_cb C 0 W_191 W_3 W_188 ⟨rfl, rfl⟩ (by decide +kernel) ⟨(Nat.le_of_ble_eq_true rfl), (Nat.le_of_ble_eq_true rfl)⟩, pw_w C W_190, pw_w C V_4⟩ rfl rfl (Nat.le_of_ble_eq_true rfl) d_PA_append_33 ⟨Nat.zero_le _, Nat.zero_le _⟩ (fun w4 hp4 => ?_)
    obtain ⟨t1, ks1, ls1, ss1, rfl, hst⟩ := hp4
    refine pw_aload_n C d_PA_append_36 rfl ?_
    refine pw_get C d_PA_append_37 (hX 4 0 rfl) rfl 4 rfl rfl (by decide) in_PA W_53 rfl ?_
    refine pw_iret C hr hlk d_PA_append_40 ?_
    exact Or.inr ⟨hlt, rfl, t1, ks1, ls1, ss1, rfl, hst⟩
  · refine pw_bipush C d_PA_append_9 (v := -3) (by decide) ?_
    refine pw_iret C hr hlk d_PA_append_11 ?_
    refine Or.inl ⟨?_, rfl, rfl⟩
    have : ¬ n < 60 := fun q => h6 (nI_lt q (by decide))
    omega
set_option maxHeartbeats 4000000 in
set_option maxRecDepth 100000 in
theorem k_PA_empty (l : Launch) {X : Lay} (hI : pw_I X) (hX : Dm X) (w : Wd) {wd ks ls ss : Nat → Int32} {n : Nat} {tt ft : Int32} : CtI l y_PA_empty (pw_ws y_PA_empty c_PA_empty 2 (some .int)) { frames := 16, cells := 0, slots := 0, locals := 393 } X (p_w X w wd (nI n) tt ft ks ls ss) [.ref (pw_a X 4 0)] (fun r w1 => r = nI n ∧ ∃ t1 ks1 ls1 ss1, w1 = p_w X w wd (nI 0) (nI t1) (lk_f wd 0) ks1 ls1 ss1 ∧ p_st wd 0 t1 ks1 ls1 ss1) := by
  refine pw_open (by decide) hI [some (.ref (pw_a X 4 0)), none] rfl (Nat.le_of_ble_eq_true rfl) ?_
  intro zp ze zs zm za zb zt zc hargs C hr hlk hnm
  refine pw_aload_n C d_PA_empty_0 rfl ?_
  refine pw_get C d_PA_empty_1 (hX 4 0 rfl) rfl 4 rfl rfl (by decide) in_PA W_53 rfl ?_
  refine pw_istore_n C d_PA_empty_4 (by decide) ?_
  refine pw_aload_n C d_PA_empty_5 rfl ?_
  refine pw_iconst C d_PA_empty_6 (v := 0) (by decide) ?_
  refine pw_put C d_PA_empty_7 (hX 4 0 rfl) rfl 4 (Nat.le_of_ble_eq_true rfl) rfl (by decide) in_PA t_PA tk_PA n_PA W_53 rfl rfl (tk_PA 4 (by decide)) rfl rfl ?_
  refine MW.world (p_u4 (n1 := nI 0)) ?_
  refine pw_aload_n C d_PA_empty_10 rfl ?_
  refine pw_callVv C (k_PA_readWords l hI hX w (n := 0) (by omega)) (hX 4 0 rfl) rfl rfl ⟨pw_cb C 0 W_191 W_3 W_188 ⟨rfl, rfl⟩ (by decide +kernel) ⟨(Nat.le_of_ble_eq_true rfl), (Nat.le_of_ble_eq_true rfl)⟩, pw_w C W_190, pw_w C V_4⟩ rfl rfl (Nat.le_of_ble_eq_true rfl) d_PA_empty_11 ⟨Nat.zero_le _, Nat.zero_le _⟩ (fun w4 hp4 => ?_)
  obtain ⟨t1, ks1, ls1, ss1, rfl, hst⟩ := hp4
  refine pw_iload_n C d_PA_empty_14 rfl ?_
  refine pw_iret C hr hlk d_PA_empty_15 ?_
  exact ⟨rfl, t1, ks1, ls1, ss1, rfl, hst⟩
end
section
/-! RELATIONS: the loops over rows -/
set_option maxHeartbeats 4000000 in
set_option maxRecDepth 100000 in
theorem k_RE_add (l : Launch) {X : Lay} (hI : pw_I X) (w : Wd) {g i g2 i2 : Nat} {F G : Nat → Int64} (hd : pw_d X g i) (hw : w g i = aL X 64 F) (hd2 : pw_d X g2 i2) (hw2 : w g2 i2 = aL X 64 G) (hne : ¬ (g2 = g ∧ i2 = i)) : CtV l y_RE_add (pw_ws y_RE_add c_RE_add 3 none) { frames := 0, cells := 0, slots := 0, locals := 0 } X w [.ref (pw_a X g i), .ref (pw_a X g2 i2)] (fun w1 => ∃ f1, w1 = pw_up w g i (aL X 64 f1) ∧ ∀ x, x < 64 → f1 x = F x ||| G x) := by
  refine pw_open (by decide) hI [some (.ref (pw_a X g i)), some (.ref (pw_a X g2 i2)), none] rfl (Nat.le_of_ble_eq_true rfl) ?_
  intro zp ze zs zm za zb zt zc hargs C hr hlk hnm
  have L : ∀ d k : Nat, k + d = 64 → ∀ f1 : Nat → Int64, (∀ x, x < k → f1 x = F x ||| G x) → (∀ x, k ≤ x → f1 x = F x) → MW zp l ze ({ frames := 0, cells := 0, slots := 0, locals := 0 } : Room) zs zm za zb zt zc X 3 0 0 (MQ zb (va_Qv (fun w1 => ∃ f1, w1 = pw_up w g i (aL X 64 f1) ∧ ∀ x, x < 64 → f1 x = F x ||| G x) (pw_B X) (pw_F X)) za zs 0 0 (pw_F X)) (pw_up w g i (aL X 64 f1)) 2 [some (.ref (pw_a X g i)), some (.ref (pw_a X g2 i2)), (some (.int (nI k)))] [] := by
    intro d
    induction d with
    | zero =>
      intro k hkd f1 hf1 hf2
      refine pw_iload_n C d_RE_add_2 rfl ?_
      refine pw_bipush C d_RE_add_3 (v := 64) (by decide) ?_
      refine pw_icmp_ge C 23 d_RE_add_5 (by decide) (fun h5 => ?_) (fun h5 => ?_)
      · refine pw_vret C hr hlk d_RE_add_23 ?_
        exact ⟨f1, rfl, fun x hx => hf1 x (by omega)⟩
      · exact absurd (nI_le (a := 64) (b := k) (by omega) (by omega)) h5
    | succ d ih =>
      intro k hkd f1 hf1 hf2
      refine pw_iload_n C d_RE_add_2 rfl ?_
      refine pw_bipush C d_RE_add_3 (v := 64) (by decide) ?_
      refine pw_icmp_ge C 23 d_RE_add_5 (by decide) (fun h5 => ?_) (fun h5 => ?_)
      · exact absurd ((nI_leI (a := 64) (by decide) (by omega)).mp h5) (by omega)
      refine pw_aload_n C d_RE_add_8 rfl ?_
      refine pw_iload_n C d_RE_add_9 rfl ?_
      refine pw_dup2 C d_RE_add_10 rfl rfl ?_
      refine pw_laldK C d_RE_add_11 hd (pw_up_self w g i _) (by omega) ?_
      refine pw_aload_n C d_RE_add_12 rfl ?_
      refine pw_iload_n C d_RE_add_13 rfl ?_
      refine pw_laldK C d_RE_add_14 hd2 (by rw [pw_up_ne _ _ hne]; exact hw2) (by omega) ?_
      refine pw_lor C d_RE_add_15 ?_
      refine pw_lastK C d_RE_add_16 hd (pw_up_self w g i _) (by omega) ?_
      refine pw_iinc1 C d_RE_add_17 rfl (by decide) ?_
      refine pw_goto C 2 d_RE_add_20 (by decide) ?_
      rw [pw_up_up]
      refine ih (k + 1) (by omega) _ (fun x hx => ?_) (fun x hx => ?_)
      · by_cases q : x = k
        · subst q; rw [pk_uLs, hf2 x (Nat.le_refl x)]
        · rw [pk_uLn q]; exact hf1 x (by omega)
      · rw [pk_uLn (by omega)]; exact hf2 x (by omega)
  refine pw_iconst C d_RE_add_0 (v := 0) (by decide) ?_
  refine pw_istore_n C d_RE_add_1 (by decide) ?_
  refine MW.world (pw_up_id w hw).symm ?_
  exact L 64 0 rfl F (fun x hx => absurd hx (Nat.not_lt_zero x)) (fun x _ => rfl)
set_option maxHeartbeats 4000000 in
set_option maxRecDepth 100000 in
theorem k_RE_addStaying (l : Launch) {X : Lay} (hI : pw_I X) (w : Wd) {g i : Nat} {F : Nat → Int64} (hd : pw_d X g i) (hw : w g i = aL X 64 F) : CtV l y_RE_addStaying (pw_ws y_RE_addStaying c_RE_addStaying 2 none) { frames := 1, cells := 0, slots := 0, locals := 20 } X w [.ref (pw_a X g i)] (fun w1 => ∃ f1, w1 = pw_up w g i (aL X 64 f1) ∧ ∀ x, x < 64 → ∀ y, y < 64 → bt_f (f1 x) y = (bt_f (F x) y || decide (y = x))) := by
  refine pw_open (by decide) hI [some (.ref (pw_a X g i)), none] rfl (Nat.le_of_ble_eq_true rfl) ?_
  intro zp ze zs zm za zb zt zc hargs C hr hlk hnm
  have L : ∀ d k : Nat, k + d = 64 → ∀ f1 : Nat → Int64, (∀ x, x < k → ∀ y, y < 64 → bt_f (f1 x) y = (bt_f (F x) y || decide (y = x))) → (∀ x, k ≤ x → f1 x = F x) → MW zp l ze ({ frames := 1, cells := 0, slots := 0, locals := 20 } : Room) zs zm za zb zt zc X 2 0 0 (MQ zb (va_Qv (fun w1 => ∃ f1, w1 = pw_up w g i (aL X 64 f1) ∧ ∀ x, x < 64 → ∀ y, y < 64 → bt_f (f1 x) y = (bt_f (F x) y || decide (y = x))) (pw_B X) (pw_F X)) za zs 0 0 (pw_F X)) (pw_up w g i (aL X 64 f1)) 2 [some (.ref (pw_a X g i)), (some (.int (nI k)))] [] := by
    intro d
    induction d with
    | zero =>
      intro k hkd f1 hf1 hf2
      refine pw_iload_n C d_RE_addStaying_2 rfl ?_
      refine pw_bipush C d_RE_addStaying_3 (v := 64) (by decide) ?_
      refine pw_icmp_ge C 24 d_RE_addStaying_5 (by decide) (fun h5 => ?_) (fun h5 => ?_)
      · refine pw_vret C hr hlk d_RE_addStaying_24 ?_
        exact ⟨f1, rfl, fun x hx => hf1 x (by omega)⟩
      · exact absurd (nI_le (a := 64) (b := k) (by omega) (by omega)) h5
    | succ d ih =>
      intro k hkd f1 hf1 hf2
      refine pw_iload_n C d_RE_addStaying_2 rfl ?_
      refine pw_bipush C d_RE_addStaying_3 (v := 64) (by decide) ?_
      refine pw_icmp_ge C 24 d_RE_addStaying_5 (by decide) (fun h5 => ?_) (fun h5 => ?_)
      · exact absurd ((nI_leI (a := 64) (by decide) (by omega)).mp h5) (by omega)
      refine pw_aload_n C d_RE_addStaying_8 rfl ?_
      refine pw_iload_n C d_RE_addStaying_9 rfl ?_
      refine pw_dup2 C d_RE_addStaying_10 rfl rfl ?_
      refine pw_laldK C d_RE_addStaying_11 hd (pw_up_self w g i _) (by omega) ?_
      refine pw_iload_n C d_RE_addStaying_12 rfl ?_
      refine pw_callSNl C (k_PF_bit l hI _ k) ⟨pw_cn C 1 W_162 W_1 N_32 ⟨rfl, rfl⟩ (by decide +kernel) ⟨(Nat.le_of_ble_eq_true rfl), (Nat.le_of_ble_eq_true rfl)⟩, pw_w C W_161, trivial⟩ rfl rfl (Nat.le_of_ble_eq_true rfl) d_RE_addStaying_13 ⟨Nat.zero_le _, Nat.zero_le _⟩ (fun r w9 hp => ?_)
      obtain ⟨e9, hp⟩ := hp
      subst hp
      refine MW.world e9 ?_
      refine pw_lor C d_RE_addStaying_16 ?_
      refine pw_lastK C d_RE_addStaying_17 hd (pw_up_self w g i _) (by omega) ?_
      refine pw_iinc1 C d_RE_addStaying_18 rfl (by decide) ?_
      refine pw_goto C 2 d_RE_addStaying_21 (by decide) ?_
      rw [pw_up_up]
      refine ih (k + 1) (by omega) _ (fun x hx y hy => ?_) (fun x hx => ?_)
      · by_cases q : x = k
        · subst q; rw [pk_uLs, hf2 x (Nat.le_refl x), bt_or, bt_bit (by omega)]
        · rw [pk_uLn q]; exact hf1 x (by omega) y hy
      · rw [pk_uLn (by omega)]; exact hf2 x (by omega)
  refine pw_iconst C d_RE_addStaying_0 (v := 0) (by decide) ?_
  refine pw_istore_n C d_RE_addStaying_1 (by decide) ?_
  refine MW.world (pw_up_id w hw).symm ?_
  exact L 64 0 rfl F (fun x hx => absurd hx (Nat.not_lt_zero x)) (fun x _ => rfl)
/-- what is left of a set when all below u is done -/
def lf_s (r s : Int64) (u : Nat) : Prop := ∀ j, j < 64 → bt_f r j = (bt_f s j && decide (u ≤ j))
theorem lf_0 (s : Int64) : lf_s s s 0 := fun j _ => by simp
theorem lf_next {r s : Int64} {u : Nat} (h : lf_s r s u) (hr : ¬ r = 0) : ∃ j, j < 64 ∧ u ≤ j ∧ bt_f s j = true ∧ bt_f r j = true ∧ (∀ j1, j1 < j → bt_f r j1 = false) ∧ (∀ j1, u ≤ j1 → j1 < j → bt_f s j1 = false) ∧ lf_s (r &&& (r - 1)) s (j + 1) := by
  obtain ⟨j, hj, h1, h2⟩ := bt_least hr
  have hb := h j hj
  rw [h1] at hb
  have hb2 : bt_f s j = true ∧ u ≤ j := by simpa using hb.symm
  refine ⟨j, hj, hb2.2, hb2.1, h1, h2, fun j1 g1 g2 => ?_, fun j1 hj1 => ?_⟩
  · have := h j1 (by omega)
    rw [h2 j1 g2] at this
    simpa [g1] using this.symm
  · rw [bt_clear h1 h2 hj1, h j1 hj1]
    by_cases q : j < j1
    · have q1 : u ≤ j1 := by omega
      have q2 : j + 1 ≤ j1 := by omega
      simp [q, q1, q2]
    · have q2 : ¬ j + 1 ≤ j1 := by omega
      simp [q, q2]
theorem lf_end {r s : Int64} {u : Nat} (h : lf_s r s u) (hr : r = 0) {j : Nat} (hj : j < 64) (hu : u ≤ j) : bt_f s j = false := by
  have := h j hj
  rw [hr, bt_0] at this
  simpa [hu] using this.symm
theorem lf_big {r s : Int64} {u : Nat} (h : lf_s r s u) (hu : 64 ≤ u) : r = 0 := bt_ext (fun j hj => by
  rw [h j hj, bt_0]
  have : ¬ u ≤ j := by omega
  simp [this])
set_option maxHeartbeats 4000000 in
set_option maxRecDepth 100000 in
theorem k_RE_addTurned (l : Launch) {X : Lay} (hI : pw_I X) (w : Wd) {g i g2 i2 : Nat} {F G : Nat → Int64} (hd : pw_d X g i) (hw : w g i = aL X 64 F) (hd2 : pw_d X g2 i2) (hw2 : w g2 i2 = aL X 64 G) (hne : ¬ (g2 = g ∧ i2 = i)) : CtV l y_RE_addTurned (pw_ws y_RE_addTurned c_RE_addTurned 6 none) { frames := 2, cells := 0, slots := 0, locals := 43 } X w [.ref (pw_a X g i), .ref (pw_a X g2 i2)] (fun w1 => ∃ f1, w1 = pw_up w g i (aL X 64 f1) ∧ ∀ y, y < 64 → ∀ x, x < 64 → bt_f (f1 y) x = (bt_f (F y) x || bt_f (G x) y)) := by
  refine pw_open (by decide) hI [some (.ref (pw_a X g i)), some (.ref (pw_a X g2 i2)), none, none, none, none] rfl (Nat.le_of_ble_eq_true rfl) ?_
  intro zp ze zs zm za zb zt zc hargs C hr hlk hnm
  have Li : ∀ k : Nat, k < 64 → (∀ f1 : Nat → Int64, (∀ y, y < 64 → ∀ x, x < 64 → bt_f (f1 y) x = (bt_f (F y) x || (decide (x < k + 1) && bt_f (G x) y))) → MW zp l ze ({ frames := 2, cells := 0, slots := 0, locals := 43 } : Room) zs zm za zb zt zc X 6 0 0 (MQ zb (va_Qv (fun w1 => ∃ f1, w1 = pw_up w g i (aL X 64 f1) ∧ ∀ y, y < 64 → ∀ x, x < 64 → bt_f (f1 y) x = (bt_f (F y) x || bt_f (G x) y)) (pw_B X) (pw_F X)) za zs 0 0 (pw_F X)) (pw_up w g i (aL X 64 f1)) 53 [some (.ref (pw_a X g i)), some (.ref (pw_a X g2 i2)), some (.int (nI k)), none, none, none] []) → ∀ d u q : Nat, 64 ≤ u + d → q ≤ u → ∀ (r : Int64) (f1 : Nat → Int64), lf_s r (G k) u → (∀ y, y < 64 → ∀ x, x < 64 → bt_f (f1 y) x = (bt_f (F y) x || (decide (x < k) && bt_f (G x) y) || (decide (x = k ∧ y < u) && bt_f (G k) y))) → MW zp l ze ({ frames := 2, cells := 0, slots := 0, locals := 43 } : Room) zs zm za zb zt zc X 6 0 0 (MQ zb (va_Qv (fun w1 => ∃ f1, w1 = pw_up w g i (aL X 64 f1) ∧ ∀ y, y < 64 → ∀ x, x < 64 → bt_f (f1 y) x = (bt_f (F y) x || bt_f (G x) y)) (pw_B X) (pw_F X)) za zs 0 0 (pw_F X)) (pw_up w g i (aL X 64 f1)) 15 [some (.ref (pw_a X g i)), some (.ref (pw_a X g2 i2)), some (.int (nI k)), some (.long r), none, some (.int (nI q))] [] := by
    intro k hk hcont
    have fin : ∀ (u : Nat) (f1 : Nat → Int64), (∀ j, j < 64 → u ≤ j → bt_f (G k) j = false) → (∀ y, y < 64 → ∀ x, x < 64 → bt_f (f1 y) x = (bt_f (F y) x || (decide (x < k) && bt_f (G x) y) || (decide (x = k ∧ y < u) && bt_f (G k) y))) → (∀ y, y < 64 → ∀ x, x < 64 → bt_f (f1 y) x = (bt_f (F y) x || (decide (x < k + 1) && bt_f (G x) y))) := by
      intro u f1 hz hf y hy x hx
      rw [hf y hy x hx]
      by_cases q1 : x = k
      · subst q1
        by_cases q2 : y < u
        · simp [q2]
        · rw [hz y hy (by omega)]; simp
      · by_cases q2 : x < k
        · have q3 : x < k + 1 := by omega
          simp [q1, q2, q3]
        · have q3 : ¬ x < k + 1 := by omega
          simp [q1, q2, q3]
    intro d
    induction d with
    | zero =>
      intro u q hud hqu r f1 hr hf
      refine pw_iload C d_RE_addTurned_15 rfl ?_
      refine pw_bipush C d_RE_addTurned_17 (v := 64) (by decide) ?_
      refine pw_icmp_ge C 53 d_RE_addTurned_19 (by decide) (fun h19 => ?_) (fun h19 => ?_)
      · exact MW.less (lv' := [some (.ref (pw_a X g i)), some (.ref (pw_a X g2 i2)), some (.int (nI k)), none, none, none]) (by intro i v h; rcases i with _ | _ | _ | _ | _ | _ | _ | i <;> first | exact h | (simp at h)) (hcont f1 (fin u f1 (fun j hj hj2 => (by omega)) hf))
      · refine pw_lload_n C d_RE_addTurned_22 rfl ?_
        refine pw_lconst C d_RE_addTurned_23 (v := 0) (by decide) ?_
        refine pw_lcmp C d_RE_addTurned_24 ?_
        refine pw_if_eq C 53 d_RE_addTurned_25 (by decide) (fun h25 => ?_) (fun h25 => ?_)
        · exact MW.less (lv' := [some (.ref (pw_a X g i)), some (.ref (pw_a X g2 i2)), some (.int (nI k)), none, none, none]) (by intro i v h; rcases i with _ | _ | _ | _ | _ | _ | _ | i <;> first | exact h | (simp at h)) (hcont f1 (fin u f1 (fun j hj hj2 => (by omega)) hf))
        · exact absurd ((lc_eq _ _).mpr (lf_big hr (by omega))) h25
    | succ d ih =>
      intro u q hud hqu r f1 hr hf
      refine pw_iload C d_RE_addTurned_15 rfl ?_
      refine pw_bipush C d_RE_addTurned_17 (v := 64) (by decide) ?_
      refine pw_icmp_ge C 53 d_RE_addTurned_19 (by decide) (fun h19 => ?_) (fun h19 => ?_)
      · exact MW.less (lv' := [some (.ref (pw_a X g i)), some (.ref (pw_a X g2 i2)), some (.int (nI k)), none, none, none]) (by intro i v h; rcases i with _ | _ | _ | _ | _ | _ | _ | i <;> first | exact h | (simp at h)) (hcont f1 (fin u f1 (fun j hj hj2 => (by have := (nI_leI (a := 64) (by decide) (by omega)).mp h19; omega)) hf))
      · refine pw_lload_n C d_RE_addTurned_22 rfl ?_
        refine pw_lconst C d_RE_addTurned_23 (v := 0) (by decide) ?_
        refine pw_lcmp C d_RE_addTurned_24 ?_
        refine pw_if_eq C 53 d_RE_addTurned_25 (by decide) (fun h25 => ?_) (fun h25 => ?_)
        · exact MW.less (lv' := [some (.ref (pw_a X g i)), some (.ref (pw_a X g2 i2)), some (.int (nI k)), none, none, none]) (by intro i v h; rcases i with _ | _ | _ | _ | _ | _ | _ | i <;> first | exact h | (simp at h)) (hcont f1 (fin u f1 (fun j hj hj2 => lf_end hr ((lc_eq _ _).mp h25) hj hj2) hf))
        · obtain ⟨j, hj, huj, hsj, hjr, hlow, hgap, hnext⟩ := lf_next hr (fun q => h25 ((lc_eq _ _).mpr q))
          refine pw_aload_n C d_RE_addTurned_28 rfl ?_
          refine pw_lload_n C d_RE_addTurned_29 rfl ?_
          refine pw_callSi C (k_LO_ntz l hI _ hj hjr hlow) ⟨pw_cb C 1 W_262 W_8 W_260 ⟨rfl, rfl⟩ (by decide +kernel) ⟨(Nat.le_of_ble_eq_true rfl), (Nat.le_of_ble_eq_true rfl)⟩, pw_w C W_261⟩ rfl rfl (Nat.le_of_ble_eq_true rfl) d_RE_addTurned_30 ⟨Nat.zero_le _, Nat.zero_le _⟩ (fun rr w9 hp => ?_)
          obtain ⟨e9, hp⟩ := hp
          subst hp
          refine MW.world e9 ?_
          refine pw_dup2 C d_RE_addTurned_33 rfl rfl ?_
          refine pw_laldK C d_RE_addTurned_34 hd (pw_up_self w g i _) hj ?_
          refine pw_iload_n C d_RE_addTurned_35 rfl ?_
          refine pw_callSNl C (k_PF_bit l hI _ k) ⟨pw_cn C 1 W_162 W_1 N_32 ⟨rfl, rfl⟩ (by decide +kernel) ⟨(Nat.le_of_ble_eq_true rfl), (Nat.le_of_ble_eq_true rfl)⟩, pw_w C W_161, trivial⟩ rfl rfl (Nat.le_of_ble_eq_true rfl) d_RE_addTurned_36 ⟨Nat.zero_le _, Nat.zero_le _⟩ (fun rb w9 hp => ?_)
          obtain ⟨e9, hp⟩ := hp
          subst hp
          refine MW.world e9 ?_
          refine pw_lor C d_RE_addTurned_39 ?_
          refine pw_lastK C d_RE_addTurned_40 hd (pw_up_self w g i _) hj ?_
          refine pw_lload_n C d_RE_addTurned_41 rfl ?_
          refine pw_lload_n C d_RE_addTurned_42 rfl ?_
          refine pw_lconst C d_RE_addTurned_43 (v := 1) (by decide) ?_
          refine pw_lsub C d_RE_addTurned_44 ?_
          refine pw_land C d_RE_addTurned_45 ?_
          refine pw_lstore_n C d_RE_addTurned_46 (by decide) ?_
          refine pw_iinc1 C d_RE_addTurned_47 rfl (by decide) ?_
          refine pw_goto C 15 d_RE_addTurned_50 (by decide) ?_
          rw [pw_up_up]
          refine ih (j + 1) (q + 1) (by omega) (by omega) _ _ hnext (fun y hy x hx => ?_)
          by_cases q1 : y = j
          · subst q1
            rw [pk_uLs, bt_or, bt_bit hk, hf y hy x hx]
            by_cases q2 : x = k
            · subst q2; simp [hsj]
            · simp [q2]
          · rw [pk_uLn q1, hf y hy x hx]
            by_cases q2 : x = k
            · subst q2
              by_cases q3 : y < u
              · have q4 : y < j + 1 := by omega
                simp [q3, q4]
              · by_cases q4 : y < j + 1
                · have : bt_f (G x) y = false := hgap y (by omega) (by omega)
                  simp [this]
                · simp [q3, q4]
            · simp [q2]
  have L : ∀ d k : Nat, k + d = 64 → ∀ f1 : Nat → Int64, (∀ y, y < 64 → ∀ x, x < 64 → bt_f (f1 y) x = (bt_f (F y) x || (decide (x < k) && bt_f (G x) y))) → MW zp l ze ({ frames := 2, cells := 0, slots := 0, locals := 43 } : Room) zs zm za zb zt zc X 6 0 0 (MQ zb (va_Qv (fun w1 => ∃ f1, w1 = pw_up w g i (aL X 64 f1) ∧ ∀ y, y < 64 → ∀ x, x < 64 → bt_f (f1 y) x = (bt_f (F y) x || bt_f (G x) y)) (pw_B X) (pw_F X)) za zs 0 0 (pw_F X)) (pw_up w g i (aL X 64 f1)) 2 [some (.ref (pw_a X g i)), some (.ref (pw_a X g2 i2)), some (.int (nI k)), none, none, none] [] := by
    intro d
    induction d with
    | zero =>
      intro k hkd f1 hf
      refine pw_iload_n C d_RE_addTurned_2 rfl ?_
      refine pw_bipush C d_RE_addTurned_3 (v := 64) (by decide) ?_
      refine pw_icmp_ge C 59 d_RE_addTurned_5 (by decide) (fun h5 => ?_) (fun h5 => ?_)
      · refine pw_vret C hr hlk d_RE_addTurned_59 ?_
        exact ⟨f1, rfl, fun y hy x hx => by rw [hf y hy x hx]; simp [show x < k by omega]⟩
      · exact absurd (nI_le (a := 64) (b := k) (by omega) (by omega)) h5
    | succ d ih =>
      intro k hkd f1 hf
      refine pw_iload_n C d_RE_addTurned_2 rfl ?_
      refine pw_bipush C d_RE_addTurned_3 (v := 64) (by decide) ?_
      refine pw_icmp_ge C 59 d_RE_addTurned_5 (by decide) (fun h5 => ?_) (fun h5 => ?_)
      · exact absurd ((nI_leI (a := 64) (by decide) (by omega)).mp h5) (by omega)
      refine pw_aload_n C d_RE_addTurned_8 rfl ?_
      refine pw_iload_n C d_RE_addTurned_9 rfl ?_
      refine pw_laldK C d_RE_addTurned_10 hd2 (by rw [pw_up_ne _ _ hne]; exact hw2) (by omega) ?_
      refine pw_lstore_n C d_RE_addTurned_11 (by decide) ?_
      refine pw_iconst C d_RE_addTurned_12 (v := 0) (by decide) ?_
      refine pw_istore C d_RE_addTurned_13 (by decide) ?_
      refine Li k (by omega) ?_ 64 0 0 (by omega) (Nat.le_refl 0) (G k) f1 (lf_0 _) (fun y hy x hx => by rw [hf y hy x hx]; simp)
      intro f2 hf2
      refine pw_iinc1 C d_RE_addTurned_53 rfl (by decide) ?_
      refine pw_goto C 2 d_RE_addTurned_56 (by decide) ?_
      exact ih (k + 1) (by omega) f2 hf2
  refine pw_iconst C d_RE_addTurned_0 (v := 0) (by decide) ?_
  refine pw_istore_n C d_RE_addTurned_1 (by decide) ?_
  refine MW.world (pw_up_id w hw).symm ?_
  exact L 64 0 rfl F (fun y hy x hx => by simp)
end
section
/-! RELATIONS: joined rows, closed rows -/
set_option maxHeartbeats 4000000 in
set_option maxRecDepth 100000 in
theorem k_RE_addJoined (l : Launch) {X : Lay} (hI : pw_I X) (w : Wd) {g i g2 i2 g3 i3 : Nat} {F G S : Nat → Int64} (hd : pw_d X g i) (hw : w g i = aL X 64 F) (hd2 : pw_d X g2 i2) (hw2 : w g2 i2 = aL X 64 G) (hne2 : ¬ (g2 = g ∧ i2 = i)) (hd3 : pw_d X g3 i3) (hw3 : w g3 i3 = aL X 64 S) (hne3 : ¬ (g3 = g ∧ i3 = i)) : CtV l y_RE_addJoined (pw_ws y_RE_addJoined c_RE_addJoined 7 none) { frames := 2, cells := 0, slots := 0, locals := 43 } X w [.ref (pw_a X g i), .ref (pw_a X g2 i2), .ref (pw_a X g3 i3)] (fun w1 => ∃ f1, w1 = pw_up w g i (aL X 64 f1) ∧ ∀ x, x < 64 → ∀ y, y < 64 → (bt_f (f1 x) y = true ↔ (bt_f (F x) y = true ∨ ∃ z, z < 64 ∧ bt_f (G x) z = true ∧ bt_f (S z) y = true))) := by
  refine pw_open (by decide) hI [some (.ref (pw_a X g i)), some (.ref (pw_a X g2 i2)), some (.ref (pw_a X g3 i3)), none, none, none, none] rfl (Nat.le_of_ble_eq_true rfl) ?_
  intro zp ze zs zm za zb zt zc hargs C hr hlk hnm
  have Li : ∀ k : Nat, k < 64 → (∀ f1 : Nat → Int64, (∀ x, x < 64 → ∀ y, y < 64 → (bt_f (f1 x) y = true ↔ (bt_f (F x) y = true ∨ (x < k + 1 ∧ ∃ z, z < 64 ∧ bt_f (G x) z = true ∧ bt_f (S z) y = true)))) → MW zp l ze ({ frames := 2, cells := 0, slots := 0, locals := 43 } : Room) zs zm za zb zt zc X 7 0 0 (MQ zb (va_Qv (fun w1 => ∃ f1, w1 = pw_up w g i (aL X 64 f1) ∧ ∀ x, x < 64 → ∀ y, y < 64 → (bt_f (f1 x) y = true ↔ (bt_f (F x) y = true ∨ ∃ z, z < 64 ∧ bt_f (G x) z = true ∧ bt_f (S z) y = true))) (pw_B X) (pw_F X)) za zs 0 0 (pw_F X)) (pw_up w g i (aL X 64 f1)) 58 [some (.ref (pw_a X g i)), some (.ref (pw_a X g2 i2)), some (.ref (pw_a X g3 i3)), some (.int (nI k)), none, none, none] []) → ∀ d u q : Nat, 64 ≤ u + d → q ≤ u → ∀ (r : Int64) (f1 : Nat → Int64), lf_s r (G k) u → (∀ x, x < 64 → ∀ y, y < 64 → (bt_f (f1 x) y = true ↔ (bt_f (F x) y = true ∨ (x < k ∧ ∃ z, z < 64 ∧ bt_f (G x) z = true ∧ bt_f (S z) y = true) ∨ (x = k ∧ ∃ z, z < u ∧ z < 64 ∧ bt_f (G k) z = true ∧ bt_f (S z) y = true)))) → MW zp l ze ({ frames := 2, cells := 0, slots := 0, locals := 43 } : Room) zs zm za zb zt zc X 7 0 0 (MQ zb (va_Qv (fun w1 => ∃ f1, w1 = pw_up w g i (aL X 64 f1) ∧ ∀ x, x < 64 → ∀ y, y < 64 → (bt_f (f1 x) y = true ↔ (bt_f (F x) y = true ∨ ∃ z, z < 64 ∧ bt_f (G x) z = true ∧ bt_f (S z) y = true))) (pw_B X) (pw_F X)) za zs 0 0 (pw_F X)) (pw_up w g i (aL X 64 f1)) 16 [some (.ref (pw_a X g i)), some (.ref (pw_a X g2 i2)), some (.ref (pw_a X g3 i3)), some (.int (nI k)), some (.long r), none, some (.int (nI q))] [] := by
    intro k hk hcont
    have fin : ∀ (u : Nat) (f1 : Nat → Int64), (∀ j, j < 64 → u ≤ j → bt_f (G k) j = false) → (∀ x, x < 64 → ∀ y, y < 64 → (bt_f (f1 x) y = true ↔ (bt_f (F x) y = true ∨ (x < k ∧ ∃ z, z < 64 ∧ bt_f (G x) z = true ∧ bt_f (S z) y = true) ∨ (x = k ∧ ∃ z, z < u ∧ z < 64 ∧ bt_f (G k) z = true ∧ bt_f (S z) y = true)))) → (∀ x, x < 64 → ∀ y, y < 64 → (bt_f (f1 x) y = true ↔ (bt_f (F x) y = true ∨ (x < k + 1 ∧ ∃ z, z < 64 ∧ bt_f (G x) z = true ∧ bt_f (S z) y = true)))) := by
      intro u f1 hz hf x hx y hy
      rw [hf x hx y hy]
      constructor
      · rintro (a | ⟨a, b⟩ | ⟨a, z, b, c, d, e⟩)
        · exact Or.inl a
        · exact Or.inr ⟨by omega, b⟩
        · subst a; exact Or.inr ⟨by omega, z, c, d, e⟩
      · rintro (a | ⟨a, z, b, c, d⟩)
        · exact Or.inl a
        · by_cases q1 : x = k
          · subst q1
            refine Or.inr (Or.inr ⟨rfl, z, ?_, b, c, d⟩)
            rcases Nat.lt_or_ge z u with q2 | q2
            · exact q2
            · rw [hz z b q2] at c; cases c
          · exact Or.inr (Or.inl ⟨by omega, z, b, c, d⟩)
    intro d
    induction d with
    | zero =>
      intro u q hud hqu r f1 hr hf
      refine pw_iload C d_RE_addJoined_16 rfl ?_
      refine pw_bipush C d_RE_addJoined_18 (v := 64) (by decide) ?_
      refine pw_icmp_ge C 58 d_RE_addJoined_20 (by decide) (fun h20 => ?_) (fun h20 => ?_)
      · exact MW.less (lv' := [some (.ref (pw_a X g i)), some (.ref (pw_a X g2 i2)), some (.ref (pw_a X g3 i3)), some (.int (nI k)), none, none, none]) (by intro i v h; rcases i with _ | _ | _ | _ | _ | _ | _ | i <;> first | exact h | (simp at h)) (hcont f1 (fin u f1 (fun j hj hj2 => (by omega)) hf))
      · refine pw_lload C d_RE_addJoined_23 rfl ?_
        refine pw_lconst C d_RE_addJoined_25 (v := 0) (by decide) ?_
        refine pw_lcmp C d_RE_addJoined_26 ?_
        refine pw_if_eq C 58 d_RE_addJoined_27 (by decide) (fun h27 => ?_) (fun h27 => ?_)
        · exact MW.less (lv' := [some (.ref (pw_a X g i)), some (.ref (pw_a X g2 i2)), some (.ref (pw_a X g3 i3)), some (.int (nI k)), none, none, none]) (by intro i v h; rcases i with _ | _ | _ | _ | _ | _ | _ | i <;> first | exact h | (simp at h)) (hcont f1 (fin u f1 (fun j hj hj2 => (by omega)) hf))
        · exact absurd ((lc_eq _ _).mpr (lf_big hr (by omega))) h27
    | succ d ih =>
      intro u q hud hqu r f1 hr hf
      refine pw_iload C d_RE_addJoined_16 rfl ?_
      refine pw_bipush C d_RE_addJoined_18 (v := 64) (by decide) ?_
      refine pw_icmp_ge C 58 d_RE_addJoined_20 (by decide) (fun h20 => ?_) (fun h20 => ?_)
      · exact MW.less (lv' := [some (.ref (pw_a X g i)), some (.ref (pw_a X g2 i2)), some (.ref (pw_a X g3 i3)), some (.int (nI k)), none, none, none]) (by intro i v h; rcases i with _ | _ | _ | _ | _ | _ | _ | i <;> first | exact h | (simp at h)) (hcont f1 (fin u f1 (fun j hj hj2 => (by have := (nI_leI (a := 64) (by decide) (by omega)).mp h20; omega)) hf))
      · refine pw_lload C d_RE_addJoined_23 rfl ?_
        refine pw_lconst C d_RE_addJoined_25 (v := 0) (by decide) ?_
        refine pw_lcmp C d_RE_addJoined_26 ?_
        refine pw_if_eq C 58 d_RE_addJoined_27 (by decide) (fun h27 => ?_) (fun h27 => ?_)
        · exact MW.less (lv' := [some (.ref (pw_a X g i)), some (.ref (pw_a X g2 i2)), some (.ref (pw_a X g3 i3)), some (.int (nI k)), none, none, none]) (by intro i v h; rcases i with _ | _ | _ | _ | _ | _ | _ | i <;> first | exact h | (simp at h)) (hcont f1 (fin u f1 (fun j hj hj2 => lf_end hr ((lc_eq _ _).mp h27) hj hj2) hf))
        · obtain ⟨j, hj, huj, hsj, hjr, hlow, hgap, hnext⟩ := lf_next hr (fun q => h27 ((lc_eq _ _).mpr q))
          refine pw_aload_n C d_RE_addJoined_30 rfl ?_
          refine pw_iload_n C d_RE_addJoined_31 rfl ?_
          refine pw_dup2 C d_RE_addJoined_32 rfl rfl ?_
          refine pw_laldK C d_RE_addJoined_33 hd (pw_up_self w g i _) hk ?_
          refine pw_aload_n C d_RE_addJoined_34 rfl ?_
          refine pw_lload C d_RE_addJoined_35 rfl ?_
          refine pw_callSi C (k_LO_ntz l hI _ hj hjr hlow) ⟨pw_cb C 1 W_262 W_8 W_260 ⟨rfl, rfl⟩ (by decide +kernel) ⟨(Nat.le_of_ble_eq_true rfl), (Nat.le_of_ble_eq_true rfl)⟩, pw_w C W_261⟩ rfl rfl (Nat.le_of_ble_eq_true rfl) d_RE_addJoined_37 ⟨Nat.zero_le _, Nat.zero_le _⟩ (fun rr w9 hp => ?_)
          obtain ⟨e9, hp⟩ := hp
          subst hp
          refine MW.world e9 ?_
          refine pw_laldK C d_RE_addJoined_40 hd3 (by rw [pw_up_ne _ _ hne3]; exact hw3) hj ?_
          refine pw_lor C d_RE_addJoined_41 ?_
          refine pw_lastK C d_RE_addJoined_42 hd (pw_up_self w g i _) hk ?_
          refine pw_lload C d_RE_addJoined_43 rfl ?_
          refine pw_lload C d_RE_addJoined_45 rfl ?_
          refine pw_lconst C d_RE_addJoined_47 (v := 1) (by decide) ?_
          refine pw_lsub C d_RE_addJoined_48 ?_
          refine pw_land C d_RE_addJoined_49 ?_
          refine pw_lstore C d_RE_addJoined_50 (by decide) ?_
          refine pw_iinc1 C d_RE_addJoined_52 rfl (by decide) ?_
          refine pw_goto C 16 d_RE_addJoined_55 (by decide) ?_
          rw [pw_up_up]
          refine ih (j + 1) (q + 1) (by omega) (by omega) _ _ hnext (fun x hx y hy => ?_)
          by_cases q1 : x = k
          · subst q1
            rw [pk_uLs, bt_or, Bool.or_eq_true, hf x hx y hy]
            constructor
            · rintro ((a | ⟨a, b⟩ | ⟨a, z, b, c, d, e⟩) | a)
              · exact Or.inl a
              · exact Or.inr (Or.inl ⟨a, b⟩)
              · exact Or.inr (Or.inr ⟨rfl, z, by omega, c, d, e⟩)
              · exact Or.inr (Or.inr ⟨rfl, j, by omega, hj, hsj, a⟩)
            · rintro (a | ⟨a, b⟩ | ⟨a, z, b, c, d, e⟩)
              · exact Or.inl (Or.inl a)
              · exact Or.inl (Or.inr (Or.inl ⟨a, b⟩))
              · by_cases q2 : z = j
                · subst q2; exact Or.inr e
                · refine Or.inl (Or.inr (Or.inr ⟨rfl, z, ?_, c, d, e⟩))
                  rcases Nat.lt_or_ge z u with q3 | q3
                  · exact q3
                  · rw [hgap z q3 (by omega)] at d; cases d
          · rw [pk_uLn q1, hf x hx y hy]
            constructor
            · rintro (a | a | ⟨a, -⟩)
              · exact Or.inl a
              · exact Or.inr (Or.inl a)
              · exact absurd a q1
            · rintro (a | a | ⟨a, -⟩)
              · exact Or.inl a
              · exact Or.inr (Or.inl a)
              · exact absurd a q1
  have L : ∀ d k : Nat, k + d = 64 → ∀ f1 : Nat → Int64, (∀ x, x < 64 → ∀ y, y < 64 → (bt_f (f1 x) y = true ↔ (bt_f (F x) y = true ∨ (x < k ∧ ∃ z, z < 64 ∧ bt_f (G x) z = true ∧ bt_f (S z) y = true)))) → MW zp l ze ({ frames := 2, cells := 0, slots := 0, locals := 43 } : Room) zs zm za zb zt zc X 7 0 0 (MQ zb (va_Qv (fun w1 => ∃ f1, w1 = pw_up w g i (aL X 64 f1) ∧ ∀ x, x < 64 → ∀ y, y < 64 → (bt_f (f1 x) y = true ↔ (bt_f (F x) y = true ∨ ∃ z, z < 64 ∧ bt_f (G x) z = true ∧ bt_f (S z) y = true))) (pw_B X) (pw_F X)) za zs 0 0 (pw_F X)) (pw_up w g i (aL X 64 f1)) 2 [some (.ref (pw_a X g i)), some (.ref (pw_a X g2 i2)), some (.ref (pw_a X g3 i3)), some (.int (nI k)), none, none, none] [] := by
    intro d
    induction d with
    | zero =>
      intro k hkd f1 hf
      refine pw_iload_n C d_RE_addJoined_2 rfl ?_
      refine pw_bipush C d_RE_addJoined_3 (v := 64) (by decide) ?_
      refine pw_icmp_ge C 64 d_RE_addJoined_5 (by decide) (fun h5 => ?_) (fun h5 => ?_)
      · refine pw_vret C hr hlk d_RE_addJoined_64 ?_
        refine ⟨f1, rfl, fun x hx y hy => ?_⟩
        rw [hf x hx y hy]
        exact ⟨fun q => q.elim Or.inl (fun q => Or.inr q.2), fun q => q.elim Or.inl (fun q => Or.inr ⟨by omega, q⟩)⟩
      · exact absurd (nI_le (a := 64) (b := k) (by omega) (by omega)) h5
    | succ d ih =>
      intro k hkd f1 hf
      refine pw_iload_n C d_RE_addJoined_2 rfl ?_
      refine pw_bipush C d_RE_addJoined_3 (v := 64) (by decide) ?_
      refine pw_icmp_ge C 64 d_RE_addJoined_5 (by decide) (fun h5 => ?_) (fun h5 => ?_)
      · exact absurd ((nI_leI (a := 64) (by decide) (by omega)).mp h5) (by omega)
      refine pw_aload_n C d_RE_addJoined_8 rfl ?_
      refine pw_iload_n C d_RE_addJoined_9 rfl ?_
      refine pw_laldK C d_RE_addJoined_10 hd2 (by rw [pw_up_ne _ _ hne2]; exact hw2) (by omega) ?_
      refine pw_lstore C d_RE_addJoined_11 (by decide) ?_
      refine pw_iconst C d_RE_addJoined_13 (v := 0) (by decide) ?_
      refine pw_istore C d_RE_addJoined_14 (by decide) ?_
      refine Li k (by omega) ?_ 64 0 0 (by omega) (Nat.le_refl 0) (G k) f1 (lf_0 _) (fun x hx y hy => ?_)
      · intro f2 hf2
        refine pw_iinc1 C d_RE_addJoined_58 rfl (by decide) ?_
        refine pw_goto C 2 d_RE_addJoined_61 (by decide) ?_
        exact ih (k + 1) (by omega) f2 hf2
      · rw [hf x hx y hy]
        exact ⟨fun q => q.elim Or.inl (fun q => Or.inr (Or.inl q)), fun q => q.elim Or.inl (fun q => q.elim Or.inr (fun q => absurd q.2 (fun ⟨z, hz, _⟩ => Nat.not_lt_zero z hz)))⟩
  refine pw_iconst C d_RE_addJoined_0 (v := 0) (by decide) ?_
  refine pw_istore_n C d_RE_addJoined_1 (by decide) ?_
  refine MW.world (pw_up_id w hw).symm ?_
  exact L 64 0 rfl F (fun x hx y hy => ⟨Or.inl, fun q => q.elim id (fun q => absurd q.1 (Nat.not_lt_zero x))⟩)
set_option maxHeartbeats 4000000 in
set_option maxRecDepth 100000 in
theorem k_RE_close (l : Launch) {X : Lay} (hI : pw_I X) (w : Wd) {g i : Nat} {F : Nat → Int64} (hd : pw_d X g i) (hw : w g i = aL X 64 F) : CtV l y_RE_close (pw_ws y_RE_close c_RE_close 3 none) { frames := 1, cells := 0, slots := 0, locals := 22 } X w [.ref (pw_a X g i)] (fun w1 => ∃ f1, w1 = pw_up w g i (aL X 64 f1) ∧ ∀ x, x < 64 → ∀ y, y < 64 → bt_f (f1 x) y = wz_f (fun a b => bt_f (F a) b) 64 x y) := by
  refine pw_open (by decide) hI [some (.ref (pw_a X g i)), none, none] rfl (Nat.le_of_ble_eq_true rfl) ?_
  intro zp ze zs zm za zb zt zc hargs C hr hlk hnm
  generalize hrr : (fun a b => bt_f (F a) b) = rr
  have Li : ∀ k : Nat, k < 64 → (∀ f1 : Nat → Int64, (∀ x, x < 64 → ∀ y, y < 64 → bt_f (f1 x) y = wz_f rr (k + 1) x y) → MW zp l ze ({ frames := 1, cells := 0, slots := 0, locals := 22 } : Room) zs zm za zb zt zc X 3 0 0 (MQ zb (va_Qv (fun w1 => ∃ f1, w1 = pw_up w g i (aL X 64 f1) ∧ ∀ x, x < 64 → ∀ y, y < 64 → bt_f (f1 x) y = wz_f rr 64 x y) (pw_B X) (pw_F X)) za zs 0 0 (pw_F X)) (pw_up w g i (aL X 64 f1)) 41 [some (.ref (pw_a X g i)), some (.int (nI k)), none] []) → ∀ d q : Nat, q + d = 64 → ∀ f1 : Nat → Int64, (∀ x, x < q → ∀ y, y < 64 → bt_f (f1 x) y = wz_f rr (k + 1) x y) → (∀ x, q ≤ x → x < 64 → ∀ y, y < 64 → bt_f (f1 x) y = wz_f rr k x y) → MW zp l ze ({ frames := 1, cells := 0, slots := 0, locals := 22 } : Room) zs zm za zb zt zc X 3 0 0 (MQ zb (va_Qv (fun w1 => ∃ f1, w1 = pw_up w g i (aL X 64 f1) ∧ ∀ x, x < 64 → ∀ y, y < 64 → bt_f (f1 x) y = wz_f rr 64 x y) (pw_B X) (pw_F X)) za zs 0 0 (pw_F X)) (pw_up w g i (aL X 64 f1)) 10 [some (.ref (pw_a X g i)), some (.int (nI k)), some (.int (nI q))] [] := by
    intro k hk hcont d
    induction d with
    | zero =>
      intro q hqd f1 hf1 hf2
      refine pw_iload_n C d_RE_close_10 rfl ?_
      refine pw_bipush C d_RE_close_11 (v := 64) (by decide) ?_
      refine pw_icmp_ge C 41 d_RE_close_13 (by decide) (fun h13 => ?_) (fun h13 => ?_)
      · exact MW.less (lv' := [some (.ref (pw_a X g i)), some (.int (nI k)), none]) (by intro i v h; rcases i with _ | _ | _ | _ | _ | _ | _ | i <;> first | exact h | (simp at h)) (hcont f1 (fun x hx => hf1 x (by omega)))
      · exact absurd (nI_le (a := 64) (b := q) (by omega) (by omega)) h13
    | succ d ih =>
      intro q hqd f1 hf1 hf2
      refine pw_iload_n C d_RE_close_10 rfl ?_
      refine pw_bipush C d_RE_close_11 (v := 64) (by decide) ?_
      refine pw_icmp_ge C 41 d_RE_close_13 (by decide) (fun h13 => ?_) (fun h13 => ?_)
      · exact absurd ((nI_leI (a := 64) (by decide) (by omega)).mp h13) (by omega)
      refine pw_aload_n C d_RE_close_16 rfl ?_
      refine pw_iload_n C d_RE_close_17 rfl ?_
      refine pw_laldK C d_RE_close_18 hd (pw_up_self w g i _) (by omega) ?_
      refine pw_iload_n C d_RE_close_19 rfl ?_
      refine pw_callSNi C (k_PF_holds l hI _ _ hk) ⟨pw_cn C 2 W_159 W_1 N_31 ⟨rfl, rfl⟩ (by decide +kernel) ⟨(Nat.le_of_ble_eq_true rfl), (Nat.le_of_ble_eq_true rfl)⟩, pw_w C W_158, trivial⟩ rfl rfl (Nat.le_of_ble_eq_true rfl) d_RE_close_20 ⟨Nat.zero_le _, Nat.zero_le _⟩ (fun r w9 hp => ?_)
      obtain ⟨e9, hp⟩ := hp
      refine MW.world e9 ?_
      refine pw_if_eq C 35 d_RE_close_23 (by decide) (fun h23 => ?_) (fun h23 => ?_)
      · refine pw_iinc1 C d_RE_close_35 rfl (by decide) ?_
        refine pw_goto C 10 d_RE_close_38 (by decide) ?_
        refine ih (q + 1) (by omega) f1 (fun x hx y hy => ?_) (fun x hx hx2 y hy => hf2 x (by omega) hx2 y hy)
        by_cases q1 : x = q
        · subst q1
          have hz : wz_f rr k x k = false := by
            rw [← hf2 x (Nat.le_refl x) (by omega) k hk]
            cases hb : bt_f (f1 x) k with
            | false => rfl
            | true => exact absurd hb (yn_f hp h23)
          rw [hf2 x (Nat.le_refl x) (by omega) y hy]
          show wz_f rr k x y = (wz_f rr k x y || (wz_f rr k x k && wz_f rr k k y))
          rw [hz]; simp
        · exact hf1 x (by omega) y hy
      · refine pw_aload_n C d_RE_close_26 rfl ?_
        refine pw_iload_n C d_RE_close_27 rfl ?_
        refine pw_dup2 C d_RE_close_28 rfl rfl ?_
        refine pw_laldK C d_RE_close_29 hd (pw_up_self w g i _) (by omega) ?_
        refine pw_aload_n C d_RE_close_30 rfl ?_
        refine pw_iload_n C d_RE_close_31 rfl ?_
        refine pw_laldK C d_RE_close_32 hd (pw_up_self w g i _) hk ?_
        refine pw_lor C d_RE_close_33 ?_
        refine pw_lastK C d_RE_close_34 hd (pw_up_self w g i _) (by omega) ?_
        refine pw_iinc1 C d_RE_close_35 rfl (by decide) ?_
        refine pw_goto C 10 d_RE_close_38 (by decide) ?_
        rw [pw_up_up]
        refine ih (q + 1) (by omega) _ (fun x hx y hy => ?_) (fun x hx hx2 y hy => ?_)
        · by_cases q1 : x = q
          · subst q1
            have hz : wz_f rr k x k = true := by
              rw [← hf2 x (Nat.le_refl x) (by omega) k hk]
              exact yn_t hp h23
            have hk2 : bt_f (f1 k) y = wz_f rr k k y := by
              rcases Nat.lt_or_ge k x with q2 | q2
              · rw [hf1 k q2 y hy, wz_row]
              · exact hf2 k q2 hk y hy
            rw [pk_uLs, bt_or, hf2 x (Nat.le_refl x) (by omega) y hy, hk2]
            show _ = (wz_f rr k x y || (wz_f rr k x k && wz_f rr k k y))
            rw [hz]; simp
          · rw [pk_uLn q1]; exact hf1 x (by omega) y hy
        · rw [pk_uLn (by omega)]; exact hf2 x (by omega) hx2 y hy
  have L : ∀ d k : Nat, k + d = 64 → ∀ f1 : Nat → Int64, (∀ x, x < 64 → ∀ y, y < 64 → bt_f (f1 x) y = wz_f rr k x y) → MW zp l ze ({ frames := 1, cells := 0, slots := 0, locals := 22 } : Room) zs zm za zb zt zc X 3 0 0 (MQ zb (va_Qv (fun w1 => ∃ f1, w1 = pw_up w g i (aL X 64 f1) ∧ ∀ x, x < 64 → ∀ y, y < 64 → bt_f (f1 x) y = wz_f rr 64 x y) (pw_B X) (pw_F X)) za zs 0 0 (pw_F X)) (pw_up w g i (aL X 64 f1)) 2 [some (.ref (pw_a X g i)), some (.int (nI k)), none] [] := by
    intro d
    induction d with
    | zero =>
      intro k hkd f1 hf
      refine pw_iload_n C d_RE_close_2 rfl ?_
      refine pw_bipush C d_RE_close_3 (v := 64) (by decide) ?_
      refine pw_icmp_ge C 47 d_RE_close_5 (by decide) (fun h5 => ?_) (fun h5 => ?_)
      · refine pw_vret C hr hlk d_RE_close_47 ?_
        refine ⟨f1, rfl, fun x hx y hy => ?_⟩
        rw [hf x hx y hy, show k = 64 by omega]
      · exact absurd (nI_le (a := 64) (b := k) (by omega) (by omega)) h5
    | succ d ih =>
      intro k hkd f1 hf
      refine pw_iload_n C d_RE_close_2 rfl ?_
      refine pw_bipush C d_RE_close_3 (v := 64) (by decide) ?_
      refine pw_icmp_ge C 47 d_RE_close_5 (by decide) (fun h5 => ?_) (fun h5 => ?_)
      · exact absurd ((nI_leI (a := 64) (by decide) (by omega)).mp h5) (by omega)
      refine pw_iconst C d_RE_close_8 (v := 0) (by decide) ?_
      refine pw_istore_n C d_RE_close_9 (by decide) ?_
      refine Li k (by omega) ?_ 64 0 rfl f1 (fun x hx => absurd hx (Nat.not_lt_zero x)) (fun x _ hx => hf x hx)
      intro f2 hf2
      refine pw_iinc1 C d_RE_close_41 rfl (by decide) ?_
      refine pw_goto C 2 d_RE_close_44 (by decide) ?_
      exact ih (k + 1) (by omega) f2 hf2
  refine pw_iconst C d_RE_close_0 (v := 0) (by decide) ?_
  refine pw_istore_n C d_RE_close_1 (by decide) ?_
  refine MW.world (pw_up_id w hw).symm ?_
  exact L 64 0 rfl F (fun x hx y hy => by rw [← hrr]; rfl)
end
section
/-! RELATIONS: a part's rows out of its parts' rows; all parts -/
def bm_f (A : Nat → Int64) : Nat → Nat → Bool := fun a b => bt_f (A a) b
/-- a part's relation, of a kind with parts A and B -/
def rs_f (k : Int32) (A B : Nat → Int64) (x y : Nat) : Prop :=
  (k = 1 ∧ bt_f (A y) x = true) ∨ (k = 2 ∧ ∃ z, z < 64 ∧ bt_f (A x) z = true ∧ bt_f (B z) y = true) ∨ (k = 3 ∧ (bt_f (A x) y = true ∨ bt_f (B x) y = true)) ∨ (k = 4 ∧ (bt_f (A x) y = true ∨ y = x)) ∨ (k = 5 ∧ (wz_f (bm_f A) 64 x y = true ∨ y = x)) ∨ (k = 6 ∧ wz_f (bm_f A) 64 x y = true)
theorem rs_un {k : Int32} (h : ¬ (k = 2 ∨ k = 3)) (A B B' : Nat → Int64) (x y : Nat) : rs_f k A B x y ↔ rs_f k A B' x y := by
  unfold rs_f
  have h2 : ¬ k = 2 := fun q => h (Or.inl q)
  have h3 : ¬ k = 3 := fun q => h (Or.inr q)
  simp [h2, h3]
theorem wz_congr {r r' : Nat → Nat → Bool} (h : ∀ a, a < 64 → ∀ b, b < 64 → r a b = r' a b) : ∀ z, z ≤ 64 → ∀ x, x < 64 → ∀ y, y < 64 → wz_f r z x y = wz_f r' z x y
  | 0, _, x, hx, y, hy => h x hx y hy
  | z + 1, hz, x, hx, y, hy => by
    have ih := wz_congr h z (by omega)
    show (wz_f r z x y || (wz_f r z x z && wz_f r z z y)) = (wz_f r' z x y || (wz_f r' z x z && wz_f r' z z y))
    rw [ih x hx y hy, ih x hx z (by omega), ih z (by omega) y hy]
theorem or_0 (x : Int64) : (0 : Int64) ||| x = x := bt_ext (fun j _ => by rw [bt_or, bt_0]; simp)
theorem sw6 (x : Int32) : (x.toInt < 1 ∨ 6 < x.toInt) ∨ x = 1 ∨ x = 2 ∨ x = 3 ∨ x = 4 ∨ x = 5 ∨ x = 6 := by
  rcases (show (x.toInt < 1 ∨ 6 < x.toInt) ∨ x.toInt = 1 ∨ x.toInt = 2 ∨ x.toInt = 3 ∨ x.toInt = 4 ∨ x.toInt = 5 ∨ x.toInt = 6 by omega) with h | h | h | h | h | h | h
  · exact Or.inl h
  · exact Or.inr (Or.inl (Int32.toInt_inj.mp (h.trans (by decide))))
  · exact Or.inr (Or.inr (Or.inl (Int32.toInt_inj.mp (h.trans (by decide)))))
  · exact Or.inr (Or.inr (Or.inr (Or.inl (Int32.toInt_inj.mp (h.trans (by decide))))))
  · exact Or.inr (Or.inr (Or.inr (Or.inr (Or.inl (Int32.toInt_inj.mp (h.trans (by decide)))))))
  · exact Or.inr (Or.inr (Or.inr (Or.inr (Or.inr (Or.inl (Int32.toInt_inj.mp (h.trans (by decide))))))))
  · exact Or.inr (Or.inr (Or.inr (Or.inr (Or.inr (Or.inr (Int32.toInt_inj.mp (h.trans (by decide))))))))
set_option maxHeartbeats 4000000 in
set_option maxRecDepth 100000 in
theorem k_RE_fillFrom (l : Launch) {X : Lay} (hI : pw_I X) (hX : Dm X) (w : Wd) {g i g2 i2 g3 i3 : Nat} {F A Bs : Nat → Int64} (k : Int32) (hd : pw_d X g i) (hw : w g i = aL X 64 F) (hF : ∀ x, x < 64 → F x = 0) (hd2 : pw_d X g2 i2) (hw2 : w g2 i2 = aL X 64 A) (hne2 : ¬ (g2 = g ∧ i2 = i)) (hS : k = 2 ∨ k = 3 → pw_d X g3 i3 ∧ w g3 i3 = aL X 64 Bs ∧ ¬ (g3 = g ∧ i3 = i)) : CtV l y_RE_fillFrom (pw_ws y_RE_fillFrom c_RE_fillFrom 4 none) { frames := 3, cells := 0, slots := 0, locals := 69 } X w [.ref (pw_a X g i), .int k, .ref (pw_a X g2 i2), .ref (pw_a X g3 i3)] (fun w1 => ∃ f1, w1 = pw_up w g i (aL X 64 f1) ∧ ∀ x, x < 64 → ∀ y, y < 64 → (bt_f (f1 x) y = true ↔ rs_f k A Bs x y)) := by
  refine pw_open (by decide) hI [some (.ref (pw_a X g i)), some (.int k), some (.ref (pw_a X g2 i2)), some (.ref (pw_a X g3 i3))] rfl (Nat.le_of_ble_eq_true rfl) ?_
  intro zp ze zs zm za zb zt zc hargs C hr hlk hnm
  refine pw_iload_n C d_RE_fillFrom_0 rfl ?_
  rcases sw6 k with hk | rfl | rfl | rfl | rfl | rfl | rfl
  · refine pw_tableOut C 110 d_RE_fillFrom_1 hk (by decide) ?_
    refine pw_vret C hr hlk d_RE_fillFrom_110 ?_
    refine ⟨F, (pw_up_id w hw).symm, fun x hx y hy => ?_⟩
    rw [hF x hx, bt_0]
    refine ⟨fun q => (by cases q), fun q => ?_⟩
    rcases q with ⟨q, -⟩ | ⟨q, -⟩ | ⟨q, -⟩ | ⟨q, -⟩ | ⟨q, -⟩ | ⟨q, -⟩ <;> (subst q; exact absurd hk (by decide))
  · refine pw_tableIn C 40 d_RE_fillFrom_1 (by decide) (by decide) rfl (by decide) ?_
    refine pw_aload_n C d_RE_fillFrom_40 rfl ?_
    refine pw_aload_n C d_RE_fillFrom_41 rfl ?_
    refine pw_callSv C (k_RE_addTurned l hI _ hd hw hd2 hw2 hne2) ⟨pw_cb C 2 W_259 W_4 W_257 ⟨rfl, rfl⟩ (by decide +kernel) ⟨(Nat.le_of_ble_eq_true rfl), (Nat.le_of_ble_eq_true rfl)⟩, pw_w C W_258⟩ rfl rfl (Nat.le_of_ble_eq_true rfl) d_RE_fillFrom_42 ⟨Nat.zero_le _, Nat.zero_le _⟩ (fun w9 hp => ?_)
    obtain ⟨f1, e9, hf1⟩ := hp
    refine MW.world e9 ?_
    refine pw_goto C 110 d_RE_fillFrom_45 (by decide) ?_
    refine pw_vret C hr hlk d_RE_fillFrom_110 ?_
    refine ⟨f1, rfl, fun x hx y hy => ?_⟩
    rw [hf1 x hx y hy, hF x hx, bt_0]
    unfold rs_f
    simp
  · refine pw_tableIn C 48 d_RE_fillFrom_1 (by decide) (by decide) rfl (by decide) ?_
    refine pw_aload_n C d_RE_fillFrom_48 rfl ?_
    refine pw_aload_n C d_RE_fillFrom_49 rfl ?_
    refine pw_aload_n C d_RE_fillFrom_50 rfl ?_
    refine pw_callSv C (k_RE_addJoined l hI _ hd hw hd2 hw2 hne2 (hS (Or.inl rfl)).1 (hS (Or.inl rfl)).2.1 (hS (Or.inl rfl)).2.2) ⟨pw_cb C 3 W_270 W_4 W_268 ⟨rfl, rfl⟩ (by decide +kernel) ⟨(Nat.le_of_ble_eq_true rfl), (Nat.le_of_ble_eq_true rfl)⟩, pw_w C W_269⟩ rfl rfl (Nat.le_of_ble_eq_true rfl) d_RE_fillFrom_51 ⟨Nat.zero_le _, Nat.zero_le _⟩ (fun w9 hp => ?_)
    obtain ⟨f1, e9, hf1⟩ := hp
    refine MW.world e9 ?_
    refine pw_goto C 110 d_RE_fillFrom_54 (by decide) ?_
    refine pw_vret C hr hlk d_RE_fillFrom_110 ?_
    refine ⟨f1, rfl, fun x hx y hy => ?_⟩
    rw [hf1 x hx y hy, hF x hx, bt_0]
    unfold rs_f
    simp
  · refine pw_tableIn C 57 d_RE_fillFrom_1 (by decide) (by decide) rfl (by decide) ?_
    refine pw_aload_n C d_RE_fillFrom_57 rfl ?_
    refine pw_aload_n C d_RE_fillFrom_58 rfl ?_
    refine pw_callSv C (k_RE_add l hI _ hd hw hd2 hw2 hne2) ⟨pw_cb C 2 W_253 W_4 W_251 ⟨rfl, rfl⟩ (by decide +kernel) ⟨(Nat.le_of_ble_eq_true rfl), (Nat.le_of_ble_eq_true rfl)⟩, pw_w C W_252⟩ rfl rfl (Nat.le_of_ble_eq_true rfl) d_RE_fillFrom_59 ⟨Nat.zero_le _, Nat.zero_le _⟩ (fun w9 hp => ?_)
    obtain ⟨f1, e9, hf1⟩ := hp
    refine MW.world e9 ?_
    have hA : ∀ x, x < 64 → f1 x = A x := fun x hx => by rw [hf1 x hx, hF x hx, or_0]
    refine pw_aload_n C d_RE_fillFrom_62 rfl ?_
    refine pw_aload_n C d_RE_fillFrom_63 rfl ?_
    refine pw_callSv C (k_RE_add l hI _ hd (pw_up_self w g i _) (hS (Or.inr rfl)).1 (by rw [pw_up_ne _ _ (hS (Or.inr rfl)).2.2]; exact (hS (Or.inr rfl)).2.1) (hS (Or.inr rfl)).2.2) ⟨pw_cb C 2 W_253 W_4 W_251 ⟨rfl, rfl⟩ (by decide +kernel) ⟨(Nat.le_of_ble_eq_true rfl), (Nat.le_of_ble_eq_true rfl)⟩, pw_w C W_252⟩ rfl rfl (Nat.le_of_ble_eq_true rfl) d_RE_fillFrom_64 ⟨Nat.zero_le _, Nat.zero_le _⟩ (fun w9 hp => ?_)
    obtain ⟨f2, e9, hf2⟩ := hp
    refine MW.world e9 ?_
    rw [pw_up_up]
    refine pw_goto C 110 d_RE_fillFrom_67 (by decide) ?_
    refine pw_vret C hr hlk d_RE_fillFrom_110 ?_
    refine ⟨f2, rfl, fun x hx y hy => ?_⟩
    rw [hf2 x hx, hA x hx, bt_or]
    unfold rs_f
    simp
  · refine pw_tableIn C 70 d_RE_fillFrom_1 (by decide) (by decide) rfl (by decide) ?_
    refine pw_aload_n C d_RE_fillFrom_70 rfl ?_
    refine pw_aload_n C d_RE_fillFrom_71 rfl ?_
    refine pw_callSv C (k_RE_add l hI _ hd hw hd2 hw2 hne2) ⟨pw_cb C 2 W_253 W_4 W_251 ⟨rfl, rfl⟩ (by decide +kernel) ⟨(Nat.le_of_ble_eq_true rfl), (Nat.le_of_ble_eq_true rfl)⟩, pw_w C W_252⟩ rfl rfl (Nat.le_of_ble_eq_true rfl) d_RE_fillFrom_72 ⟨Nat.zero_le _, Nat.zero_le _⟩ (fun w9 hp => ?_)
    obtain ⟨f1, e9, hf1⟩ := hp
    refine MW.world e9 ?_
    have hA : ∀ x, x < 64 → f1 x = A x := fun x hx => by rw [hf1 x hx, hF x hx, or_0]
    refine pw_aload_n C d_RE_fillFrom_75 rfl ?_
    refine pw_callSv C (k_RE_addStaying l hI _ hd (pw_up_self w g i _)) ⟨pw_cb C 1 W_273 W_4 W_271 ⟨rfl, rfl⟩ (by decide +kernel) ⟨(Nat.le_of_ble_eq_true rfl), (Nat.le_of_ble_eq_true rfl)⟩, pw_w C W_272⟩ rfl rfl (Nat.le_of_ble_eq_true rfl) d_RE_fillFrom_76 ⟨Nat.zero_le _, Nat.zero_le _⟩ (fun w9 hp => ?_)
    obtain ⟨f2, e9, hf2⟩ := hp
    refine MW.world e9 ?_
    rw [pw_up_up]
    refine pw_goto C 110 d_RE_fillFrom_79 (by decide) ?_
    refine pw_vret C hr hlk d_RE_fillFrom_110 ?_
    refine ⟨f2, rfl, fun x hx y hy => ?_⟩
    rw [hf2 x hx y hy, hA x hx]
    unfold rs_f
    simp
  · refine pw_tableIn C 82 d_RE_fillFrom_1 (by decide) (by decide) rfl (by decide) ?_
    refine pw_aload_n C d_RE_fillFrom_82 rfl ?_
    refine pw_aload_n C d_RE_fillFrom_83 rfl ?_
    refine pw_callSv C (k_RE_add l hI _ hd hw hd2 hw2 hne2) ⟨pw_cb C 2 W_253 W_4 W_251 ⟨rfl, rfl⟩ (by decide +kernel) ⟨(Nat.le_of_ble_eq_true rfl), (Nat.le_of_ble_eq_true rfl)⟩, pw_w C W_252⟩ rfl rfl (Nat.le_of_ble_eq_true rfl) d_RE_fillFrom_84 ⟨Nat.zero_le _, Nat.zero_le _⟩ (fun w9 hp => ?_)
    obtain ⟨f1, e9, hf1⟩ := hp
    refine MW.world e9 ?_
    have hA : ∀ x, x < 64 → f1 x = A x := fun x hx => by rw [hf1 x hx, hF x hx, or_0]
    refine pw_aload_n C d_RE_fillFrom_87 rfl ?_
    refine pw_callSv C (k_RE_close l hI _ hd (pw_up_self w g i _)) ⟨pw_cb C 1 W_276 W_4 W_274 ⟨rfl, rfl⟩ (by decide +kernel) ⟨(Nat.le_of_ble_eq_true rfl), (Nat.le_of_ble_eq_true rfl)⟩, pw_w C W_275⟩ rfl rfl (Nat.le_of_ble_eq_true rfl) d_RE_fillFrom_88 ⟨Nat.zero_le _, Nat.zero_le _⟩ (fun w9 hp => ?_)
    obtain ⟨f2, e9, hf2⟩ := hp
    refine MW.world e9 ?_
    rw [pw_up_up]
    refine pw_aload_n C d_RE_fillFrom_91 rfl ?_
    refine pw_callSv C (k_RE_addStaying l hI _ hd (pw_up_self w g i _)) ⟨pw_cb C 1 W_273 W_4 W_271 ⟨rfl, rfl⟩ (by decide +kernel) ⟨(Nat.le_of_ble_eq_true rfl), (Nat.le_of_ble_eq_true rfl)⟩, pw_w C W_272⟩ rfl rfl (Nat.le_of_ble_eq_true rfl) d_RE_fillFrom_92 ⟨Nat.zero_le _, Nat.zero_le _⟩ (fun w9 hp => ?_)
    obtain ⟨f3, e9, hf3⟩ := hp
    refine MW.world e9 ?_
    rw [pw_up_up]
    refine pw_goto C 110 d_RE_fillFrom_95 (by decide) ?_
    refine pw_vret C hr hlk d_RE_fillFrom_110 ?_
    refine ⟨f3, rfl, fun x hx y hy => ?_⟩
    rw [hf3 x hx y hy, hf2 x hx y hy, wz_congr (r' := bm_f A) (fun a ha b hb => by rw [hA a ha]; rfl) 64 (Nat.le_refl 64) x hx y hy]
    unfold rs_f
    simp
  · refine pw_tableIn C 98 d_RE_fillFrom_1 (by decide) (by decide) rfl (by decide) ?_
    refine pw_aload_n C d_RE_fillFrom_98 rfl ?_
    refine pw_aload_n C d_RE_fillFrom_99 rfl ?_
    refine pw_callSv C (k_RE_add l hI _ hd hw hd2 hw2 hne2) ⟨pw_cb C 2 W_253 W_4 W_251 ⟨rfl, rfl⟩ (by decide +kernel) ⟨(Nat.le_of_ble_eq_true rfl), (Nat.le_of_ble_eq_true rfl)⟩, pw_w C W_252⟩ rfl rfl (Nat.le_of_ble_eq_true rfl) d_RE_fillFrom_100 ⟨Nat.zero_le _, Nat.zero_le _⟩ (fun w9 hp => ?_)
    obtain ⟨f1, e9, hf1⟩ := hp
    refine MW.world e9 ?_
    have hA : ∀ x, x < 64 → f1 x = A x := fun x hx => by rw [hf1 x hx, hF x hx, or_0]
    refine pw_aload_n C d_RE_fillFrom_103 rfl ?_
    refine pw_callSv C (k_RE_close l hI _ hd (pw_up_self w g i _)) ⟨pw_cb C 1 W_276 W_4 W_274 ⟨rfl, rfl⟩ (by decide +kernel) ⟨(Nat.le_of_ble_eq_true rfl), (Nat.le_of_ble_eq_true rfl)⟩, pw_w C W_275⟩ rfl rfl (Nat.le_of_ble_eq_true rfl) d_RE_fillFrom_104 ⟨Nat.zero_le _, Nat.zero_le _⟩ (fun w9 hp => ?_)
    obtain ⟨f2, e9, hf2⟩ := hp
    refine MW.world e9 ?_
    rw [pw_up_up]
    refine pw_goto C 110 d_RE_fillFrom_107 (by decide) ?_
    refine pw_vret C hr hlk d_RE_fillFrom_110 ?_
    refine ⟨f2, rfl, fun x hx y hy => ?_⟩
    rw [hf2 x hx y hy, wz_congr (r' := bm_f A) (fun a ha b hb => by rw [hA a ha]; rfl) 64 (Nat.le_refl 64) x hx y hy]
    unfold rs_f
    simp
/-- the cells that fill reads: graph, path tables, the object itself -/
def v_rep (X : Lay) (w : Wd) (T : Nat → Nat → Int64) (ks ls ss : Nat → Int32) (parts : Nat) : Prop :=
  (∃ n, g_rep X w T n) ∧ (∃ nn ft, w 4 0 = oB 2 [.ref (pw_a X 5 0), .ref (pw_a X 6 0), .ref (pw_a X 7 0), .ref (pw_a X 8 0), .int nn, .int (nI parts), .int ft]) ∧ w 6 0 = aI X 40 ks ∧ w 7 0 = aI X 40 ls ∧ w 8 0 = aI X 40 ss ∧ (∃ rdy, w 9 0 = oB 3 [.ref (pw_a X 1 0), .ref (pw_a X 4 0), .ref (pw_a X 10 0), .int rdy]) ∧ ∃ f, w 10 0 = aQ X 40 f ∧ ∀ j, j < 40 → f j = some (pw_a X 11 j)
theorem v_rep_of {X : Lay} {w w1 : Wd} {T : Nat → Nat → Int64} {ks ls ss : Nat → Int32} {parts : Nat} (h : v_rep X w T ks ls ss parts) (hs : ∀ g, g < 11 → w1 g = w g) : v_rep X w1 T ks ls ss parts := by
  obtain ⟨⟨n, a⟩, b, c, d, e, f, g⟩ := h
  refine ⟨⟨n, g_rep_of a (hs 1 (by decide)) (hs 2 (by decide)) (hs 3 (by decide))⟩, ?_, ?_, ?_, ?_, ?_, ?_⟩
  · rw [hs 4 (by decide)]; exact b
  · rw [hs 6 (by decide)]; exact c
  · rw [hs 7 (by decide)]; exact d
  · rw [hs 8 (by decide)]; exact e
  · rw [hs 9 (by decide)]; exact f
  · rw [hs 10 (by decide)]; exact g
theorem v_up {X : Lay} {w : Wd} {T : Nat → Nat → Int64} {ks ls ss : Nat → Int32} {parts p : Nat} {e : va_E} (h : v_rep X w T ks ls ss parts) : v_rep X (pw_up w 11 p e) T ks ls ss parts := v_rep_of h (fun g hg => pw_up_row _ _ (by omega))
set_option maxHeartbeats 4000000 in
set_option maxRecDepth 100000 in
theorem k_RE_addEdges (l : Launch) {X : Lay} (hI : pw_I X) (hX : Dm X) (w : Wd) {T : Nat → Nat → Int64} {ks ls ss : Nat → Int32} {parts p : Nat} {F : Nat → Int64} (hV : v_rep X w T ks ls ss parts) (v : Int32) (hd : pw_d X 11 p) (hw : w 11 p = aL X 64 F) : CtV l y_RE_addEdges (pw_ws y_RE_addEdges c_RE_addEdges 4 none) { frames := 1, cells := 0, slots := 0, locals := 22 } X w [.ref (pw_a X 9 0), .ref (pw_a X 11 p), .int v] (fun w1 => ∃ f1, w1 = pw_up w 11 p (aL X 64 f1) ∧ ∀ x, x < 64 → ∀ y, y < 64 → (bt_f (f1 x) y = true ↔ (bt_f (F x) y = true ∨ ∃ b, b < 8 ∧ bt_f v.toInt64 b = true ∧ bt_f (T b x) y = true))) := by
  refine pw_open (by decide) hI [some (.ref (pw_a X 9 0)), some (.ref (pw_a X 11 p)), some (.int v), none] rfl (Nat.le_of_ble_eq_true rfl) ?_
  intro zp ze zs zm za zb zt zc hargs C hr hlk hnm
  have L : ∀ d k : Nat, k + d = 8 → ∀ f1 : Nat → Int64, (∀ x, x < 64 → ∀ y, y < 64 → (bt_f (f1 x) y = true ↔ (bt_f (F x) y = true ∨ ∃ b, b < k ∧ bt_f v.toInt64 b = true ∧ bt_f (T b x) y = true))) → MW zp l ze ({ frames := 1, cells := 0, slots := 0, locals := 22 } : Room) zs zm za zb zt zc X 4 0 0 (MQ zb (va_Qv (fun w1 => ∃ f1, w1 = pw_up w 11 p (aL X 64 f1) ∧ ∀ x, x < 64 → ∀ y, y < 64 → (bt_f (f1 x) y = true ↔ (bt_f (F x) y = true ∨ ∃ b, b < 8 ∧ bt_f v.toInt64 b = true ∧ bt_f (T b x) y = true))) (pw_B X) (pw_F X)) za zs 0 0 (pw_F X)) (pw_up w 11 p (aL X 64 f1)) 2 [some (.ref (pw_a X 9 0)), some (.ref (pw_a X 11 p)), some (.int v), some (.int (nI k))] [] := by
    intro d
    induction d with
    | zero =>
      intro k hkd f1 hf
      refine pw_iload_n C d_RE_addEdges_2 rfl ?_
      refine pw_bipush C d_RE_addEdges_3 (v := 8) (by decide) ?_
      refine pw_icmp_ge C 36 d_RE_addEdges_5 (by decide) (fun h5 => ?_) (fun h5 => ?_)
      · refine pw_vret C hr hlk d_RE_addEdges_36 ?_
        rw [show k = 8 by omega] at hf
        exact ⟨f1, rfl, hf⟩
      · exact absurd (nI_le (a := 8) (b := k) (by omega) (by omega)) h5
    | succ d ih =>
      intro k hkd f1 hf
      obtain ⟨⟨n, d1, d2, d3, w1e, ⟨f, w2e, hff⟩, w3e⟩, -, -, -, -, ⟨rdy, w9e⟩, -⟩ := v_up (p := p) (e := aL X 64 f1) hV
      refine pw_iload_n C d_RE_addEdges_2 rfl ?_
      refine pw_bipush C d_RE_addEdges_3 (v := 8) (by decide) ?_
      refine pw_icmp_ge C 36 d_RE_addEdges_5 (by decide) (fun h5 => ?_) (fun h5 => ?_)
      · exact absurd ((nI_leI (a := 8) (by decide) (by omega)).mp h5) (by omega)
      refine pw_iload_n C d_RE_addEdges_8 rfl ?_
      refine pw_i2l C d_RE_addEdges_9 ?_
      refine pw_iload_n C d_RE_addEdges_10 rfl ?_
      refine pw_callSNi C (k_PF_holds l hI _ v.toInt64 (k := k) (by omega)) ⟨pw_cn C 2 W_159 W_1 N_31 ⟨rfl, rfl⟩ (by decide +kernel) ⟨(Nat.le_of_ble_eq_true rfl), (Nat.le_of_ble_eq_true rfl)⟩, pw_w C W_158, trivial⟩ rfl rfl (Nat.le_of_ble_eq_true rfl) d_RE_addEdges_11 ⟨Nat.zero_le _, Nat.zero_le _⟩ (fun r w9 hp => ?_)
      obtain ⟨e9, hp⟩ := hp
      refine MW.world e9 ?_
      refine pw_if_eq C 30 d_RE_addEdges_14 (by decide) (fun h14 => ?_) (fun h14 => ?_)
      · refine pw_iinc1 C d_RE_addEdges_30 rfl (by decide) ?_
        refine pw_goto C 2 d_RE_addEdges_33 (by decide) ?_
        refine ih (k + 1) (by omega) f1 (fun x hx y hy => ?_)
        rw [hf x hx y hy]
        constructor
        · rintro (a | ⟨b, c, d, e⟩)
          · exact Or.inl a
          · exact Or.inr ⟨b, by omega, d, e⟩
        · rintro (a | ⟨b, c, d, e⟩)
          · exact Or.inl a
          · by_cases q : b = k
            · subst q; exact absurd d (yn_f hp h14)
            · exact Or.inr ⟨b, by omega, d, e⟩
      · refine pw_aload_n C d_RE_addEdges_17 rfl ?_
        refine pw_aload_n C d_RE_addEdges_18 rfl ?_
        refine pw_get C d_RE_addEdges_19 (hX 9 0 rfl) w9e 0 rfl rfl (by decide) in_RE W_82 rfl ?_
        refine pw_getN C d_RE_addEdges_22 d1 w1e 0 rfl rfl (by decide) in_GR N_1 rfl ?_
        refine pw_iload_n C d_RE_addEdges_25 rfl ?_
        refine pw_aaldK C d_RE_addEdges_26 d2 w2e (by omega) (hff k (by omega)) ?_
        refine pw_callSv C (k_RE_add l hI _ hd (pw_up_self w 11 p _) (d3 k (by omega)) (w3e k (by omega)) (fun q => absurd q.1 (by decide))) ⟨pw_cb C 2 W_253 W_4 W_251 ⟨rfl, rfl⟩ (by decide +kernel) ⟨(Nat.le_of_ble_eq_true rfl), (Nat.le_of_ble_eq_true rfl)⟩, pw_w C W_252⟩ rfl rfl (Nat.le_of_ble_eq_true rfl) d_RE_addEdges_27 ⟨Nat.zero_le _, Nat.zero_le _⟩ (fun w9 hp2 => ?_)
        obtain ⟨f2, e9, hf2⟩ := hp2
        refine MW.world e9 ?_
        rw [pw_up_up]
        refine pw_iinc1 C d_RE_addEdges_30 rfl (by decide) ?_
        refine pw_goto C 2 d_RE_addEdges_33 (by decide) ?_
        refine ih (k + 1) (by omega) f2 (fun x hx y hy => ?_)
        rw [hf2 x hx, bt_or, Bool.or_eq_true, hf x hx y hy]
        constructor
        · rintro ((a | ⟨b, c, d, e⟩) | a)
          · exact Or.inl a
          · exact Or.inr ⟨b, by omega, d, e⟩
          · exact Or.inr ⟨k, by omega, yn_t hp h14, a⟩
        · rintro (a | ⟨b, c, d, e⟩)
          · exact Or.inl (Or.inl a)
          · by_cases q : b = k
            · subst q; exact Or.inr e
            · exact Or.inl (Or.inr ⟨b, by omega, d, e⟩)
  refine pw_iconst C d_RE_addEdges_0 (v := 0) (by decide) ?_
  refine pw_istore_n C d_RE_addEdges_1 (by decide) ?_
  refine MW.world (pw_up_id w hw).symm ?_
  exact L 8 0 rfl F (fun x hx y hy => ⟨Or.inl, fun q => q.elim id (fun ⟨b, hb, _⟩ => absurd hb (Nat.not_lt_zero b))⟩)
end
section
/-! RELATIONS: fill, ofPath -/
theorem vu_ne {α : Type} {f : Nat → α} {k j : Nat} {v : α} (h : j ≠ k) : va_up f k v j = f j := if_neg h
theorem vu_self {α : Type} {f : Nat → α} {k : Nat} {v : α} : va_up f k v k = v := if_pos rfl
def r_w (X : Lay) (w : Wd) (R : Nat → Nat → Int64) : Wd := fun g i => if g = 11 ∧ i < 40 then aL X 64 (R i) else w g i
theorem r_get {X : Lay} {w : Wd} {R : Nat → Nat → Int64} {j : Nat} (h : j < 40) : r_w X w R 11 j = aL X 64 (R j) := if_pos ⟨rfl, h⟩
theorem r_row {X : Lay} {w : Wd} {R : Nat → Nat → Int64} {g : Nat} (h : g ≠ 11) : r_w X w R g = w g := funext fun i => if_neg (fun q => h q.1)
theorem r_up {X : Lay} {w : Wd} {R : Nat → Nat → Int64} {p : Nat} {f : Nat → Int64} (hp : p < 40) : pw_up (r_w X w R) 11 p (aL X 64 f) = r_w X w (va_up R p f) := by
  funext g i
  by_cases h : g = 11 ∧ i = p
  · obtain ⟨rfl, rfl⟩ := h
    rw [pw_up_self, r_get hp, vu_self]
  · rw [pw_up_ne _ _ h]
    by_cases h2 : g = 11 ∧ i < 40
    · obtain ⟨rfl, h3⟩ := h2
      rw [r_get h3, r_get h3, vu_ne (fun q => h ⟨rfl, q⟩)]
    · unfold r_w; rw [if_neg h2, if_neg h2]
theorem r_up9 {X : Lay} {w : Wd} {R : Nat → Nat → Int64} {g0 i0 : Nat} {e : va_E} (hg : g0 ≠ 11) : pw_up (r_w X w R) g0 i0 e = r_w X (pw_up w g0 i0 e) R := by
  funext g i
  by_cases h : g = g0 ∧ i = i0
  · obtain ⟨rfl, rfl⟩ := h
    rw [pw_up_self, r_row hg, pw_up_self]
  · rw [pw_up_ne _ _ h]
    by_cases h2 : g = 11 ∧ i < 40
    · unfold r_w; rw [if_pos h2, if_pos h2]
    · unfold r_w; rw [if_neg h2, if_neg h2, pw_up_ne _ _ h]
theorem r_id {X : Lay} {w : Wd} {R : Nat → Nat → Int64} (h : ∀ j, j < 40 → w 11 j = aL X 64 (R j)) : r_w X w R = w := by
  funext g i
  by_cases h2 : g = 11 ∧ i < 40
  · obtain ⟨rfl, h3⟩ := h2
    rw [r_get h3, h i h3]
  · unfold r_w; rw [if_neg h2]
/-- a part's relation out of the tables and the other parts' rows -/
def rl_f (T : Nat → Nat → Int64) (ks ls ss : Nat → Int32) (R : Nat → Nat → Int64) (p x y : Nat) : Prop :=
  ((ks p = 0 ∨ ks p = 7) ∧ ∃ b, b < 8 ∧ bt_f (ls p).toInt64 b = true ∧ bt_f (T b x) y = true) ∨ (¬ (ks p = 0 ∨ ks p = 7) ∧ rs_f (ks p) (R (p + 1)) (R (ss p).toNatClampNeg) x y)
theorem rl_up {T : Nat → Nat → Int64} {ks ls ss : Nat → Int32} {R : Nat → Nat → Int64} {parts p k : Nat} {f : Nat → Int64} (hfl : fl_f ks ss parts) (h40 : parts ≤ 40) (hp : p < parts) (hk : k ≤ p) (x y : Nat) : rl_f T ks ls ss (va_up R k f) p x y ↔ rl_f T ks ls ss R p x y := by
  unfold rl_f
  by_cases hl : ks p = 0 ∨ ks p = 7
  · simp [hl]
  · obtain ⟨h1, q, h2, h3, h4, h5⟩ := hfl p hp hl
    rw [h4, nI_clamp (by omega), vu_ne (show p + 1 ≠ k by omega)]
    by_cases hq : q = k
    · have hqp : q = p := by omega
      have hu : ¬ (ks p = 2 ∨ ks p = 3) := fun z => by have := h5 z; omega
      simp only [hl, not_false_eq_true, true_and, false_and, false_or]
      exact rs_un hu _ _ _ x y
    · rw [vu_ne hq]
set_option maxHeartbeats 4000000 in
set_option maxRecDepth 100000 in
theorem k_RE_fill (l : Launch) {X : Lay} (hI : pw_I X) (hX : Dm X) (w : Wd) {T : Nat → Nat → Int64} {ks ls ss : Nat → Int32} {parts p : Nat} {R : Nat → Nat → Int64} (hV : v_rep X w T ks ls ss parts) (h40 : parts ≤ 40) (hp : p < parts) (hfl : fl_f ks ss parts) : CtV l y_RE_fill (pw_ws y_RE_fill c_RE_fill 6 none) { frames := 4, cells := 0, slots := 0, locals := 92 } X (r_w X w R) [.ref (pw_a X 9 0), .int (nI p)] (fun w1 => ∃ f1, w1 = r_w X w (va_up R p f1) ∧ ∀ x, x < 64 → ∀ y, y < 64 → (bt_f (f1 x) y = true ↔ rl_f T ks ls ss R p x y)) := by
  have hV0 := v_rep_of (w1 := r_w X w R) hV (fun g hg => r_row (by omega))
  obtain ⟨-, ⟨nn, ft, w4e⟩, w6e, w7e, w8e, ⟨rdy, w9e⟩, ⟨f10, w10e, hf10⟩⟩ := hV0
  have d11 : ∀ j, j < 40 → pw_d X 11 j := fun j hj => hX 11 j (by simp [dm_k, hj])
  refine pw_open (by decide) hI [some (.ref (pw_a X 9 0)), some (.int (nI p)), none, none, none, none] rfl (Nat.le_of_ble_eq_true rfl) ?_
  intro zp ze zs zm za zb zt zc hargs C hr hlk hnm
  refine pw_aload_n C d_RE_fill_0 rfl ?_
  refine pw_get C d_RE_fill_1 (hX 9 0 rfl) w9e 2 rfl rfl (by decide) in_RE W_84 rfl ?_
  refine pw_iload_n C d_RE_fill_4 rfl ?_
  refine pw_aaldK C d_RE_fill_5 (hX 10 0 rfl) w10e (by omega) (hf10 p (by omega)) ?_
  refine pw_astore_n C d_RE_fill_6 (by decide) ?_
  refine pw_aload_n C d_RE_fill_7 rfl ?_
  refine pw_lconst C d_RE_fill_8 (v := 0) (by decide) ?_
  refine pw_callSv C (k_AR_fill l hI _ 0 (n := 64) (by decide) (d11 p (by omega)) (r_get (by omega))) ⟨pw_cb C 2 W_245 W_7 W_243 ⟨rfl, rfl⟩ (by decide +kernel) ⟨(Nat.le_of_ble_eq_true rfl), (Nat.le_of_ble_eq_true rfl)⟩, pw_w C W_244⟩ rfl rfl (Nat.le_of_ble_eq_true rfl) d_RE_fill_9 ⟨Nat.zero_le _, Nat.zero_le _⟩ (fun w9 hp9 => ?_)
  obtain ⟨f0, e9, hf0⟩ := hp9
  refine MW.world (e9.trans (r_up (by omega))) ?_
  clear w4e w6e w7e w8e w9e w10e
  have hV1 := v_rep_of (w1 := r_w X w (va_up R p f0)) hV (fun g hg => r_row (by omega))
  obtain ⟨-, ⟨nn1, ft1, w4e⟩, w6e, w7e, w8e, ⟨rdy1, w9e⟩, ⟨f11, w10e, hf11⟩⟩ := id hV1
  have g0 : r_w X w (va_up R p f0) 11 p = aL X 64 f0 := by rw [r_get (by omega), vu_self]
  refine pw_aload_n C d_RE_fill_12 rfl ?_
  refine pw_get C d_RE_fill_13 (hX 9 0 rfl) w9e 1 rfl rfl (by decide) in_RE W_83 rfl ?_
  refine pw_getN C d_RE_fill_16 (hX 4 0 rfl) w4e 1 rfl rfl (by decide) in_PA N_5 rfl ?_
  refine pw_iload_n C d_RE_fill_19 rfl ?_
  refine pw_ialdK C d_RE_fill_20 (hX 6 0 rfl) w6e (by omega) ?_
  refine pw_istore_n C d_RE_fill_21 (by decide) ?_
  refine pw_iload_n C d_RE_fill_22 rfl ?_
  refine pw_iconst C d_RE_fill_23 (v := 1) (by decide) ?_
  refine pw_iadd C d_RE_fill_24 ?_
  rw [nI_1]
  refine pw_istore C d_RE_fill_25 (by decide) ?_
  refine pw_aload_n C d_RE_fill_27 rfl ?_
  refine pw_get C d_RE_fill_28 (hX 9 0 rfl) w9e 1 rfl rfl (by decide) in_RE W_83 rfl ?_
  refine pw_getN C d_RE_fill_31 (hX 4 0 rfl) w4e 3 rfl rfl (by decide) in_PA N_9 rfl ?_
  refine pw_iload_n C d_RE_fill_34 rfl ?_
  refine pw_ialdK C d_RE_fill_35 (hX 8 0 rfl) w8e (by omega) ?_
  refine pw_istore C d_RE_fill_36 (by decide) ?_
  refine pw_iload_n C d_RE_fill_38 rfl ?_
  refine pw_if_eq C 48 d_RE_fill_39 (by decide) (fun h39 => ?_) (fun h39 => ?_)
  · refine pw_aload_n C d_RE_fill_48 rfl ?_
    refine pw_aload_n C d_RE_fill_49 rfl ?_
    refine pw_aload_n C d_RE_fill_50 rfl ?_
    refine pw_get C d_RE_fill_51 (hX 9 0 rfl) w9e 1 rfl rfl (by decide) in_RE W_83 rfl ?_
    refine pw_getN C d_RE_fill_54 (hX 4 0 rfl) w4e 2 rfl rfl (by decide) in_PA N_7 rfl ?_
    refine pw_iload_n C d_RE_fill_57 rfl ?_
    refine pw_ialdK C d_RE_fill_58 (hX 7 0 rfl) w7e (by omega) ?_
    refine pw_callVv C (k_RE_addEdges l hI hX _ hV1 (ls p) (d11 p (by omega)) g0) (hX 9 0 rfl) w9e rfl ⟨pw_cb C 2 W_249 W_4 W_246 ⟨rfl, rfl⟩ (by decide +kernel) ⟨(Nat.le_of_ble_eq_true rfl), (Nat.le_of_ble_eq_true rfl)⟩, pw_w C W_248, pw_w C V_13⟩ rfl rfl (Nat.le_of_ble_eq_true rfl) d_RE_fill_59 ⟨Nat.zero_le _, Nat.zero_le _⟩ (fun w9 hp9 => ?_)
    obtain ⟨f1, e9, hf1⟩ := hp9
    refine MW.world (e9.trans (r_up (by omega))) ?_
    rw [bx_uu]
    refine pw_goto C 108 d_RE_fill_62 (by decide) ?_
    refine pw_vret C hr hlk d_RE_fill_108 ?_
    refine ⟨f1, rfl, fun x hx y hy => ?_⟩
    rw [hf1 x hx y hy, hf0 x hx, bt_0]
    unfold rl_f
    have hl : ks p = 0 ∨ ks p = 7 := Or.inl h39
    simp [hl]
  · refine pw_iload_n C d_RE_fill_42 rfl ?_
    refine pw_bipush C d_RE_fill_43 (v := 7) (by decide) ?_
    refine pw_icmp_ne C 65 d_RE_fill_45 (by decide) (fun h45 => ?_) (fun h45 => ?_)
    · have hl : ¬ (ks p = 0 ∨ ks p = 7) := fun z => z.elim h39 h45
      obtain ⟨k1, q, k2, k3, k4, k5⟩ := hfl p hp hl
      have hqc : (ss p).toNatClampNeg = q := by rw [k4]; exact nI_clamp (by omega)
      rw [k4]
      have g1 : r_w X w (va_up R p f0) 11 (p + 1) = aL X 64 (R (p + 1)) := by rw [r_get (by omega), vu_ne (by omega)]
      have hS : ks p = 2 ∨ ks p = 3 → pw_d X 11 q ∧ r_w X w (va_up R p f0) 11 q = aL X 64 (R q) ∧ ¬ (11 = 11 ∧ q = p) := fun z => by
        have := k5 z
        exact ⟨d11 q (by omega), by rw [r_get (by omega), vu_ne (by omega)], fun y => by omega⟩
      refine pw_iload C d_RE_fill_65 rfl ?_
      refine pw_aload_n C d_RE_fill_67 rfl ?_
      refine pw_get C d_RE_fill_68 (hX 9 0 rfl) w9e 1 rfl rfl (by decide) in_RE W_83 rfl ?_
      refine pw_getN C d_RE_fill_71 (hX 4 0 rfl) w4e 5 rfl rfl (by decide) in_PA N_11 rfl ?_
      refine pw_icmp_ge C 108 d_RE_fill_74 (by decide) (fun h74 => ?_) (fun h74 => ?_)
      · exact absurd ((nI_leI (by omega) (by omega)).mp h74) (by omega)
      refine pw_iload C d_RE_fill_77 rfl ?_
      refine pw_aload_n C d_RE_fill_79 rfl ?_
      refine pw_get C d_RE_fill_80 (hX 9 0 rfl) w9e 1 rfl rfl (by decide) in_RE W_83 rfl ?_
      refine pw_getN C d_RE_fill_83 (hX 4 0 rfl) w4e 5 rfl rfl (by decide) in_PA N_11 rfl ?_
      refine pw_icmp_ge C 108 d_RE_fill_86 (by decide) (fun h86 => ?_) (fun h86 => ?_)
      · exact absurd ((nI_leI (by omega) (by omega)).mp h86) (by omega)
      refine pw_aload_n C d_RE_fill_89 rfl ?_
      refine pw_iload_n C d_RE_fill_90 rfl ?_
      refine pw_aload_n C d_RE_fill_91 rfl ?_
      refine pw_get C d_RE_fill_92 (hX 9 0 rfl) w9e 2 rfl rfl (by decide) in_RE W_84 rfl ?_
      refine pw_iload C d_RE_fill_95 rfl ?_
      refine pw_aaldK C d_RE_fill_97 (hX 10 0 rfl) w10e (by omega) (hf11 (p + 1) (by omega)) ?_
      refine pw_aload_n C d_RE_fill_98 rfl ?_
      refine pw_get C d_RE_fill_99 (hX 9 0 rfl) w9e 2 rfl rfl (by decide) in_RE W_84 rfl ?_
      refine pw_iload C d_RE_fill_102 rfl ?_
      refine pw_aaldK C d_RE_fill_104 (hX 10 0 rfl) w10e (by omega) (hf11 q (by omega)) ?_
      refine pw_callSv C (k_RE_fillFrom l hI hX _ (Bs := R q) (ks p) (d11 p (by omega)) g0 (fun x hx => hf0 x hx) (d11 (p + 1) (by omega)) g1 (fun z => by omega) hS) ⟨pw_cb C 4 W_256 W_4 W_254 ⟨rfl, rfl⟩ (by decide +kernel) ⟨(Nat.le_of_ble_eq_true rfl), (Nat.le_of_ble_eq_true rfl)⟩, pw_w C W_255⟩ rfl rfl (Nat.le_of_ble_eq_true rfl) d_RE_fill_105 ⟨Nat.zero_le _, Nat.zero_le _⟩ (fun w9 hp9 => ?_)
      obtain ⟨f1, e9, hf1⟩ := hp9
      refine MW.world (e9.trans (r_up (by omega))) ?_
      rw [bx_uu]
      refine pw_vret C hr hlk d_RE_fill_108 ?_
      refine ⟨f1, rfl, fun x hx y hy => ?_⟩
      rw [hf1 x hx y hy]
      unfold rl_f
      rw [hqc]
      simp [hl]
    · refine pw_aload_n C d_RE_fill_48 rfl ?_
      refine pw_aload_n C d_RE_fill_49 rfl ?_
      refine pw_aload_n C d_RE_fill_50 rfl ?_
      refine pw_get C d_RE_fill_51 (hX 9 0 rfl) w9e 1 rfl rfl (by decide) in_RE W_83 rfl ?_
      refine pw_getN C d_RE_fill_54 (hX 4 0 rfl) w4e 2 rfl rfl (by decide) in_PA N_7 rfl ?_
      refine pw_iload_n C d_RE_fill_57 rfl ?_
      refine pw_ialdK C d_RE_fill_58 (hX 7 0 rfl) w7e (by omega) ?_
      refine pw_callVv C (k_RE_addEdges l hI hX _ hV1 (ls p) (d11 p (by omega)) g0) (hX 9 0 rfl) w9e rfl ⟨pw_cb C 2 W_249 W_4 W_246 ⟨rfl, rfl⟩ (by decide +kernel) ⟨(Nat.le_of_ble_eq_true rfl), (Nat.le_of_ble_eq_true rfl)⟩, pw_w C W_248, pw_w C V_13⟩ rfl rfl (Nat.le_of_ble_eq_true rfl) d_RE_fill_59 ⟨Nat.zero_le _, Nat.zero_le _⟩ (fun w9 hp9 => ?_)
      obtain ⟨f1, e9, hf1⟩ := hp9
      refine MW.world (e9.trans (r_up (by omega))) ?_
      rw [bx_uu]
      refine pw_goto C 108 d_RE_fill_62 (by decide) ?_
      refine pw_vret C hr hlk d_RE_fill_108 ?_
      refine ⟨f1, rfl, fun x hx y hy => ?_⟩
      rw [hf1 x hx y hy, hf0 x hx, bt_0]
      unfold rl_f
      have hl : ks p = 0 ∨ ks p = 7 := Or.inr h45
      simp [hl]
set_option maxHeartbeats 4000000 in
set_option maxRecDepth 100000 in
theorem k_RE_ofPath (l : Launch) {X : Lay} (hI : pw_I X) (hX : Dm X) (w : Wd) {T : Nat → Nat → Int64} {ks ls ss : Nat → Int32} {parts : Nat} {R : Nat → Nat → Int64} {rdy : Int32} (hV : v_rep X w T ks ls ss parts) (h40 : parts ≤ 40) (hfl : rdy = 0 → fl_f ks ss parts) (h9 : w 9 0 = oB 3 [.ref (pw_a X 1 0), .ref (pw_a X 4 0), .ref (pw_a X 10 0), .int rdy]) : CtR l y_RE_ofPath (pw_ws y_RE_ofPath c_RE_ofPath 2 (some (.array .long))) { frames := 5, cells := 0, slots := 0, locals := 117 } X (r_w X w R) [.ref (pw_a X 9 0)] 11 0 (fun w1 => (¬ rdy = 0 ∧ w1 = r_w X w R) ∨ (rdy = 0 ∧ ∃ R1, w1 = r_w X (pw_up w 9 0 (oB 3 [.ref (pw_a X 1 0), .ref (pw_a X 4 0), .ref (pw_a X 10 0), .int 1])) R1 ∧ (∀ j, parts ≤ j → R1 j = R j) ∧ ∀ p, p < parts → ∀ x, x < 64 → ∀ y, y < 64 → (bt_f (R1 p x) y = true ↔ rl_f T ks ls ss R1 p x y))) := by
  refine pw_open (by decide) hI [some (.ref (pw_a X 9 0)), none] rfl (Nat.le_of_ble_eq_true rfl) ?_
  intro zp ze zs zm za zb zt zc hargs C hr hlk hnm
  have v9 : ∀ Rk, r_w X w Rk 9 0 = oB 3 [.ref (pw_a X 1 0), .ref (pw_a X 4 0), .ref (pw_a X 10 0), .int rdy] := fun Rk => by rw [r_row (by decide)]; exact h9
  obtain ⟨-, ⟨nn, ft, w4e⟩, -, -, -, -, ⟨f10, w10e, hf10⟩⟩ := id hV
  have v4 : ∀ Rk, r_w X w Rk 4 0 = _ := fun Rk => (congrFun (r_row (by decide)) 0).trans w4e
  have v10 : ∀ Rk, r_w X w Rk 10 0 = _ := fun Rk => (congrFun (r_row (by decide)) 0).trans w10e
  have L : rdy = 0 → ∀ k : Nat, k ≤ parts → ∀ Rk : Nat → Nat → Int64, (∀ j, parts ≤ j → Rk j = R j) → (∀ p, k ≤ p → p < parts → ∀ x, x < 64 → ∀ y, y < 64 → (bt_f (Rk p x) y = true ↔ rl_f T ks ls ss Rk p x y)) → MW zp l ze ({ frames := 5, cells := 0, slots := 0, locals := 117 } : Room) zs zm za zb zt zc X 2 0 0 (MQ zb (va_Qr (fun w1 => (¬ rdy = 0 ∧ w1 = r_w X w R) ∨ (rdy = 0 ∧ ∃ R1, w1 = r_w X (pw_up w 9 0 (oB 3 [.ref (pw_a X 1 0), .ref (pw_a X 4 0), .ref (pw_a X 10 0), .int 1])) R1 ∧ (∀ j, parts ≤ j → R1 j = R j) ∧ ∀ p, p < parts → ∀ x, x < 64 → ∀ y, y < 64 → (bt_f (R1 p x) y = true ↔ rl_f T ks ls ss R1 p x y))) (fun w a t => a = pw_a X 11 0 ∧ pw_H X w t.heap) (pw_F X)) za zs 0 0 (pw_F X)) (r_w X w Rk) 17 [some (.ref (pw_a X 9 0)), some (.int (nI k - 1))] [] := by
    intro hr0 k
    induction k with
    | zero =>
      intro hk Rk hR1 hR2
      refine pw_iload_n C d_RE_ofPath_17 rfl ?_
      refine pw_if_lt C 32 d_RE_ofPath_18 (by decide) (fun h18 => ?_) (fun h18 => ?_)
      · refine pw_aload_n C d_RE_ofPath_32 rfl ?_
        refine pw_iconst C d_RE_ofPath_33 (v := 1) (by decide) ?_
        refine pw_put C d_RE_ofPath_34 (hX 9 0 rfl) (v9 Rk) 3 (Nat.le_of_ble_eq_true rfl) rfl (by decide) in_RE t_RE tk_RE n_RE W_86 rfl rfl (tk_RE 3 (by decide)) rfl rfl ?_
        refine pw_aload_n C d_RE_ofPath_37 rfl ?_
        refine pw_get C d_RE_ofPath_38 (hX 9 0 rfl) (pw_up_self _ 9 0 _) 2 rfl rfl (by decide) in_RE W_84 rfl ?_
        refine pw_iconst C d_RE_ofPath_41 (v := 0) (by decide) ?_
        refine pw_aaldK C d_RE_ofPath_42 (k0 := 0) (hX 10 0 rfl) (by rw [pw_up_g _ _ (by decide)]; exact v10 Rk) (by decide) (hf10 0 (by decide)) ?_
        refine pw_aret C hr hlk d_RE_ofPath_43 ?_
        refine Or.inr ⟨hr0, Rk, ?_, hR1, fun p hp => hR2 p (Nat.zero_le p) hp⟩
        exact r_up9 (by decide)
      · exact absurd (show nI 0 - 1 < 0 by decide) h18
    | succ k ih =>
      intro hk Rk hR1 hR2
      rw [nI_pred]
      refine pw_iload_n C d_RE_ofPath_17 rfl ?_
      refine pw_if_lt C 32 d_RE_ofPath_18 (by decide) (fun h18 => ?_) (fun h18 => ?_)
      · exact absurd h18 (nI_pos (by omega))
      refine pw_aload_n C d_RE_ofPath_21 rfl ?_
      refine pw_iload_n C d_RE_ofPath_22 rfl ?_
      refine pw_callVv C (k_RE_fill l hI hX w (R := Rk) (p := k) hV h40 (by omega) (hfl hr0)) (hX 9 0 rfl) (v9 Rk) rfl ⟨pw_cb C 1 W_242 W_4 W_239 ⟨rfl, rfl⟩ (by decide +kernel) ⟨(Nat.le_of_ble_eq_true rfl), (Nat.le_of_ble_eq_true rfl)⟩, pw_w C W_241, pw_w C V_12⟩ rfl rfl (Nat.le_of_ble_eq_true rfl) d_RE_ofPath_23 ⟨Nat.zero_le _, Nat.zero_le _⟩ (fun w9 hp9 => ?_)
      obtain ⟨f1, rfl, hf1⟩ := hp9
      refine pw_iinc C d_RE_ofPath_26 rfl (by decide) ?_
      refine pw_goto C 17 d_RE_ofPath_29 (by decide) ?_
      rw [show Int32.ofInt (-1) = -1 from by decide, ← Int32.sub_eq_add_neg]
      refine ih (by omega) _ (fun j hj => by rw [vu_ne (by omega)]; exact hR1 j hj) (fun p hp1 hp2 x hx y hy => ?_)
      rw [rl_up (hfl hr0) h40 hp2 hp1]
      by_cases q : p = k
      · subst q
        rw [vu_self]
        exact hf1 x hx y hy
      · rw [vu_ne q]
        exact hR2 p (by omega) hp2 x hx y hy
  refine pw_aload_n C d_RE_ofPath_0 rfl ?_
  refine pw_get C d_RE_ofPath_1 (hX 9 0 rfl) (v9 R) 3 rfl rfl (by decide) in_RE W_86 rfl ?_
  refine pw_if_ne C 37 d_RE_ofPath_4 (by decide) (fun h4 => ?_) (fun h4 => ?_)
  · refine pw_aload_n C d_RE_ofPath_37 rfl ?_
    refine pw_get C d_RE_ofPath_38 (hX 9 0 rfl) (v9 R) 2 rfl rfl (by decide) in_RE W_84 rfl ?_
    refine pw_iconst C d_RE_ofPath_41 (v := 0) (by decide) ?_
    refine pw_aaldK C d_RE_ofPath_42 (k0 := 0) (hX 10 0 rfl) (v10 R) (by decide) (hf10 0 (by decide)) ?_
    refine pw_aret C hr hlk d_RE_ofPath_43 ?_
    exact Or.inl ⟨h4, rfl⟩
  · refine pw_aload_n C d_RE_ofPath_7 rfl ?_
    refine pw_get C d_RE_ofPath_8 (hX 9 0 rfl) (v9 R) 1 rfl rfl (by decide) in_RE W_83 rfl ?_
    refine pw_getN C d_RE_ofPath_11 (hX 4 0 rfl) (v4 R) 5 rfl rfl (by decide) in_PA N_11 rfl ?_
    refine pw_iconst C d_RE_ofPath_14 (v := 1) (by decide) ?_
    refine pw_isub C d_RE_ofPath_15 ?_
    refine pw_istore_n C d_RE_ofPath_16 (by decide) ?_
    exact L h4 parts (Nat.le_refl parts) R (fun j _ => rfl) (fun p hp1 hp2 => absurd hp2 (by omega))
end
section
/-! COUNTS: gather, spread, carryOver -/
/-- a row of times: each at most 10^15 -/
def tm_f (f : Nat → Int64) (c : Nat → Nat) : Prop := ∀ j, j < 64 → f j = lN (c j) ∧ c j ≤ C15
theorem sg_gap {f : Nat → Nat} {u j : Nat} (huj : u ≤ j) (h : ∀ i, u ≤ i → i < j → f i = 0) : sg_f f (j + 1) = sg_f f u + f j := by
  have : sg_f f j = sg_f f u := by
    obtain ⟨d, rfl⟩ : ∃ d, j = u + d := ⟨j - u, by omega⟩
    rw [sg_split]
    have : sg_f (fun i => f (u + i)) d = sg_f (fun _ => 0) d := sg_congr (fun i hi => h (u + i) (by omega) (by omega))
    rw [this, sg_zero, Nat.add_zero]
  show sg_f f j + f j = _
  rw [this]
theorem sg_rest {f : Nat → Nat} {u n : Nat} (hun : u ≤ n) (h : ∀ i, u ≤ i → i < n → f i = 0) : sg_f f n = sg_f f u := by
  obtain ⟨d, rfl⟩ : ∃ d, n = u + d := ⟨n - u, by omega⟩
  rw [sg_split]
  have : sg_f (fun i => f (u + i)) d = sg_f (fun _ => 0) d := sg_congr (fun i hi => h (u + i) (by omega) (by omega))
  rw [this, sg_zero, Nat.add_zero]
set_option maxHeartbeats 4000000 in
set_option maxRecDepth 100000 in
theorem k_CN_gather (l : Launch) {X : Lay} (hI : pw_I X) (w : Wd) {g i : Nat} {F : Nat → Int64} {cI : Nat → Nat} (s : Int64) (hd : pw_d X g i) (hw : w g i = aL X 64 F) (hF : tm_f F cI) : CtL l y_CN_gather (pw_ws y_CN_gather c_CN_gather 8 (some .long)) { frames := 2, cells := 0, slots := 0, locals := 43 } X w [.long s, .ref (pw_a X g i)] (fun r w1 => w1 = w ∧ r = lN (cp_f (sg_f (fun j => if bt_f s j then cI j else 0) 64))) := by
  refine pw_open (by decide) hI [some (.long s), none, some (.ref (pw_a X g i)), none, none, none, none, none] rfl (Nat.le_of_ble_eq_true rfl) ?_
  intro zp ze zs zm za zb zt zc hargs C zr zk hnm
  have Li : ∀ d u q : Nat, 64 ≤ u + d → u ≤ 64 → q ≤ u → ∀ r : Int64, lf_s r s u → MW zp l ze ({ frames := 2, cells := 0, slots := 0, locals := 43 } : Room) zs zm za zb zt zc X 8 0 0 (MQ zb (va_Ql (fun r w1 => w1 = w ∧ r = lN (cp_f (sg_f (fun j => if bt_f s j then cI j else 0) 64))) (pw_B X) (pw_F X)) za zs 0 0 (pw_F X)) w 8 [some (.long s), none, some (.ref (pw_a X g i)), some (.long (lN (cp_f (sg_f (fun j => if bt_f s j then cI j else 0) u)))), none, some (.long r), none, some (.int (nI q))] [] := by
    intro d
    induction d with
    | zero =>
      intro u q hud hu hqu r hr
      have hu64 : u = 64 := by omega
      subst hu64
      refine pw_iload C d_CN_gather_8 rfl ?_
      refine pw_bipush C d_CN_gather_10 (v := 64) (by decide) ?_
      refine pw_icmp_ge C 49 d_CN_gather_12 (by decide) (fun h12 => ?_) (fun h12 => ?_)
      · refine pw_lload_n C d_CN_gather_49 rfl ?_
        refine pw_lret C zr zk d_CN_gather_50 ?_
        exact ⟨rfl, rfl⟩
      · refine pw_lload C d_CN_gather_15 rfl ?_
        refine pw_lconst C d_CN_gather_17 (v := 0) (by decide) ?_
        refine pw_lcmp C d_CN_gather_18 ?_
        refine pw_if_eq C 49 d_CN_gather_19 (by decide) (fun h19 => ?_) (fun h19 => ?_)
        · refine pw_lload_n C d_CN_gather_49 rfl ?_
          refine pw_lret C zr zk d_CN_gather_50 ?_
          exact ⟨rfl, rfl⟩
        · exact absurd ((lc_eq _ _).mpr (lf_big hr (Nat.le_refl 64))) h19
    | succ d ih =>
      intro u q hud hu hqu r hr
      refine pw_iload C d_CN_gather_8 rfl ?_
      refine pw_bipush C d_CN_gather_10 (v := 64) (by decide) ?_
      refine pw_icmp_ge C 49 d_CN_gather_12 (by decide) (fun h12 => ?_) (fun h12 => ?_)
      · refine pw_lload_n C d_CN_gather_49 rfl ?_
        refine pw_lret C zr zk d_CN_gather_50 ?_
        refine ⟨rfl, ?_⟩
        have : u = 64 := by have := (nI_leI (a := 64) (by decide) (by omega)).mp h12; omega
        subst this
        rfl
      · refine pw_lload C d_CN_gather_15 rfl ?_
        refine pw_lconst C d_CN_gather_17 (v := 0) (by decide) ?_
        refine pw_lcmp C d_CN_gather_18 ?_
        refine pw_if_eq C 49 d_CN_gather_19 (by decide) (fun h19 => ?_) (fun h19 => ?_)
        · refine pw_lload_n C d_CN_gather_49 rfl ?_
          refine pw_lret C zr zk d_CN_gather_50 ?_
          refine ⟨rfl, ?_⟩
          rw [sg_rest hu (fun i h1 h2 => by rw [lf_end hr ((lc_eq _ _).mp h19) h2 h1]; rfl)]
        · obtain ⟨j, hj, huj, hsj, hjr, hlow, hgap, hnext⟩ := lf_next hr (fun q => h19 ((lc_eq _ _).mpr q))
          refine pw_lload_n C d_CN_gather_22 rfl ?_
          refine pw_aload_n C d_CN_gather_23 rfl ?_
          refine pw_lload C d_CN_gather_24 rfl ?_
          refine pw_callSi C (k_LO_ntz l hI _ hj hjr hlow) ⟨pw_cb C 1 W_262 W_8 W_293 ⟨rfl, rfl⟩ (by decide +kernel) ⟨(Nat.le_of_ble_eq_true rfl), (Nat.le_of_ble_eq_true rfl)⟩, pw_w C W_261⟩ rfl rfl (Nat.le_of_ble_eq_true rfl) d_CN_gather_26 ⟨Nat.zero_le _, Nat.zero_le _⟩ (fun rr w9 hp => ?_)
          obtain ⟨e9, hp⟩ := hp
          subst hp
          refine MW.world e9 ?_
          refine pw_laldK C d_CN_gather_29 hd hw hj ?_
          rw [(hF j hj).1]
          refine pw_callSNl C (k_PF_sumOf l hI _ (cp_le _) (hF j hj).2) ⟨pw_cn C 2 W_296 W_1 N_34 ⟨rfl, rfl⟩ (by decide +kernel) ⟨(Nat.le_of_ble_eq_true rfl), (Nat.le_of_ble_eq_true rfl)⟩, pw_w C W_295, trivial⟩ rfl rfl (Nat.le_of_ble_eq_true rfl) d_CN_gather_30 ⟨Nat.zero_le _, Nat.zero_le _⟩ (fun rs w9 hp => ?_)
          obtain ⟨e9, hp⟩ := hp
          subst hp
          refine MW.world e9 ?_
          refine pw_lstore_n C d_CN_gather_33 (by decide) ?_
          refine pw_lload C d_CN_gather_34 rfl ?_
          refine pw_lload C d_CN_gather_36 rfl ?_
          refine pw_lconst C d_CN_gather_38 (v := 1) (by decide) ?_
          refine pw_lsub C d_CN_gather_39 ?_
          refine pw_land C d_CN_gather_40 ?_
          refine pw_lstore C d_CN_gather_41 (by decide) ?_
          refine pw_iinc1 C d_CN_gather_43 rfl (by decide) ?_
          refine pw_goto C 8 d_CN_gather_46 (by decide) ?_
          have e : cp_f (cp_f (sg_f (fun j => if bt_f s j then cI j else 0) u) + cI j) = cp_f (sg_f (fun j => if bt_f s j then cI j else 0) (j + 1)) := by
            rw [cp_add, sg_gap huj (fun i h1 h2 => by rw [hgap i h1 h2]; rfl)]
            simp [hsj]
          rw [e]
          exact ih (j + 1) (q + 1) (by omega) (by omega) (by omega) _ hnext
  refine pw_lconst C d_CN_gather_0 (v := 0) (by decide) ?_
  refine pw_lstore_n C d_CN_gather_1 (by decide) ?_
  refine pw_lload_n C d_CN_gather_2 rfl ?_
  refine pw_lstore C d_CN_gather_3 (by decide) ?_
  refine pw_iconst C d_CN_gather_5 (v := 0) (by decide) ?_
  refine pw_istore C d_CN_gather_6 (by decide) ?_
  exact Li 64 0 0 (by omega) (by omega) (Nat.le_refl 0) s (lf_0 s)
set_option maxHeartbeats 4000000 in
set_option maxRecDepth 100000 in
theorem k_CN_spread (l : Launch) {X : Lay} (hI : pw_I X) (w : Wd) {g i : Nat} {F : Nat → Int64} {cO : Nat → Nat} {c : Nat} (s : Int64) (hc : c ≤ C15) (hd : pw_d X g i) (hw : w g i = aL X 64 F) (hF : tm_f F cO) : CtV l y_CN_spread (pw_ws y_CN_spread c_CN_spread 9 none) { frames := 2, cells := 0, slots := 0, locals := 43 } X w [.long s, .long (lN c), .ref (pw_a X g i)] (fun w1 => ∃ f1, w1 = pw_up w g i (aL X 64 f1) ∧ tm_f f1 (fun y => cp_f (cO y + if bt_f s y then c else 0))) := by
  refine pw_open (by decide) hI [some (.long s), none, some (.long (lN c)), none, some (.ref (pw_a X g i)), none, none, none, none] rfl (Nat.le_of_ble_eq_true rfl) ?_
  intro zp ze zs zm za zb zt zc hargs C zr zk hnm
  have fin : ∀ (u : Nat) (f1 : Nat → Int64), (∀ j, j < 64 → u ≤ j → bt_f s j = false) → tm_f f1 (fun y => cp_f (cO y + if bt_f s y && decide (y < u) then c else 0)) → tm_f f1 (fun y => cp_f (cO y + if bt_f s y then c else 0)) := by
    intro u f1 hz hf y hy
    have h := hf y hy
    by_cases q : y < u
    · simpa [q] using h
    · have := hz y hy (by omega)
      simpa [this] using h
  have Li : ∀ d u q : Nat, 64 ≤ u + d → u ≤ 64 → q ≤ u → ∀ (r : Int64) (f1 : Nat → Int64), lf_s r s u → tm_f f1 (fun y => cp_f (cO y + if bt_f s y && decide (y < u) then c else 0)) → MW zp l ze ({ frames := 2, cells := 0, slots := 0, locals := 43 } : Room) zs zm za zb zt zc X 9 0 0 (MQ zb (va_Qv (fun w1 => ∃ f1, w1 = pw_up w g i (aL X 64 f1) ∧ tm_f f1 (fun y => cp_f (cO y + if bt_f s y then c else 0))) (pw_B X) (pw_F X)) za zs 0 0 (pw_F X)) (pw_up w g i (aL X 64 f1)) 6 [some (.long s), none, some (.long (lN c)), none, some (.ref (pw_a X g i)), some (.long r), none, some (.int (nI q)), none] [] := by
    intro d
    induction d with
    | zero =>
      intro u q hud hu hqu r f1 hr hf
      refine pw_iload C d_CN_spread_6 rfl ?_
      refine pw_bipush C d_CN_spread_8 (v := 64) (by decide) ?_
      refine pw_icmp_ge C 56 d_CN_spread_10 (by decide) (fun h10 => ?_) (fun h10 => ?_)
      · refine pw_vret C zr zk d_CN_spread_56 ?_
        exact ⟨f1, rfl, fin u f1 (fun j h1 h2 => (by omega)) hf⟩
      · refine pw_lload C d_CN_spread_13 rfl ?_
        refine pw_lconst C d_CN_spread_15 (v := 0) (by decide) ?_
        refine pw_lcmp C d_CN_spread_16 ?_
        refine pw_if_eq C 56 d_CN_spread_17 (by decide) (fun h17 => ?_) (fun h17 => ?_)
        · refine pw_vret C zr zk d_CN_spread_56 ?_
          exact ⟨f1, rfl, fin u f1 (fun j h1 h2 => (by omega)) hf⟩
        · exact absurd ((lc_eq _ _).mpr (lf_big hr (by omega))) h17
    | succ d ih =>
      intro u q hud hu hqu r f1 hr hf
      refine pw_iload C d_CN_spread_6 rfl ?_
      refine pw_bipush C d_CN_spread_8 (v := 64) (by decide) ?_
      refine pw_icmp_ge C 56 d_CN_spread_10 (by decide) (fun h10 => ?_) (fun h10 => ?_)
      · refine pw_vret C zr zk d_CN_spread_56 ?_
        exact ⟨f1, rfl, fin u f1 (fun j h1 h2 => (by have := (nI_leI (a := 64) (by decide) (by omega)).mp h10; omega)) hf⟩
      · refine pw_lload C d_CN_spread_13 rfl ?_
        refine pw_lconst C d_CN_spread_15 (v := 0) (by decide) ?_
        refine pw_lcmp C d_CN_spread_16 ?_
        refine pw_if_eq C 56 d_CN_spread_17 (by decide) (fun h17 => ?_) (fun h17 => ?_)
        · refine pw_vret C zr zk d_CN_spread_56 ?_
          exact ⟨f1, rfl, fin u f1 (fun j h1 h2 => lf_end hr ((lc_eq _ _).mp h17) h1 h2) hf⟩
        · obtain ⟨j, hj, huj, hsj, hjr, hlow, hgap, hnext⟩ := lf_next hr (fun q => h17 ((lc_eq _ _).mpr q))
          refine pw_lload C d_CN_spread_20 rfl ?_
          refine pw_callSi C (k_LO_ntz l hI _ hj hjr hlow) ⟨pw_cb C 1 W_262 W_8 W_293 ⟨rfl, rfl⟩ (by decide +kernel) ⟨(Nat.le_of_ble_eq_true rfl), (Nat.le_of_ble_eq_true rfl)⟩, pw_w C W_261⟩ rfl rfl (Nat.le_of_ble_eq_true rfl) d_CN_spread_22 ⟨Nat.zero_le _, Nat.zero_le _⟩ (fun rr w9 hp => ?_)
          obtain ⟨e9, hp⟩ := hp
          subst hp
          refine MW.world e9 ?_
          refine pw_istore C d_CN_spread_25 (by decide) ?_
          refine pw_aload C d_CN_spread_27 rfl ?_
          refine pw_iload C d_CN_spread_29 rfl ?_
          refine pw_aload C d_CN_spread_31 rfl ?_
          refine pw_iload C d_CN_spread_33 rfl ?_
          refine pw_laldK C d_CN_spread_35 hd (pw_up_self w g i _) hj ?_
          refine pw_lload_n C d_CN_spread_36 rfl ?_
          rw [(hf j hj).1]
          refine pw_callSNl C (k_PF_sumOf l hI _ (hf j hj).2 hc) ⟨pw_cn C 2 W_296 W_1 N_34 ⟨rfl, rfl⟩ (by decide +kernel) ⟨(Nat.le_of_ble_eq_true rfl), (Nat.le_of_ble_eq_true rfl)⟩, pw_w C W_295, trivial⟩ rfl rfl (Nat.le_of_ble_eq_true rfl) d_CN_spread_37 ⟨Nat.zero_le _, Nat.zero_le _⟩ (fun rs w9 hp => ?_)
          obtain ⟨e9, hp⟩ := hp
          subst hp
          refine MW.world e9 ?_
          refine pw_lastK C d_CN_spread_40 hd (pw_up_self w g i _) hj ?_
          refine pw_lload C d_CN_spread_41 rfl ?_
          refine pw_lload C d_CN_spread_43 rfl ?_
          refine pw_lconst C d_CN_spread_45 (v := 1) (by decide) ?_
          refine pw_lsub C d_CN_spread_46 ?_
          refine pw_land C d_CN_spread_47 ?_
          refine pw_lstore C d_CN_spread_48 (by decide) ?_
          refine pw_iinc1 C d_CN_spread_50 rfl (by decide) ?_
          refine pw_goto C 6 d_CN_spread_53 (by decide) ?_
          refine MW.less (lv' := [some (.long s), none, some (.long (lN c)), none, some (.ref (pw_a X g i)), some (.long (r &&& (r - 1))), none, some (.int (nI (q + 1))), none]) (by intro i v h; rcases i with _ | _ | _ | _ | _ | _ | _ | _ | _ | i <;> first | exact h | (simp at h)) ?_
          rw [pw_up_up]
          refine ih (j + 1) (q + 1) (by omega) (by omega) (by omega) _ _ hnext (fun y hy => ?_)
          by_cases q1 : y = j
          · subst q1
            have hnu : ¬ y < u := by omega
            rw [pk_uLs]
            simp only [hsj, hnu, decide_false, Bool.and_false, Bool.true_and, if_false, Nat.add_zero, cp_add]
            simp [cp_le]
          · rw [pk_uLn q1]
            have h := hf y hy
            by_cases q2 : y < u
            · have q3 : y < j + 1 := by omega
              simpa [q2, q3] using h
            · by_cases q3 : y < j + 1
              · have := hgap y (by omega) (by omega)
                simpa [this] using h
              · simpa [q2, q3] using h
  refine pw_lload_n C d_CN_spread_0 rfl ?_
  refine pw_lstore C d_CN_spread_1 (by decide) ?_
  refine pw_iconst C d_CN_spread_3 (v := 0) (by decide) ?_
  refine pw_istore C d_CN_spread_4 (by decide) ?_
  refine MW.world (pw_up_id w hw).symm ?_
  exact Li 64 0 0 (by omega) (by omega) (Nat.le_refl 0) s F (lf_0 s) (fun y hy => ⟨by rw [(hF y hy).1]; simp [cp_id (hF y hy).2], cp_le _⟩)
end
section
/-! COUNTS: carryOver, carryOverEdges -/
def bi_f (b : Bool) : Int32 := if b then 1 else 0
/-- rows as a table of 0 and 1, turned if b -/
def ma_f (b : Bool) (RW : Nat → Int64) (x y : Nat) : Nat := if b then (if bt_f (RW y) x then 1 else 0) else (if bt_f (RW x) y then 1 else 0)
/-- what a row of times becomes: old times, and the row in carried over M -/
def cy_f (cO cI : Nat → Nat) (M : Nat → Nat → Nat) (y : Nat) : Nat := cp_f (cO y + sg_f (fun x => cI x * M x y) 64)
theorem cy_congr {cO cI : Nat → Nat} {M M' : Nat → Nat → Nat} (h : ∀ x, x < 64 → ∀ y, y < 64 → M x y = M' x y) {y : Nat} (hy : y < 64) : cy_f cO cI M y = cy_f cO cI M' y := by
  unfold cy_f
  rw [sg_congr (fun x hx => by rw [h x hx y hy])]
theorem tm_congr {f : Nat → Int64} {c c' : Nat → Nat} (h : tm_f f c) (e : ∀ y, y < 64 → c y = c' y) : tm_f f c' := fun j hj => by rw [← e j hj]; exact h j hj
set_option maxHeartbeats 4000000 in
set_option maxRecDepth 100000 in
theorem k_CN_carryOver (l : Launch) {X : Lay} (hI : pw_I X) (w : Wd) {gr ir gi ii go io : Nat} {RW IN F : Nat → Int64} {cI cO : Nat → Nat} (b : Bool) (hdr : pw_d X gr ir) (hwr : w gr ir = aL X 64 RW) (hdi : pw_d X gi ii) (hwi : w gi ii = aL X 64 IN) (hIN : tm_f IN cI) (hdo : pw_d X go io) (hwo : w go io = aL X 64 F) (hF : tm_f F cO) (hro : ¬ (gr = go ∧ ir = io)) (hio : ¬ (gi = go ∧ ii = io)) : CtV l y_CN_carryOver (pw_ws y_CN_carryOver c_CN_carryOver 5 none) { frames := 3, cells := 0, slots := 0, locals := 71 } X w [.ref (pw_a X gr ir), .int (bi_f b), .ref (pw_a X gi ii), .ref (pw_a X go io)] (fun w1 => ∃ f1, w1 = pw_up w go io (aL X 64 f1) ∧ tm_f f1 (cy_f cO cI (ma_f b RW))) := by
  refine pw_open (by decide) hI [some (.ref (pw_a X gr ir)), some (.int (bi_f b)), some (.ref (pw_a X gi ii)), some (.ref (pw_a X go io)), none] rfl (Nat.le_of_ble_eq_true rfl) ?_
  intro zp ze zs zm za zb zt zc hargs C zr zk hnm
  cases b with
  | false =>
    have L : ∀ d k : Nat, k + d = 64 → ∀ f1 : Nat → Int64, tm_f f1 (fun y => cp_f (cO y + sg_f (fun x => cI x * ma_f false RW x y) k)) → MW zp l ze ({ frames := 3, cells := 0, slots := 0, locals := 71 } : Room) zs zm za zb zt zc X 5 0 0 (MQ zb (va_Qv (fun w1 => ∃ f1, w1 = pw_up w go io (aL X 64 f1) ∧ tm_f f1 (cy_f cO cI (ma_f false RW))) (pw_B X) (pw_F X)) za zs 0 0 (pw_F X)) (pw_up w go io (aL X 64 f1)) 3 [some (.ref (pw_a X gr ir)), some (.int (bi_f false)), some (.ref (pw_a X gi ii)), some (.ref (pw_a X go io)), some (.int (nI k))] [] := by
      intro d
      induction d with
      | zero =>
        intro k hkd f1 hf
        have hk64 : k = 64 := by omega
        subst hk64
        refine pw_iload C d_CN_carryOver_3 rfl ?_
        refine pw_bipush C d_CN_carryOver_5 (v := 64) (by decide) ?_
        refine pw_icmp_ge C 63 d_CN_carryOver_7 (by decide) (fun h7 => ?_) (fun h7 => ?_)
        · refine pw_vret C zr zk d_CN_carryOver_63 ?_
          exact ⟨f1, rfl, hf⟩
        · exact absurd (nI_le (a := 64) (b := 64) (by omega) (by omega)) h7
      | succ d ih =>
        intro k hkd f1 hf
        refine pw_iload C d_CN_carryOver_3 rfl ?_
        refine pw_bipush C d_CN_carryOver_5 (v := 64) (by decide) ?_
        refine pw_icmp_ge C 63 d_CN_carryOver_7 (by decide) (fun h7 => ?_) (fun h7 => ?_)
        · exact absurd ((nI_leI (a := 64) (by decide) (by omega)).mp h7) (by omega)
        refine pw_iload_n C d_CN_carryOver_10 rfl ?_
        refine pw_if_eq C 36 d_CN_carryOver_11 (by decide) (fun h11 => ?_) (fun h11 => ?_)
        · refine pw_aload_n C d_CN_carryOver_36 rfl ?_
          refine pw_iload C d_CN_carryOver_37 rfl ?_
          refine pw_laldK C d_CN_carryOver_39 hdi (by rw [pw_up_ne _ _ hio]; exact hwi) (by omega) ?_
          refine pw_lconst C d_CN_carryOver_40 (v := 0) (by decide) ?_
          refine pw_lcmp C d_CN_carryOver_41 ?_
          refine pw_if_eq C 57 d_CN_carryOver_42 (by decide) (fun h42 => ?_) (fun h42 => ?_)
          · refine pw_iinc1 C d_CN_carryOver_57 rfl (by decide) ?_
            refine pw_goto C 3 d_CN_carryOver_60 (by decide) ?_
            have hz : cI k = 0 := by
              have e := (lc_eq _ _).mp h42
              rw [(hIN k (by omega)).1] at e
              have h15 : C15 < 2 ^ 63 := by decide
              exact (pk_lEQ (a := cI k) (b := 0) (Nat.lt_of_le_of_lt (hIN k (by omega)).2 h15) (by decide)).mp e
            refine ih (k + 1) (by omega) f1 (tm_congr hf (fun y hy => ?_))
            show _ = cp_f (cO y + (sg_f (fun x => cI x * ma_f false RW x y) k + cI k * ma_f false RW k y))
            rw [hz]; simp
          · refine pw_aload_n C d_CN_carryOver_45 rfl ?_
            refine pw_iload C d_CN_carryOver_46 rfl ?_
            refine pw_laldK C d_CN_carryOver_48 hdr (by rw [pw_up_ne _ _ hro]; exact hwr) (by omega) ?_
            refine pw_aload_n C d_CN_carryOver_49 rfl ?_
            refine pw_iload C d_CN_carryOver_50 rfl ?_
            refine pw_laldK C d_CN_carryOver_52 hdi (by rw [pw_up_ne _ _ hio]; exact hwi) (by omega) ?_
            refine pw_aload_n C d_CN_carryOver_53 rfl ?_
            rw [(hIN k (by omega)).1]
            refine pw_callSv C (k_CN_spread l hI _ (c := cI k) (RW k) (hIN k (by omega)).2 hdo (pw_up_self w go io _) hf) ⟨pw_cb C 3 W_300 W_5 W_298 ⟨rfl, rfl⟩ (by decide +kernel) ⟨(Nat.le_of_ble_eq_true rfl), (Nat.le_of_ble_eq_true rfl)⟩, pw_w C W_299⟩ rfl rfl (Nat.le_of_ble_eq_true rfl) d_CN_carryOver_54 ⟨Nat.zero_le _, Nat.zero_le _⟩ (fun w9 hp => ?_)
            obtain ⟨f2, e9, hf2⟩ := hp
            refine MW.world e9 ?_
            rw [pw_up_up]
            refine pw_iinc1 C d_CN_carryOver_57 rfl (by decide) ?_
            refine pw_goto C 3 d_CN_carryOver_60 (by decide) ?_
            refine ih (k + 1) (by omega) f2 (tm_congr hf2 (fun y hy => ?_))
            show cp_f (cp_f (cO y + sg_f (fun x => cI x * ma_f false RW x y) k) + (if bt_f (RW k) y then cI k else 0)) = cp_f (cO y + (sg_f (fun x => cI x * ma_f false RW x y) k + cI k * ma_f false RW k y))
            rw [cp_add, Nat.add_assoc]
            congr 3
            unfold ma_f
            by_cases q : bt_f (RW k) y <;> simp [q]
        · exact absurd rfl h11
    refine pw_iconst C d_CN_carryOver_0 (v := 0) (by decide) ?_
    refine pw_istore C d_CN_carryOver_1 (by decide) ?_
    refine MW.world (pw_up_id w hwo).symm ?_
    exact L 64 0 rfl F (fun y hy => ⟨by rw [(hF y hy).1]; show _ = lN (cp_f (cO y + 0)); rw [Nat.add_zero, cp_id (hF y hy).2], cp_le _⟩)
  | true =>
    have L : ∀ d k : Nat, k + d = 64 → ∀ f1 : Nat → Int64, tm_f f1 (fun y => if y < k then cy_f cO cI (ma_f true RW) y else cO y) → MW zp l ze ({ frames := 3, cells := 0, slots := 0, locals := 71 } : Room) zs zm za zb zt zc X 5 0 0 (MQ zb (va_Qv (fun w1 => ∃ f1, w1 = pw_up w go io (aL X 64 f1) ∧ tm_f f1 (cy_f cO cI (ma_f true RW))) (pw_B X) (pw_F X)) za zs 0 0 (pw_F X)) (pw_up w go io (aL X 64 f1)) 3 [some (.ref (pw_a X gr ir)), some (.int (bi_f true)), some (.ref (pw_a X gi ii)), some (.ref (pw_a X go io)), some (.int (nI k))] [] := by
      intro d
      induction d with
      | zero =>
        intro k hkd f1 hf
        have hk64 : k = 64 := by omega
        subst hk64
        refine pw_iload C d_CN_carryOver_3 rfl ?_
        refine pw_bipush C d_CN_carryOver_5 (v := 64) (by decide) ?_
        refine pw_icmp_ge C 63 d_CN_carryOver_7 (by decide) (fun h7 => ?_) (fun h7 => ?_)
        · refine pw_vret C zr zk d_CN_carryOver_63 ?_
          exact ⟨f1, rfl, tm_congr hf (fun y hy => if_pos hy)⟩
        · exact absurd (nI_le (a := 64) (b := 64) (by omega) (by omega)) h7
      | succ d ih =>
        intro k hkd f1 hf
        refine pw_iload C d_CN_carryOver_3 rfl ?_
        refine pw_bipush C d_CN_carryOver_5 (v := 64) (by decide) ?_
        refine pw_icmp_ge C 63 d_CN_carryOver_7 (by decide) (fun h7 => ?_) (fun h7 => ?_)
        · exact absurd ((nI_leI (a := 64) (by decide) (by omega)).mp h7) (by omega)
        refine pw_iload_n C d_CN_carryOver_10 rfl ?_
        refine pw_if_eq C 36 d_CN_carryOver_11 (by decide) (fun h11 => ?_) (fun h11 => ?_)
        · exact absurd h11 (by decide)
        refine pw_aload_n C d_CN_carryOver_14 rfl ?_
        refine pw_iload C d_CN_carryOver_15 rfl ?_
        refine pw_aload_n C d_CN_carryOver_17 rfl ?_
        refine pw_iload C d_CN_carryOver_18 rfl ?_
        refine pw_laldK C d_CN_carryOver_20 hdo (pw_up_self w go io _) (by omega) ?_
        refine pw_aload_n C d_CN_carryOver_21 rfl ?_
        refine pw_iload C d_CN_carryOver_22 rfl ?_
        refine pw_laldK C d_CN_carryOver_24 hdr (by rw [pw_up_ne _ _ hro]; exact hwr) (by omega) ?_
        refine pw_aload_n C d_CN_carryOver_25 rfl ?_
        refine pw_callSl C (k_CN_gather l hI _ (RW k) hdi (by rw [pw_up_ne _ _ hio]; exact hwi) hIN) ⟨pw_cb C 2 W_292 W_5 W_290 ⟨rfl, rfl⟩ (by decide +kernel) ⟨(Nat.le_of_ble_eq_true rfl), (Nat.le_of_ble_eq_true rfl)⟩, pw_w C W_291⟩ rfl rfl (Nat.le_of_ble_eq_true rfl) d_CN_carryOver_26 ⟨Nat.zero_le _, Nat.zero_le _⟩ (fun rg w9 hp => ?_)
        obtain ⟨e9, hp⟩ := hp
        subst hp
        refine MW.world e9 ?_
        have e1 : f1 k = lN (cO k) := by
          have := (hf k (by omega)).1
          simpa using this
        rw [e1]
        refine pw_callSNl C (k_PF_sumOf l hI _ (hF k (by omega)).2 (cp_le _)) ⟨pw_cn C 2 W_296 W_1 N_34 ⟨rfl, rfl⟩ (by decide +kernel) ⟨(Nat.le_of_ble_eq_true rfl), (Nat.le_of_ble_eq_true rfl)⟩, pw_w C W_295, trivial⟩ rfl rfl (Nat.le_of_ble_eq_true rfl) d_CN_carryOver_29 ⟨Nat.zero_le _, Nat.zero_le _⟩ (fun rs w9 hp => ?_)
        obtain ⟨e9, hp⟩ := hp
        subst hp
        refine MW.world e9 ?_
        refine pw_lastK C d_CN_carryOver_32 hdo (pw_up_self w go io _) (by omega) ?_
        refine pw_goto C 57 d_CN_carryOver_33 (by decide) ?_
        refine pw_iinc1 C d_CN_carryOver_57 rfl (by decide) ?_
        refine pw_goto C 3 d_CN_carryOver_60 (by decide) ?_
        rw [pw_up_up]
        refine ih (k + 1) (by omega) _ (fun y hy => ?_)
        by_cases q : y = k
        · subst q
          rw [pk_uLs]
          have q2 : y < y + 1 := by omega
          simp only [q2, if_true]
          refine ⟨?_, cp_le _⟩
          congr 1
          unfold cy_f
          rw [cp_add']
          congr 2
          refine sg_congr (fun x hx => ?_)
          unfold ma_f
          by_cases q3 : bt_f (RW y) x <;> simp [q3]
        · rw [pk_uLn q]
          have h := hf y hy
          by_cases q2 : y < k
          · have q3 : y < k + 1 := by omega
            simp only [q2, q3, if_true] at h ⊢
            exact h
          · have q3 : ¬ y < k + 1 := by omega
            simp only [q2, q3, if_false] at h ⊢
            exact h
    refine pw_iconst C d_CN_carryOver_0 (v := 0) (by decide) ?_
    refine pw_istore C d_CN_carryOver_1 (by decide) ?_
    refine MW.world (pw_up_id w hwo).symm ?_
    exact L 64 0 rfl F (fun y hy => by simpa using hF y hy)
/-- the edges of a set of labels as a table of numbers, turned if b -/
def me_f (b : Bool) (v : Int32) (T : Nat → Nat → Int64) (x y : Nat) : Nat := sg_f (fun k => if bt_f v.toInt64 k then ma_f b (T k) x y else 0) 8
set_option maxHeartbeats 4000000 in
set_option maxRecDepth 100000 in
theorem k_CN_carryOverEdges (l : Launch) {X : Lay} (hI : pw_I X) (w : Wd) {T : Nat → Nat → Int64} {n st0 : Int32} {gi ii go io : Nat} {IN F : Nat → Int64} {cI cO : Nat → Nat} (v : Int32) (b : Bool) (hX : Dm X) (hG : g_rep X w T n) (h12 : w 12 0 = oB 0 [.ref (pw_a X 1 0), .ref (pw_a X 4 0), .ref (pw_a X 9 0), .ref (pw_a X 13 0), .ref (pw_a X 14 0), .ref (pw_a X 15 0), .int st0]) (hdi : pw_d X gi ii) (hwi : w gi ii = aL X 64 IN) (hIN : tm_f IN cI) (hdo : pw_d X go io) (hwo : w go io = aL X 64 F) (hF : tm_f F cO) (hgo : 13 ≤ go) (hio : ¬ (gi = go ∧ ii = io)) : CtV l y_CN_carryOverEdges (pw_ws y_CN_carryOverEdges c_CN_carryOverEdges 6 none) { frames := 4, cells := 0, slots := 0, locals := 95 } X w [.ref (pw_a X 12 0), .int v, .int (bi_f b), .ref (pw_a X gi ii), .ref (pw_a X go io)] (fun w1 => ∃ f1, w1 = pw_up w go io (aL X 64 f1) ∧ tm_f f1 (cy_f cO cI (me_f b v T))) := by
  refine pw_open (by decide) hI [some (.ref (pw_a X 12 0)), some (.int v), some (.int (bi_f b)), some (.ref (pw_a X gi ii)), some (.ref (pw_a X go io)), none] rfl (Nat.le_of_ble_eq_true rfl) ?_
  intro zp ze zs zm za zb zt zc hargs C zr zk hnm
  have L : ∀ d k : Nat, k + d = 8 → ∀ f1 : Nat → Int64, tm_f f1 (cy_f cO cI (fun x y => sg_f (fun k => if bt_f v.toInt64 k then ma_f b (T k) x y else 0) k)) → MW zp l ze ({ frames := 4, cells := 0, slots := 0, locals := 95 } : Room) zs zm za zb zt zc X 6 0 0 (MQ zb (va_Qv (fun w1 => ∃ f1, w1 = pw_up w go io (aL X 64 f1) ∧ tm_f f1 (cy_f cO cI (me_f b v T))) (pw_B X) (pw_F X)) za zs 0 0 (pw_F X)) (pw_up w go io (aL X 64 f1)) 3 [some (.ref (pw_a X 12 0)), some (.int v), some (.int (bi_f b)), some (.ref (pw_a X gi ii)), some (.ref (pw_a X go io)), some (.int (nI k))] [] := by
    intro d
    induction d with
    | zero =>
      intro k hkd f1 hf
      have hk8 : k = 8 := by omega
      subst hk8
      refine pw_iload C d_CN_carryOverEdges_3 rfl ?_
      refine pw_bipush C d_CN_carryOverEdges_5 (v := 8) (by decide) ?_
      refine pw_icmp_ge C 43 d_CN_carryOverEdges_7 (by decide) (fun h7 => ?_) (fun h7 => ?_)
      · refine pw_vret C zr zk d_CN_carryOverEdges_43 ?_
        exact ⟨f1, rfl, hf⟩
      · exact absurd (nI_le (a := 8) (b := 8) (by omega) (by omega)) h7
    | succ d ih =>
      intro k hkd f1 hf
      obtain ⟨d1, d2, d3, w1e, ⟨f, w2e, hff⟩, w3e⟩ := g_rep_of (w1 := pw_up w go io (aL X 64 f1)) hG (pw_up_row _ _ (by omega)) (pw_up_row _ _ (by omega)) (pw_up_row _ _ (by omega))
      refine pw_iload C d_CN_carryOverEdges_3 rfl ?_
      refine pw_bipush C d_CN_carryOverEdges_5 (v := 8) (by decide) ?_
      refine pw_icmp_ge C 43 d_CN_carryOverEdges_7 (by decide) (fun h7 => ?_) (fun h7 => ?_)
      · exact absurd ((nI_leI (a := 8) (by decide) (by omega)).mp h7) (by omega)
      refine pw_iload_n C d_CN_carryOverEdges_10 rfl ?_
      refine pw_i2l C d_CN_carryOverEdges_11 ?_
      refine pw_iload C d_CN_carryOverEdges_12 rfl ?_
      refine pw_callSNi C (k_PF_holds l hI _ v.toInt64 (k := k) (by omega)) ⟨pw_cn C 2 W_159 W_1 N_33 ⟨rfl, rfl⟩ (by decide +kernel) ⟨(Nat.le_of_ble_eq_true rfl), (Nat.le_of_ble_eq_true rfl)⟩, pw_w C W_158, trivial⟩ rfl rfl (Nat.le_of_ble_eq_true rfl) d_CN_carryOverEdges_14 ⟨Nat.zero_le _, Nat.zero_le _⟩ (fun r w9 hp => ?_)
      obtain ⟨e9, hp⟩ := hp
      refine MW.world e9 ?_
      refine pw_if_eq C 37 d_CN_carryOverEdges_17 (by decide) (fun h17 => ?_) (fun h17 => ?_)
      · refine pw_iinc1 C d_CN_carryOverEdges_37 rfl (by decide) ?_
        refine pw_goto C 3 d_CN_carryOverEdges_40 (by decide) ?_
        refine ih (k + 1) (by omega) f1 (tm_congr hf (fun y hy => cy_congr (fun x hx y hy => ?_) hy))
        have hz : bt_f v.toInt64 k = false := by
          cases hb : bt_f v.toInt64 k with
          | false => rfl
          | true => exact absurd hb (yn_f hp h17)
        show _ = sg_f (fun k => if bt_f v.toInt64 k then ma_f b (T k) x y else 0) k + (if bt_f v.toInt64 k then ma_f b (T k) x y else 0)
        rw [hz]; simp
      · refine pw_aload_n C d_CN_carryOverEdges_20 rfl ?_
        refine pw_get C d_CN_carryOverEdges_21 (hX 12 0 rfl) (by rw [pw_up_g _ _ (by omega)]; exact h12) 0 rfl rfl (by decide) in_CN W_104 rfl ?_
        refine pw_getN C d_CN_carryOverEdges_24 d1 w1e 0 rfl rfl (by decide) in_GR N_2 rfl ?_
        refine pw_iload C d_CN_carryOverEdges_27 rfl ?_
        refine pw_aaldK C d_CN_carryOverEdges_29 d2 w2e (by omega) (hff k (by omega)) ?_
        refine pw_iload_n C d_CN_carryOverEdges_30 rfl ?_
        refine pw_aload_n C d_CN_carryOverEdges_31 rfl ?_
        refine pw_aload C d_CN_carryOverEdges_32 rfl ?_
        refine pw_callSv C (k_CN_carryOver l hI _ b (d3 k (by omega)) (w3e k (by omega)) hdi (by rw [pw_up_ne _ _ hio]; exact hwi) hIN hdo (pw_up_self w go io _) hf (fun q => by omega) hio) ⟨pw_cb C 4 W_289 W_5 W_287 ⟨rfl, rfl⟩ (by decide +kernel) ⟨(Nat.le_of_ble_eq_true rfl), (Nat.le_of_ble_eq_true rfl)⟩, pw_w C W_288⟩ rfl rfl (Nat.le_of_ble_eq_true rfl) d_CN_carryOverEdges_34 ⟨Nat.zero_le _, Nat.zero_le _⟩ (fun w9 hp2 => ?_)
        obtain ⟨f2, e9, hf2⟩ := hp2
        refine MW.world e9 ?_
        rw [pw_up_up]
        refine pw_iinc1 C d_CN_carryOverEdges_37 rfl (by decide) ?_
        refine pw_goto C 3 d_CN_carryOverEdges_40 (by decide) ?_
        refine ih (k + 1) (by omega) f2 (tm_congr hf2 (fun y hy => ?_))
        have ht : bt_f v.toInt64 k = true := yn_t hp h17
        unfold cy_f
        rw [cp_add, Nat.add_assoc, ← sg_add]
        congr 2
        refine sg_congr (fun x hx => ?_)
        show _ = cI x * (sg_f (fun k => if bt_f v.toInt64 k then ma_f b (T k) x y else 0) k + (if bt_f v.toInt64 k then ma_f b (T k) x y else 0))
        rw [ht, Nat.mul_add]
        simp
  refine pw_iconst C d_CN_carryOverEdges_0 (v := 0) (by decide) ?_
  refine pw_istore C d_CN_carryOverEdges_1 (by decide) ?_
  refine MW.world (pw_up_id w hwo).symm ?_
  refine L 8 0 rfl F (fun y hy => ⟨?_, cp_le _⟩)
  rw [(hF y hy).1]
  unfold cy_f
  have : sg_f (fun x => cI x * sg_f (fun k => if bt_f v.toInt64 k then ma_f b (T k) x y else 0) 0) 64 = sg_f (fun _ => 0) 64 := sg_congr (fun x _ => Nat.mul_zero _)
  rw [this, sg_zero, Nat.add_zero, cp_id (hF y hy).2]
end
section
/-! COUNTS: carry, carryOverBoth: a row carried through a part -/
def mo_f (b : Bool) (M : Nat → Nat → Nat) (x y : Nat) : Nat := if b then M y x else M x y
/-- how many times a part is found, out of the tables and the relations' rows -/
def ct_f (T : Nat → Nat → Int64) (ks ls ss : Nat → Int32) (R : Nat → Nat → Int64) : Nat → Nat → Nat → Nat → Nat
  | 0, _, _, _ => 0
  | d + 1, p, x, y =>
    if ks p = 0 ∨ ks p = 7 then me_f false (ls p) T x y
    else if ks p = 1 then ct_f T ks ls ss R d (p + 1) y x
    else if ks p = 2 then sg_f (fun z => ct_f T ks ls ss R d (p + 1) x z * ct_f T ks ls ss R d (ss p).toNatClampNeg z y) 64
    else if ks p = 3 then ct_f T ks ls ss R d (p + 1) x y + ct_f T ks ls ss R d (ss p).toNatClampNeg x y
    else ma_f false (R p) x y
def c_st (X : Lay) (w : Wd) (T : Nat → Nat → Int64) (ks ls ss : Nat → Int32) (parts : Nat) (R : Nat → Nat → Int64) (st0 : Int32) : Prop :=
  v_rep X w T ks ls ss parts ∧ w 12 0 = oB 0 [.ref (pw_a X 1 0), .ref (pw_a X 4 0), .ref (pw_a X 9 0), .ref (pw_a X 13 0), .ref (pw_a X 14 0), .ref (pw_a X 15 0), .int st0] ∧ (∀ j, j < 40 → w 11 j = aL X 64 (R j)) ∧ (∃ f, w 15 0 = aQ X 12 f ∧ ∀ j, j < 12 → f j = some (pw_a X 16 j)) ∧ ∀ j, j < 12 → ∃ f, w 16 j = aL X 64 f
theorem c_st_of {X : Lay} {w w1 : Wd} {T : Nat → Nat → Int64} {ks ls ss : Nat → Int32} {parts : Nat} {R : Nat → Nat → Int64} {st0 : Int32} (h : c_st X w T ks ls ss parts R st0) (h1 : ∀ g, g < 13 ∨ g = 15 → w1 g = w g) (h2 : ∀ j, j < 12 → ∃ f, w1 16 j = aL X 64 f) : c_st X w1 T ks ls ss parts R st0 := by
  obtain ⟨a, b, c, d, -⟩ := h
  refine ⟨v_rep_of a (fun g hg => h1 g (Or.inl (by omega))), by rw [h1 12 (Or.inl (by decide))]; exact b, fun j hj => by rw [h1 11 (Or.inl (by decide))]; exact c j hj, by rw [h1 15 (Or.inr rfl)]; exact d, h2⟩
def ca_post (X : Lay) (w : Wd) (d go io : Nat) (c1 : Nat → Nat) (w1 : Wd) : Prop :=
  (∀ g i, ¬ (g = go ∧ i = io) → ¬ (g = 16 ∧ 12 - d ≤ i) → w1 g i = w g i) ∧ (∀ j, j < 12 → ∃ f, w1 16 j = aL X 64 f) ∧ ∃ f1, w1 go io = aL X 64 f1 ∧ tm_f f1 c1
theorem ca_up {X : Lay} {w : Wd} {d go io : Nat} {f1 : Nat → Int64} {c1 : Nat → Nat} (hb : ∀ j, j < 12 → ∃ f, w 16 j = aL X 64 f) (h : tm_f f1 c1) : ca_post X w d go io c1 (pw_up w go io (aL X 64 f1)) := by
  refine ⟨fun g i h1 _ => pw_up_ne _ _ h1, fun j hj => ?_, f1, pw_up_self _ _ _ _, h⟩
  by_cases q : 16 = go ∧ j = io
  · obtain ⟨rfl, rfl⟩ := q
    exact ⟨f1, pw_up_self _ _ _ _⟩
  · rw [pw_up_ne _ _ q]; exact hb j hj
theorem ca_mono {X : Lay} {w w1 : Wd} {d go io : Nat} {c1 c2 : Nat → Nat} (h : ca_post X w d go io c1 w1) (e : ∀ y, y < 64 → c1 y = c2 y) : ca_post X w (d + 1) go io c2 w1 := by
  obtain ⟨a, b, f1, c, t⟩ := h
  exact ⟨fun g i h1 h2 => a g i h1 (fun q => h2 ⟨q.1, by omega⟩), b, f1, c, tm_congr t e⟩
/-- the contract of carry with d levels left -/
def ca_ct (l : Launch) (X : Lay) (T : Nat → Nat → Int64) (ks ls ss : Nat → Int32) (parts : Nat) (R : Nat → Nat → Int64) (st0 : Int32) (d : Nat) : Prop :=
  ∀ (w : Wd) (p : Nat) (b : Bool) (gi ii go io : Nat) (IN F : Nat → Int64) (cI cO : Nat → Nat), c_st X w T ks ls ss parts R st0 → p < parts → pw_d X gi ii → w gi ii = aL X 64 IN → tm_f IN cI → pw_d X go io → w go io = aL X 64 F → tm_f F cO → (13 ≤ gi ∧ gi ≠ 15 ∧ (gi = 16 → ii < 12 - d)) → (13 ≤ go ∧ go ≠ 15 ∧ (go = 16 → io < 12 - d)) → ¬ (gi = go ∧ ii = io) →
    CtV l y_CN_carry (pw_ws y_CN_carry c_CN_carry 6 none) { frames := 2 * d + 5, cells := 0, slots := 0, locals := 53 * d + 120 } X w [.ref (pw_a X 12 0), .int (nI p), .int (bi_f b), .int (nI (12 - d)), .ref (pw_a X gi ii), .ref (pw_a X go io)] (ca_post X w d go io (cy_f cO cI (mo_f b (ct_f T ks ls ss R d p))))
/-- a row carried over one table and then over another -/
theorem cy_two (cO cI : Nat → Nat) (M N : Nat → Nat → Nat) (y : Nat) : cy_f cO (cy_f (fun _ => 0) cI M) N y = cy_f cO cI (fun x y => sg_f (fun z => M x z * N z y) 64) y := by
  unfold cy_f
  rw [cp_sg]
  congr 2
  have e1 : sg_f (fun z => (0 + sg_f (fun x => cI x * M x z) 64) * N z y) 64 = sg_f (fun z => sg_f (fun x => cI x * M x z * N z y) 64) 64 := sg_congr (fun z _ => by rw [Nat.zero_add, ← sg_mulr])
  rw [e1, sg_swap (fun z x => cI x * M x z * N z y)]
  refine sg_congr (fun x _ => ?_)
  rw [← sg_mul]
  exact sg_congr (fun z _ => Nat.mul_assoc _ _ _)
theorem cy_add (cO cI : Nat → Nat) (M N : Nat → Nat → Nat) (y : Nat) : cy_f (cy_f cO cI M) cI N y = cy_f cO cI (fun x y => M x y + N x y) y := by
  unfold cy_f
  rw [cp_add, Nat.add_assoc, ← sg_add]
  congr 2
  exact sg_congr (fun x _ => (Nat.mul_add _ _ _).symm)
theorem cy_0 (cO cI : Nat → Nat) (y : Nat) (h : cO y ≤ C15) : cy_f cO cI (fun _ _ => 0) y = cO y := by
  unfold cy_f
  have : sg_f (fun x => cI x * 0) 64 = sg_f (fun _ => 0) 64 := sg_congr (fun x _ => Nat.mul_zero _)
  rw [this, sg_zero, Nat.add_zero, cp_id h]
set_option maxHeartbeats 4000000 in
set_option maxRecDepth 100000 in
theorem k_CN_carryOverBoth (l : Launch) {X : Lay} (hI : pw_I X) (hX : Dm X) {T : Nat → Nat → Int64} {ks ls ss : Nat → Int32} {parts : Nat} {R : Nat → Nat → Int64} {st0 : Int32} (h40 : parts ≤ 40) {d : Nat} (hd12 : d < 12) (ih : ca_ct l X T ks ls ss parts R st0 d) (w : Wd) {p q : Nat} (b : Bool) {gi ii go io : Nat} {IN F : Nat → Int64} {cI cO : Nat → Nat} (hC : c_st X w T ks ls ss parts R st0) (hp1 : p + 1 < parts) (hq : q < parts) (hss : ss p = nI q) (hdi : pw_d X gi ii) (hwi : w gi ii = aL X 64 IN) (hIN : tm_f IN cI) (hdo : pw_d X go io) (hwo : w go io = aL X 64 F) (hF : tm_f F cO) (hgi : 13 ≤ gi ∧ gi ≠ 15 ∧ (gi = 16 → ii < 12 - (d + 1))) (hgo : 13 ≤ go ∧ go ≠ 15 ∧ (go = 16 → io < 12 - (d + 1))) (hio : ¬ (gi = go ∧ ii = io)) : CtV l y_CN_carryOverBoth (pw_ws y_CN_carryOverBoth c_CN_carryOverBoth 9 none) { frames := 2 * d + 6, cells := 0, slots := 0, locals := 53 * d + 145 } X w [.ref (pw_a X 12 0), .int (nI p), .int (bi_f b), .int (nI (12 - (d + 1))), .ref (pw_a X gi ii), .ref (pw_a X go io)] (ca_post X w (d + 1) go io (cy_f cO cI (mo_f b (fun x y => sg_f (fun z => ct_f T ks ls ss R d (p + 1) x z * ct_f T ks ls ss R d q z y) 64)))) := by
  obtain ⟨⟨hG, ⟨nn, ft, w4e⟩, w6e, w7e, w8e, hv9, hv10⟩, w12e, w11e, ⟨f15, w15e, hf15⟩, hb16⟩ := id hC
  have d16 : ∀ j, j < 12 → pw_d X 16 j := fun j hj => hX 16 j (by simp [dm_k, hj])
  obtain ⟨f16, w16e⟩ := hb16 (12 - (d + 1)) (by omega)
  refine pw_open (by decide) hI [some (.ref (pw_a X 12 0)), some (.int (nI p)), some (.int (bi_f b)), some (.int (nI (12 - (d + 1)))), some (.ref (pw_a X gi ii)), some (.ref (pw_a X go io)), none, none, none] rfl (Nat.le_of_ble_eq_true rfl) ?_
  intro zp ze zs zm za zb zt zc hargs C zr zk hnm
  cases b with
  | false =>
    refine pw_iload_n C d_CN_carryOverBoth_0 rfl ?_
    refine pw_iconst C d_CN_carryOverBoth_1 (v := 1) (by decide) ?_
    refine pw_iadd C d_CN_carryOverBoth_2 ?_
    rw [nI_1]
    refine pw_istore C d_CN_carryOverBoth_3 (by decide) ?_
    refine pw_aload_n C d_CN_carryOverBoth_5 rfl ?_
    refine pw_get C d_CN_carryOverBoth_6 (hX 12 0 rfl) w12e 1 rfl rfl (by decide) in_CN W_105 rfl ?_
    refine pw_getN C d_CN_carryOverBoth_9 (hX 4 0 rfl) w4e 3 rfl rfl (by decide) in_PA N_10 rfl ?_
    refine pw_iload_n C d_CN_carryOverBoth_12 rfl ?_
    refine pw_ialdK C d_CN_carryOverBoth_13 (hX 8 0 rfl) w8e (by omega) ?_
    rw [hss]
    refine pw_istore C d_CN_carryOverBoth_14 (by decide) ?_
    refine pw_aload_n C d_CN_carryOverBoth_16 rfl ?_
    refine pw_get C d_CN_carryOverBoth_17 (hX 12 0 rfl) w12e 5 rfl rfl (by decide) in_CN W_109 rfl ?_
    refine pw_iload_n C d_CN_carryOverBoth_20 rfl ?_
    refine pw_aaldK C d_CN_carryOverBoth_21 (hX 15 0 rfl) w15e (by omega) (hf15 _ (by omega)) ?_
    refine pw_astore C d_CN_carryOverBoth_22 (by decide) ?_
    refine pw_aload C d_CN_carryOverBoth_24 rfl ?_
    refine pw_lconst C d_CN_carryOverBoth_26 (v := 0) (by decide) ?_
    refine pw_callSv C (k_AR_fill l hI _ 0 (n := 64) (by decide) (d16 _ (by omega)) w16e) ⟨pw_cb C 2 W_245 W_7 W_277 ⟨rfl, rfl⟩ (by decide +kernel) ⟨by show 0 + 1 ≤ 2 * d + 6; omega, by show 8 + (5 + 11) + 0 ≤ 53 * d + 145; omega⟩, pw_w C W_244⟩ rfl rfl (Nat.le_of_ble_eq_true rfl) d_CN_carryOverBoth_27 ⟨Nat.zero_le _, Nat.zero_le _⟩ (fun w9 hp9 => ?_)
    obtain ⟨f0, e9, hf0⟩ := hp9
    refine MW.world e9 ?_
    have hC1 : c_st X (pw_up w 16 (12 - (d + 1)) (aL X 64 f0)) T ks ls ss parts R st0 := c_st_of hC (fun g hg => pw_up_row _ _ (by omega)) (fun j hj => by
      by_cases z : j = 12 - (d + 1)
      · exact ⟨f0, by rw [z]; exact pw_up_self _ _ _ _⟩
      · rw [pw_up_i _ _ z]; exact hb16 j hj)
    have hni : ¬ (gi = 16 ∧ ii = 12 - (d + 1)) := fun z => by have := hgi.2.2 z.1; omega
    have hno : ¬ (go = 16 ∧ io = 12 - (d + 1)) := fun z => by have := hgo.2.2 z.1; omega
    refine pw_aload_n C d_CN_carryOverBoth_30 rfl ?_
    refine pw_iload_n C d_CN_carryOverBoth_31 rfl ?_
    refine pw_if_eq C 40 d_CN_carryOverBoth_32 (by decide) (fun h32 => ?_) (fun h32 => ?_)
    · refine pw_iload C d_CN_carryOverBoth_40 rfl ?_
      refine pw_iload_n C d_CN_carryOverBoth_42 rfl ?_
      refine pw_iload_n C d_CN_carryOverBoth_43 rfl ?_
      refine pw_iconst C d_CN_carryOverBoth_44 (v := 1) (by decide) ?_
      refine pw_iadd C d_CN_carryOverBoth_45 ?_
      refine pw_aload C d_CN_carryOverBoth_46 rfl ?_
      refine pw_aload C d_CN_carryOverBoth_48 rfl ?_
      rw [show nI (12 - (d + 1)) + 1 = nI (12 - d) from by rw [nI_1]; congr 1; omega]
      refine pw_callVv C (ih _ (p + 1) false gi ii 16 (12 - (d + 1)) IN f0 cI (fun _ => 0) hC1 (by omega) hdi (by rw [pw_up_ne _ _ hni]; exact hwi) hIN (d16 _ (by omega)) (pw_up_self _ _ _ _) (fun j hj => ⟨hf0 j hj, Nat.zero_le _⟩) ⟨hgi.1, hgi.2.1, fun z => by have := hgi.2.2 z; omega⟩ ⟨by decide, by decide, fun _ => by omega⟩ hni) (hX 12 0 rfl) (by rw [pw_up_g _ _ (by decide)]; exact w12e) rfl ⟨pw_cb C 5 W_281 W_5 W_278 ⟨rfl, rfl⟩ (by decide +kernel) ⟨by show (2 * d + 5) + 1 ≤ 2 * d + 6; omega, by show 8 + (6 + 11) + (53 * d + 120) ≤ 53 * d + 145; omega⟩, pw_w C W_280, pw_w C V_14⟩ rfl rfl (Nat.le_of_ble_eq_true rfl) d_CN_carryOverBoth_50 ⟨Nat.zero_le _, Nat.zero_le _⟩ (fun w2 hp2 => ?_)
      obtain ⟨a1, a2, f1, a3, a4⟩ := hp2
      have hC2 : c_st X w2 T ks ls ss parts R st0 := c_st_of hC1 (fun g hg => funext fun i => a1 g i (fun z => by omega) (fun z => by omega)) a2
      have ho2 : w2 go io = aL X 64 F := by rw [a1 go io hno (fun z => by have := hgo.2.2 z.1; omega), pw_up_ne _ _ hno]; exact hwo
      refine pw_aload_n C d_CN_carryOverBoth_53 rfl ?_
      refine pw_iload_n C d_CN_carryOverBoth_54 rfl ?_
      refine pw_if_eq C 63 d_CN_carryOverBoth_55 (by decide) (fun h55 => ?_) (fun h55 => ?_)
      · refine pw_iload C d_CN_carryOverBoth_63 rfl ?_
        refine pw_iload_n C d_CN_carryOverBoth_65 rfl ?_
        refine pw_iload_n C d_CN_carryOverBoth_66 rfl ?_
        refine pw_iconst C d_CN_carryOverBoth_67 (v := 1) (by decide) ?_
        refine pw_iadd C d_CN_carryOverBoth_68 ?_
        refine pw_aload C d_CN_carryOverBoth_69 rfl ?_
        refine pw_aload C d_CN_carryOverBoth_71 rfl ?_
        rw [show nI (12 - (d + 1)) + 1 = nI (12 - d) from by rw [nI_1]; congr 1; omega]
        refine pw_callVv C (ih w2 q false 16 (12 - (d + 1)) go io f1 F _ cO hC2 (by omega) (d16 _ (by omega)) a3 a4 hdo ho2 hF ⟨by decide, by decide, fun _ => by omega⟩ ⟨hgo.1, hgo.2.1, fun z => by have := hgo.2.2 z; omega⟩ (fun z => hno ⟨z.1.symm, z.2.symm⟩)) (hX 12 0 rfl) hC2.2.1 rfl ⟨pw_cb C 5 W_281 W_5 W_278 ⟨rfl, rfl⟩ (by decide +kernel) ⟨by show (2 * d + 5) + 1 ≤ 2 * d + 6; omega, by show 8 + (6 + 11) + (53 * d + 120) ≤ 53 * d + 145; omega⟩, pw_w C W_280, pw_w C V_14⟩ rfl rfl (Nat.le_of_ble_eq_true rfl) d_CN_carryOverBoth_73 ⟨Nat.zero_le _, Nat.zero_le _⟩ (fun w3 hp3 => ?_)
        refine pw_vret C zr zk d_CN_carryOverBoth_76 ?_
        obtain ⟨b1, b2, f3, b3, b4⟩ := hp3
        refine ⟨fun g i g1 g2 => ?_, b2, f3, b3, tm_congr b4 (fun y hy => ?_)⟩
        · have z : ¬ (g = 16 ∧ i = 12 - (d + 1)) := fun z => g2 ⟨z.1, by omega⟩
          rw [b1 g i g1 (fun z => g2 ⟨z.1, by omega⟩), a1 g i z (fun z => g2 ⟨z.1, by omega⟩), pw_up_ne _ _ z]
        · rw [cy_two]
          exact cy_congr (fun x hx y hy => rfl) hy
      · exact absurd rfl h55
    · exact absurd rfl h32
  | true =>
    refine pw_iload_n C d_CN_carryOverBoth_0 rfl ?_
    refine pw_iconst C d_CN_carryOverBoth_1 (v := 1) (by decide) ?_
    refine pw_iadd C d_CN_carryOverBoth_2 ?_
    rw [nI_1]
    refine pw_istore C d_CN_carryOverBoth_3 (by decide) ?_
    refine pw_aload_n C d_CN_carryOverBoth_5 rfl ?_
    refine pw_get C d_CN_carryOverBoth_6 (hX 12 0 rfl) w12e 1 rfl rfl (by decide) in_CN W_105 rfl ?_
    refine pw_getN C d_CN_carryOverBoth_9 (hX 4 0 rfl) w4e 3 rfl rfl (by decide) in_PA N_10 rfl ?_
    refine pw_iload_n C d_CN_carryOverBoth_12 rfl ?_
    refine pw_ialdK C d_CN_carryOverBoth_13 (hX 8 0 rfl) w8e (by omega) ?_
    rw [hss]
    refine pw_istore C d_CN_carryOverBoth_14 (by decide) ?_
    refine pw_aload_n C d_CN_carryOverBoth_16 rfl ?_
    refine pw_get C d_CN_carryOverBoth_17 (hX 12 0 rfl) w12e 5 rfl rfl (by decide) in_CN W_109 rfl ?_
    refine pw_iload_n C d_CN_carryOverBoth_20 rfl ?_
    refine pw_aaldK C d_CN_carryOverBoth_21 (hX 15 0 rfl) w15e (by omega) (hf15 _ (by omega)) ?_
    refine pw_astore C d_CN_carryOverBoth_22 (by decide) ?_
    refine pw_aload C d_CN_carryOverBoth_24 rfl ?_
    refine pw_lconst C d_CN_carryOverBoth_26 (v := 0) (by decide) ?_
    refine pw_callSv C (k_AR_fill l hI _ 0 (n := 64) (by decide) (d16 _ (by omega)) w16e) ⟨pw_cb C 2 W_245 W_7 W_277 ⟨rfl, rfl⟩ (by decide +kernel) ⟨by show 0 + 1 ≤ 2 * d + 6; omega, by show 8 + (5 + 11) + 0 ≤ 53 * d + 145; omega⟩, pw_w C W_244⟩ rfl rfl (Nat.le_of_ble_eq_true rfl) d_CN_carryOverBoth_27 ⟨Nat.zero_le _, Nat.zero_le _⟩ (fun w9 hp9 => ?_)
    obtain ⟨f0, e9, hf0⟩ := hp9
    refine MW.world e9 ?_
    have hC1 : c_st X (pw_up w 16 (12 - (d + 1)) (aL X 64 f0)) T ks ls ss parts R st0 := c_st_of hC (fun g hg => pw_up_row _ _ (by omega)) (fun j hj => by
      by_cases z : j = 12 - (d + 1)
      · exact ⟨f0, by rw [z]; exact pw_up_self _ _ _ _⟩
      · rw [pw_up_i _ _ z]; exact hb16 j hj)
    have hni : ¬ (gi = 16 ∧ ii = 12 - (d + 1)) := fun z => by have := hgi.2.2 z.1; omega
    have hno : ¬ (go = 16 ∧ io = 12 - (d + 1)) := fun z => by have := hgo.2.2 z.1; omega
    refine pw_aload_n C d_CN_carryOverBoth_30 rfl ?_
    refine pw_iload_n C d_CN_carryOverBoth_31 rfl ?_
    refine pw_if_eq C 40 d_CN_carryOverBoth_32 (by decide) (fun h32 => ?_) (fun h32 => ?_)
    · exact absurd h32 (by decide)
    refine pw_iload C d_CN_carryOverBoth_35 rfl ?_
    refine pw_goto C 42 d_CN_carryOverBoth_37 (by decide) ?_
    refine pw_iload_n C d_CN_carryOverBoth_42 rfl ?_
    refine pw_iload_n C d_CN_carryOverBoth_43 rfl ?_
    refine pw_iconst C d_CN_carryOverBoth_44 (v := 1) (by decide) ?_
    refine pw_iadd C d_CN_carryOverBoth_45 ?_
    refine pw_aload C d_CN_carryOverBoth_46 rfl ?_
    refine pw_aload C d_CN_carryOverBoth_48 rfl ?_
    rw [show nI (12 - (d + 1)) + 1 = nI (12 - d) from by rw [nI_1]; congr 1; omega]
    refine pw_callVv C (ih _ q true gi ii 16 (12 - (d + 1)) IN f0 cI (fun _ => 0) hC1 (by omega) hdi (by rw [pw_up_ne _ _ hni]; exact hwi) hIN (d16 _ (by omega)) (pw_up_self _ _ _ _) (fun j hj => ⟨hf0 j hj, Nat.zero_le _⟩) ⟨hgi.1, hgi.2.1, fun z => by have := hgi.2.2 z; omega⟩ ⟨by decide, by decide, fun _ => by omega⟩ hni) (hX 12 0 rfl) (by rw [pw_up_g _ _ (by decide)]; exact w12e) rfl ⟨pw_cb C 5 W_281 W_5 W_278 ⟨rfl, rfl⟩ (by decide +kernel) ⟨by show (2 * d + 5) + 1 ≤ 2 * d + 6; omega, by show 8 + (6 + 11) + (53 * d + 120) ≤ 53 * d + 145; omega⟩, pw_w C W_280, pw_w C V_14⟩ rfl rfl (Nat.le_of_ble_eq_true rfl) d_CN_carryOverBoth_50 ⟨Nat.zero_le _, Nat.zero_le _⟩ (fun w2 hp2 => ?_)
    obtain ⟨a1, a2, f1, a3, a4⟩ := hp2
    have hC2 : c_st X w2 T ks ls ss parts R st0 := c_st_of hC1 (fun g hg => funext fun i => a1 g i (fun z => by omega) (fun z => by omega)) a2
    have ho2 : w2 go io = aL X 64 F := by rw [a1 go io hno (fun z => by have := hgo.2.2 z.1; omega), pw_up_ne _ _ hno]; exact hwo
    refine pw_aload_n C d_CN_carryOverBoth_53 rfl ?_
    refine pw_iload_n C d_CN_carryOverBoth_54 rfl ?_
    refine pw_if_eq C 63 d_CN_carryOverBoth_55 (by decide) (fun h55 => ?_) (fun h55 => ?_)
    · exact absurd h55 (by decide)
    refine pw_iload C d_CN_carryOverBoth_58 rfl ?_
    refine pw_goto C 65 d_CN_carryOverBoth_60 (by decide) ?_
    refine pw_iload_n C d_CN_carryOverBoth_65 rfl ?_
    refine pw_iload_n C d_CN_carryOverBoth_66 rfl ?_
    refine pw_iconst C d_CN_carryOverBoth_67 (v := 1) (by decide) ?_
    refine pw_iadd C d_CN_carryOverBoth_68 ?_
    refine pw_aload C d_CN_carryOverBoth_69 rfl ?_
    refine pw_aload C d_CN_carryOverBoth_71 rfl ?_
    rw [show nI (12 - (d + 1)) + 1 = nI (12 - d) from by rw [nI_1]; congr 1; omega]
    refine pw_callVv C (ih w2 (p + 1) true 16 (12 - (d + 1)) go io f1 F _ cO hC2 (by omega) (d16 _ (by omega)) a3 a4 hdo ho2 hF ⟨by decide, by decide, fun _ => by omega⟩ ⟨hgo.1, hgo.2.1, fun z => by have := hgo.2.2 z; omega⟩ (fun z => hno ⟨z.1.symm, z.2.symm⟩)) (hX 12 0 rfl) hC2.2.1 rfl ⟨pw_cb C 5 W_281 W_5 W_278 ⟨rfl, rfl⟩ (by decide +kernel) ⟨by show (2 * d + 5) + 1 ≤ 2 * d + 6; omega, by show 8 + (6 + 11) + (53 * d + 120) ≤ 53 * d + 145; omega⟩, pw_w C W_280, pw_w C V_14⟩ rfl rfl (Nat.le_of_ble_eq_true rfl) d_CN_carryOverBoth_73 ⟨Nat.zero_le _, Nat.zero_le _⟩ (fun w3 hp3 => ?_)
    refine pw_vret C zr zk d_CN_carryOverBoth_76 ?_
    obtain ⟨b1, b2, f3, b3, b4⟩ := hp3
    refine ⟨fun g i g1 g2 => ?_, b2, f3, b3, tm_congr b4 (fun y hy => ?_)⟩
    · have z : ¬ (g = 16 ∧ i = 12 - (d + 1)) := fun z => g2 ⟨z.1, by omega⟩
      rw [b1 g i g1 (fun z => g2 ⟨z.1, by omega⟩), a1 g i z (fun z => g2 ⟨z.1, by omega⟩), pw_up_ne _ _ z]
    · rw [cy_two]
      refine cy_congr (fun x hx y hy => ?_) hy
      exact sg_congr (fun z _ => Nat.mul_comm _ _)
theorem sw8 (x : Int32) : (x = 0 ∨ x = 7) ∨ x = 1 ∨ x = 2 ∨ x = 3 ∨ (x = 4 ∨ x = 5 ∨ x = 6) ∨ (x.toInt < 0 ∨ 7 < x.toInt) := by
  rcases (show (x.toInt = 0 ∨ x.toInt = 7) ∨ x.toInt = 1 ∨ x.toInt = 2 ∨ x.toInt = 3 ∨ (x.toInt = 4 ∨ x.toInt = 5 ∨ x.toInt = 6) ∨ (x.toInt < 0 ∨ 7 < x.toInt) by omega) with (h | h) | h | h | h | (h | h | h) | h
  · exact Or.inl (Or.inl (Int32.toInt_inj.mp (h.trans (by decide))))
  · exact Or.inl (Or.inr (Int32.toInt_inj.mp (h.trans (by decide))))
  · exact Or.inr (Or.inl (Int32.toInt_inj.mp (h.trans (by decide))))
  · exact Or.inr (Or.inr (Or.inl (Int32.toInt_inj.mp (h.trans (by decide)))))
  · exact Or.inr (Or.inr (Or.inr (Or.inl (Int32.toInt_inj.mp (h.trans (by decide))))))
  · exact Or.inr (Or.inr (Or.inr (Or.inr (Or.inl (Or.inl (Int32.toInt_inj.mp (h.trans (by decide))))))))
  · exact Or.inr (Or.inr (Or.inr (Or.inr (Or.inl (Or.inr (Or.inl (Int32.toInt_inj.mp (h.trans (by decide)))))))))
  · exact Or.inr (Or.inr (Or.inr (Or.inr (Or.inl (Or.inr (Or.inr (Int32.toInt_inj.mp (h.trans (by decide)))))))))
  · exact Or.inr (Or.inr (Or.inr (Or.inr (Or.inr h))))
set_option maxHeartbeats 4000000 in
set_option maxRecDepth 100000 in
theorem k_CN_carry (l : Launch) {X : Lay} (hI : pw_I X) (hX : Dm X) {T : Nat → Nat → Int64} {ks ls ss : Nat → Int32} {parts : Nat} {R : Nat → Nat → Int64} {st0 : Int32} (h40 : parts ≤ 40) (hfl : fl_f ks ss parts) : ∀ d, d ≤ 12 → ca_ct l X T ks ls ss parts R st0 d := by
  intro d
  induction d with
  | zero =>
    intro hd12 w p b gi ii go io IN F cI cO hC hp hdi hwi hIN hdo hwo hF hgi hgo hio
    refine pw_open (by decide) hI [some (.ref (pw_a X 12 0)), some (.int (nI p)), some (.int (bi_f b)), some (.int (nI (12 - 0))), some (.ref (pw_a X gi ii)), some (.ref (pw_a X go io))] rfl (Nat.le_of_ble_eq_true rfl) ?_
    intro zp ze zs zm za zb zt zc hargs C zr zk hnm
    refine pw_iload_n C d_CN_carry_0 rfl ?_
    refine pw_bipush C d_CN_carry_1 (v := 12) (by decide) ?_
    refine pw_icmp_ge C 17 d_CN_carry_3 (by decide) (fun h3 => ?_) (fun h3 => ?_)
    · refine pw_vret C zr zk d_CN_carry_17 ?_
      refine ⟨fun g i _ _ => rfl, hC.2.2.2.2, F, hwo, tm_congr hF (fun y hy => ?_)⟩
      have e : cy_f cO cI (mo_f b (ct_f T ks ls ss R 0 p)) y = cy_f cO cI (fun _ _ => 0) y := cy_congr (fun x _ y _ => by unfold mo_f; cases b <;> rfl) hy
      rw [e, cy_0 _ _ _ (hF y hy).2]
    · exact absurd (show (12 : Int32) ≤ nI (12 - 0) by decide) h3
  | succ d ihd =>
    intro hd12 w p b gi ii go io IN F cI cO hC hp hdi hwi hIN hdo hwo hF hgi hgo hio
    have ih := ihd (by omega)
    obtain ⟨⟨hG, ⟨nn, ft, w4e⟩, w6e, w7e, w8e, ⟨rdy, w9e⟩, ⟨f10, w10e, hf10⟩⟩, w12e, w11e, ⟨f15, w15e, hf15⟩, hb16⟩ := id hC
    obtain ⟨ng, hGr⟩ := hG
    have d11 : ∀ j, j < 40 → pw_d X 11 j := fun j hj => hX 11 j (by simp [dm_k, hj])
    refine pw_open (by decide) hI [some (.ref (pw_a X 12 0)), some (.int (nI p)), some (.int (bi_f b)), some (.int (nI (12 - (d + 1)))), some (.ref (pw_a X gi ii)), some (.ref (pw_a X go io))] rfl (Nat.le_of_ble_eq_true rfl) ?_
    intro zp ze zs zm za zb zt zc hargs C zr zk hnm
    refine pw_iload_n C d_CN_carry_0 rfl ?_
    refine pw_bipush C d_CN_carry_1 (v := 12) (by decide) ?_
    refine pw_icmp_ge C 17 d_CN_carry_3 (by decide) (fun h3 => ?_) (fun h3 => ?_)
    · exact absurd ((nI_leI (a := 12) (by decide) (by omega)).mp h3) (by omega)
    refine pw_iload_n C d_CN_carry_6 rfl ?_
    refine pw_aload_n C d_CN_carry_7 rfl ?_
    refine pw_get C d_CN_carry_8 (hX 12 0 rfl) w12e 1 rfl rfl (by decide) in_CN W_105 rfl ?_
    refine pw_getN C d_CN_carry_11 (hX 4 0 rfl) w4e 5 rfl rfl (by decide) in_PA N_12 rfl ?_
    refine pw_icmp_lt C 18 d_CN_carry_14 (by decide) (fun h14 => ?_) (fun h14 => ?_)
    · refine pw_aload_n C d_CN_carry_18 rfl ?_
      refine pw_get C d_CN_carry_19 (hX 12 0 rfl) w12e 1 rfl rfl (by decide) in_CN W_105 rfl ?_
      refine pw_getN C d_CN_carry_22 (hX 4 0 rfl) w4e 1 rfl rfl (by decide) in_PA N_6 rfl ?_
      refine pw_iload_n C d_CN_carry_25 rfl ?_
      refine pw_ialdK C d_CN_carry_26 (hX 6 0 rfl) w6e (by omega) ?_
      have L172 : ¬ (ks p = 0 ∨ ks p = 7) ∧ ¬ ks p = 1 ∧ ¬ ks p = 2 ∧ ¬ ks p = 3 → MW zp l ze ({ frames := 2 * (d + 1) + 5, cells := 0, slots := 0, locals := 53 * (d + 1) + 120 } : Room) zs zm za zb zt zc X 6 0 0 (MQ zb (va_Qv (ca_post X w (d + 1) go io (cy_f cO cI (mo_f b (ct_f T ks ls ss R (d + 1) p)))) (pw_B X) (pw_F X)) za zs 0 0 (pw_F X)) w 172 [some (.ref (pw_a X 12 0)), some (.int (nI p)), some (.int (bi_f b)), some (.int (nI (12 - (d + 1)))), some (.ref (pw_a X gi ii)), some (.ref (pw_a X go io))] [] := by
        intro hn
        refine pw_aload_n C d_CN_carry_172 rfl ?_
        refine pw_get C d_CN_carry_173 (hX 12 0 rfl) w12e 2 rfl rfl (by decide) in_CN W_106 rfl ?_
        refine pw_getN C d_CN_carry_176 (hX 9 0 rfl) w9e 2 rfl rfl (by decide) in_RE N_15 rfl ?_
        refine pw_iload_n C d_CN_carry_179 rfl ?_
        refine pw_aaldK C d_CN_carry_180 (hX 10 0 rfl) w10e (by omega) (hf10 p (by omega)) ?_
        refine pw_iload_n C d_CN_carry_181 rfl ?_
        refine pw_aload C d_CN_carry_182 rfl ?_
        refine pw_aload C d_CN_carry_184 rfl ?_
        refine pw_callSv C (k_CN_carryOver l hI w b (d11 p (by omega)) (w11e p (by omega)) hdi hwi hIN hdo hwo hF (fun z => by omega) hio) ⟨pw_cb C 4 W_289 W_5 W_287 ⟨rfl, rfl⟩ (by decide +kernel) ⟨by show 3 + 1 ≤ 2 * (d + 1) + 5; omega, by show 8 + (5 + 11) + 71 ≤ 53 * (d + 1) + 120; omega⟩, pw_w C W_288⟩ rfl rfl (Nat.le_of_ble_eq_true rfl) d_CN_carry_186 ⟨Nat.zero_le _, Nat.zero_le _⟩ (fun w9 hp9 => ?_)
        obtain ⟨f1, rfl, hf1⟩ := hp9
        refine pw_vret C zr zk d_CN_carry_189 ?_
        refine ca_up hb16 (tm_congr hf1 (fun y hy => cy_congr (fun x hx y hy => ?_) hy))
        have e : ct_f T ks ls ss R (d + 1) p = ma_f false (R p) := by
          funext x y
          exact (if_neg hn.1).trans ((if_neg hn.2.1).trans ((if_neg hn.2.2.1).trans (if_neg hn.2.2.2)))
        rw [e]
        unfold mo_f
        cases b <;> rfl
      rcases sw8 (ks p) with hk | hk | hk | hk | hk | hk
      · have L72 : MW zp l ze ({ frames := 2 * (d + 1) + 5, cells := 0, slots := 0, locals := 53 * (d + 1) + 120 } : Room) zs zm za zb zt zc X 6 0 0 (MQ zb (va_Qv (ca_post X w (d + 1) go io (cy_f cO cI (mo_f b (ct_f T ks ls ss R (d + 1) p)))) (pw_B X) (pw_F X)) za zs 0 0 (pw_F X)) w 72 [some (.ref (pw_a X 12 0)), some (.int (nI p)), some (.int (bi_f b)), some (.int (nI (12 - (d + 1)))), some (.ref (pw_a X gi ii)), some (.ref (pw_a X go io))] [] := by
          refine pw_aload_n C d_CN_carry_72 rfl ?_
          refine pw_aload_n C d_CN_carry_73 rfl ?_
          refine pw_get C d_CN_carry_74 (hX 12 0 rfl) w12e 1 rfl rfl (by decide) in_CN W_105 rfl ?_
          refine pw_getN C d_CN_carry_77 (hX 4 0 rfl) w4e 2 rfl rfl (by decide) in_PA N_8 rfl ?_
          refine pw_iload_n C d_CN_carry_80 rfl ?_
          refine pw_ialdK C d_CN_carry_81 (hX 7 0 rfl) w7e (by omega) ?_
          refine pw_iload_n C d_CN_carry_82 rfl ?_
          refine pw_aload C d_CN_carry_83 rfl ?_
          refine pw_aload C d_CN_carry_85 rfl ?_
          refine pw_callVv C (k_CN_carryOverEdges l hI w (ls p) b hX hGr w12e hdi hwi hIN hdo hwo hF hgo.1 hio) (hX 12 0 rfl) w12e rfl ⟨pw_cb C 4 W_285 W_5 W_282 ⟨rfl, rfl⟩ (by decide +kernel) ⟨by show 4 + 1 ≤ 2 * (d + 1) + 5; omega, by show 8 + (6 + 11) + 95 ≤ 53 * (d + 1) + 120; omega⟩, pw_w C W_284, pw_w C V_15⟩ rfl rfl (Nat.le_of_ble_eq_true rfl) d_CN_carry_87 ⟨Nat.zero_le _, Nat.zero_le _⟩ (fun w9 hp9 => ?_)
          obtain ⟨f1, rfl, hf1⟩ := hp9
          refine pw_goto C 189 d_CN_carry_90 (by decide) ?_
          refine pw_vret C zr zk d_CN_carry_189 ?_
          refine ca_up hb16 (tm_congr hf1 (fun y hy => cy_congr (fun x hx y hy => ?_) hy))
          have e : ct_f T ks ls ss R (d + 1) p = me_f false (ls p) T := by funext x y; exact if_pos hk
          rw [e]
          unfold mo_f
          cases b <;> rfl
        rcases hk with hk | hk
        · rw [hk]
          exact pw_tableIn C 72 d_CN_carry_27 (by decide) (by decide) rfl (by decide) L72
        · rw [hk]
          exact pw_tableIn C 72 d_CN_carry_27 (by decide) (by decide) rfl (by decide) L72
      · have hl : ¬ (ks p = 0 ∨ ks p = 7) := by rw [hk]; decide
        obtain ⟨hp1, -⟩ := hfl p hp hl
        have e : ct_f T ks ls ss R (d + 1) p = fun x y => ct_f T ks ls ss R d (p + 1) y x := by funext x y; exact (if_neg hl).trans (if_pos hk)
        rw [hk]
        refine pw_tableIn C 93 d_CN_carry_27 (by decide) (by decide) rfl (by decide) ?_
        cases b with
        | false =>
          refine pw_aload_n C d_CN_carry_93 rfl ?_
          refine pw_iload_n C d_CN_carry_94 rfl ?_
          refine pw_iconst C d_CN_carry_95 (v := 1) (by decide) ?_
          refine pw_iadd C d_CN_carry_96 ?_
          refine pw_iload_n C d_CN_carry_97 rfl ?_
          refine pw_if_ne C 105 d_CN_carry_98 (by decide) (fun h98 => ?_) (fun h98 => ?_)
          · exact absurd rfl h98
          refine pw_iconst C d_CN_carry_101 (v := 1) (by decide) ?_
          refine pw_goto C 106 d_CN_carry_102 (by decide) ?_
          refine pw_iload_n C d_CN_carry_106 rfl ?_
          refine pw_iconst C d_CN_carry_107 (v := 1) (by decide) ?_
          refine pw_iadd C d_CN_carry_108 ?_
          refine pw_aload C d_CN_carry_109 rfl ?_
          refine pw_aload C d_CN_carry_111 rfl ?_
          rw [nI_1 p, show nI (12 - (d + 1)) + 1 = nI (12 - d) from by rw [nI_1]; congr 1; omega]
          refine pw_callVv C (ih w (p + 1) true gi ii go io IN F cI cO hC hp1 hdi hwi hIN hdo hwo hF ⟨hgi.1, hgi.2.1, fun z => by have := hgi.2.2 z; omega⟩ ⟨hgo.1, hgo.2.1, fun z => by have := hgo.2.2 z; omega⟩ hio) (hX 12 0 rfl) w12e rfl ⟨pw_cb C 5 W_281 W_5 W_278 ⟨rfl, rfl⟩ (by decide +kernel) ⟨by show (2 * d + 5) + 1 ≤ 2 * (d + 1) + 5; omega, by show 8 + (6 + 11) + (53 * d + 120) ≤ 53 * (d + 1) + 120; omega⟩, pw_w C W_280, pw_w C V_14⟩ rfl rfl (Nat.le_of_ble_eq_true rfl) d_CN_carry_113 ⟨Nat.zero_le _, Nat.zero_le _⟩ (fun w9 hp9 => ?_)
          refine pw_goto C 189 d_CN_carry_116 (by decide) ?_
          refine pw_vret C zr zk d_CN_carry_189 ?_
          refine ca_mono hp9 (fun y hy => cy_congr (fun x hx y hy => ?_) hy)
          rw [e]
          rfl
        | true =>
          refine pw_aload_n C d_CN_carry_93 rfl ?_
          refine pw_iload_n C d_CN_carry_94 rfl ?_
          refine pw_iconst C d_CN_carry_95 (v := 1) (by decide) ?_
          refine pw_iadd C d_CN_carry_96 ?_
          refine pw_iload_n C d_CN_carry_97 rfl ?_
          refine pw_if_ne C 105 d_CN_carry_98 (by decide) (fun h98 => ?_) (fun h98 => ?_)
          · refine pw_iconst C d_CN_carry_105 (v := 0) (by decide) ?_
            refine pw_iload_n C d_CN_carry_106 rfl ?_
            refine pw_iconst C d_CN_carry_107 (v := 1) (by decide) ?_
            refine pw_iadd C d_CN_carry_108 ?_
            refine pw_aload C d_CN_carry_109 rfl ?_
            refine pw_aload C d_CN_carry_111 rfl ?_
            rw [nI_1 p, show nI (12 - (d + 1)) + 1 = nI (12 - d) from by rw [nI_1]; congr 1; omega]
            refine pw_callVv C (ih w (p + 1) false gi ii go io IN F cI cO hC hp1 hdi hwi hIN hdo hwo hF ⟨hgi.1, hgi.2.1, fun z => by have := hgi.2.2 z; omega⟩ ⟨hgo.1, hgo.2.1, fun z => by have := hgo.2.2 z; omega⟩ hio) (hX 12 0 rfl) w12e rfl ⟨pw_cb C 5 W_281 W_5 W_278 ⟨rfl, rfl⟩ (by decide +kernel) ⟨by show (2 * d + 5) + 1 ≤ 2 * (d + 1) + 5; omega, by show 8 + (6 + 11) + (53 * d + 120) ≤ 53 * (d + 1) + 120; omega⟩, pw_w C W_280, pw_w C V_14⟩ rfl rfl (Nat.le_of_ble_eq_true rfl) d_CN_carry_113 ⟨Nat.zero_le _, Nat.zero_le _⟩ (fun w9 hp9 => ?_)
            refine pw_goto C 189 d_CN_carry_116 (by decide) ?_
            refine pw_vret C zr zk d_CN_carry_189 ?_
            refine ca_mono hp9 (fun y hy => cy_congr (fun x hx y hy => ?_) hy)
            rw [e]
            rfl
          · exact absurd h98 (by decide)
      · have hl : ¬ (ks p = 0 ∨ ks p = 7) := by rw [hk]; decide
        obtain ⟨hp1, q, hq, -, hss, -⟩ := hfl p hp hl
        have e : ct_f T ks ls ss R (d + 1) p = fun x y => sg_f (fun z => ct_f T ks ls ss R d (p + 1) x z * ct_f T ks ls ss R d q z y) 64 := by
          funext x y
          refine (if_neg hl).trans ((if_neg (by rw [hk]; decide)).trans ((if_pos hk).trans ?_))
          rw [hss, nI_clamp (by omega)]
        rw [hk]
        refine pw_tableIn C 119 d_CN_carry_27 (by decide) (by decide) rfl (by decide) ?_
        refine pw_aload_n C d_CN_carry_119 rfl ?_
        refine pw_iload_n C d_CN_carry_120 rfl ?_
        refine pw_iload_n C d_CN_carry_121 rfl ?_
        refine pw_iload_n C d_CN_carry_122 rfl ?_
        refine pw_aload C d_CN_carry_123 rfl ?_
        refine pw_aload C d_CN_carry_125 rfl ?_
        refine pw_callVv C (k_CN_carryOverBoth l hI hX h40 (by omega) ih w b hC hp1 hq hss hdi hwi hIN hdo hwo hF hgi hgo hio) (hX 12 0 rfl) w12e rfl ⟨pw_cb C 5 W_304 W_5 W_301 ⟨rfl, rfl⟩ (by decide +kernel) ⟨by show (2 * d + 6) + 1 ≤ 2 * (d + 1) + 5; omega, by show 8 + (9 + 11) + (53 * d + 145) ≤ 53 * (d + 1) + 120; omega⟩, pw_w C W_303, pw_w C V_16⟩ rfl rfl (Nat.le_of_ble_eq_true rfl) d_CN_carry_127 ⟨Nat.zero_le _, Nat.zero_le _⟩ (fun w9 hp9 => ?_)
        refine pw_goto C 189 d_CN_carry_130 (by decide) ?_
        refine pw_vret C zr zk d_CN_carry_189 ?_
        rw [e]
        exact hp9
      · have hl : ¬ (ks p = 0 ∨ ks p = 7) := by rw [hk]; decide
        obtain ⟨hp1, q, hq, -, hss, -⟩ := hfl p hp hl
        have e : ct_f T ks ls ss R (d + 1) p = fun x y => ct_f T ks ls ss R d (p + 1) x y + ct_f T ks ls ss R d q x y := by
          funext x y
          refine (if_neg hl).trans ((if_neg (by rw [hk]; decide)).trans ((if_neg (by rw [hk]; decide)).trans ((if_pos hk).trans ?_)))
          rw [hss, nI_clamp (by omega)]
        rw [hk]
        refine pw_tableIn C 133 d_CN_carry_27 (by decide) (by decide) rfl (by decide) ?_
        refine pw_aload_n C d_CN_carry_133 rfl ?_
        refine pw_iload_n C d_CN_carry_134 rfl ?_
        refine pw_iconst C d_CN_carry_135 (v := 1) (by decide) ?_
        refine pw_iadd C d_CN_carry_136 ?_
        refine pw_iload_n C d_CN_carry_137 rfl ?_
        refine pw_iload_n C d_CN_carry_138 rfl ?_
        refine pw_iconst C d_CN_carry_139 (v := 1) (by decide) ?_
        refine pw_iadd C d_CN_carry_140 ?_
        refine pw_aload C d_CN_carry_141 rfl ?_
        refine pw_aload C d_CN_carry_143 rfl ?_
        rw [nI_1 p, show nI (12 - (d + 1)) + 1 = nI (12 - d) from by rw [nI_1]; congr 1; omega]
        refine pw_callVv C (ih w (p + 1) b gi ii go io IN F cI cO hC hp1 hdi hwi hIN hdo hwo hF ⟨hgi.1, hgi.2.1, fun z => by have := hgi.2.2 z; omega⟩ ⟨hgo.1, hgo.2.1, fun z => by have := hgo.2.2 z; omega⟩ hio) (hX 12 0 rfl) w12e rfl ⟨pw_cb C 5 W_281 W_5 W_278 ⟨rfl, rfl⟩ (by decide +kernel) ⟨by show (2 * d + 5) + 1 ≤ 2 * (d + 1) + 5; omega, by show 8 + (6 + 11) + (53 * d + 120) ≤ 53 * (d + 1) + 120; omega⟩, pw_w C W_280, pw_w C V_14⟩ rfl rfl (Nat.le_of_ble_eq_true rfl) d_CN_carry_145 ⟨Nat.zero_le _, Nat.zero_le _⟩ (fun w2 hp2 => ?_)
        obtain ⟨a1, a2, f1, a3, a4⟩ := hp2
        have hC2 : c_st X w2 T ks ls ss parts R st0 := c_st_of hC (fun g hg => funext fun i => a1 g i (fun z => by omega) (fun z => by omega)) a2
        have hi2 : w2 gi ii = aL X 64 IN := by rw [a1 gi ii hio (fun z => by have := hgi.2.2 z.1; omega)]; exact hwi
        obtain ⟨-, ⟨nn2, ft2, w4e2⟩, -, -, w8e2, -, -⟩ := hC2.1
        refine pw_aload_n C d_CN_carry_148 rfl ?_
        refine pw_aload_n C d_CN_carry_149 rfl ?_
        refine pw_get C d_CN_carry_150 (hX 12 0 rfl) hC2.2.1 1 rfl rfl (by decide) in_CN W_105 rfl ?_
        refine pw_getN C d_CN_carry_153 (hX 4 0 rfl) w4e2 3 rfl rfl (by decide) in_PA N_10 rfl ?_
        refine pw_iload_n C d_CN_carry_156 rfl ?_
        refine pw_ialdK C d_CN_carry_157 (hX 8 0 rfl) w8e2 (by omega) ?_
        rw [hss]
        refine pw_iload_n C d_CN_carry_158 rfl ?_
        refine pw_iload_n C d_CN_carry_159 rfl ?_
        refine pw_iconst C d_CN_carry_160 (v := 1) (by decide) ?_
        refine pw_iadd C d_CN_carry_161 ?_
        refine pw_aload C d_CN_carry_162 rfl ?_
        refine pw_aload C d_CN_carry_164 rfl ?_
        rw [show nI (12 - (d + 1)) + 1 = nI (12 - d) from by rw [nI_1]; congr 1; omega]
        refine pw_callVv C (ih w2 q b gi ii go io IN f1 cI _ hC2 hq hdi hi2 hIN hdo a3 a4 ⟨hgi.1, hgi.2.1, fun z => by have := hgi.2.2 z; omega⟩ ⟨hgo.1, hgo.2.1, fun z => by have := hgo.2.2 z; omega⟩ hio) (hX 12 0 rfl) hC2.2.1 rfl ⟨pw_cb C 5 W_281 W_5 W_278 ⟨rfl, rfl⟩ (by decide +kernel) ⟨by show (2 * d + 5) + 1 ≤ 2 * (d + 1) + 5; omega, by show 8 + (6 + 11) + (53 * d + 120) ≤ 53 * (d + 1) + 120; omega⟩, pw_w C W_280, pw_w C V_14⟩ rfl rfl (Nat.le_of_ble_eq_true rfl) d_CN_carry_166 ⟨Nat.zero_le _, Nat.zero_le _⟩ (fun w3 hp3 => ?_)
        refine pw_goto C 189 d_CN_carry_169 (by decide) ?_
        refine pw_vret C zr zk d_CN_carry_189 ?_
        obtain ⟨b1, b2, f3, b3, b4⟩ := hp3
        refine ⟨fun g i g1 g2 => ?_, b2, f3, b3, tm_congr b4 (fun y hy => ?_)⟩
        · rw [b1 g i g1 (fun z => g2 ⟨z.1, by omega⟩), a1 g i g1 (fun z => g2 ⟨z.1, by omega⟩)]
        · rw [cy_add]
          refine cy_congr (fun x hx y hy => ?_) hy
          rw [e]
          unfold mo_f
          cases b <;> rfl
      · rcases hk with hk | hk | hk
        · have hn : ¬ (ks p = 0 ∨ ks p = 7) ∧ ¬ ks p = 1 ∧ ¬ ks p = 2 ∧ ¬ ks p = 3 := by rw [hk]; decide
          rw [hk]
          exact pw_tableIn C 172 d_CN_carry_27 (by decide) (by decide) rfl (by decide) (L172 hn)
        · have hn : ¬ (ks p = 0 ∨ ks p = 7) ∧ ¬ ks p = 1 ∧ ¬ ks p = 2 ∧ ¬ ks p = 3 := by rw [hk]; decide
          rw [hk]
          exact pw_tableIn C 172 d_CN_carry_27 (by decide) (by decide) rfl (by decide) (L172 hn)
        · have hn : ¬ (ks p = 0 ∨ ks p = 7) ∧ ¬ ks p = 1 ∧ ¬ ks p = 2 ∧ ¬ ks p = 3 := by rw [hk]; decide
          rw [hk]
          exact pw_tableIn C 172 d_CN_carry_27 (by decide) (by decide) rfl (by decide) (L172 hn)
      · have hn : ¬ (ks p = 0 ∨ ks p = 7) ∧ ¬ ks p = 1 ∧ ¬ ks p = 2 ∧ ¬ ks p = 3 := by
          refine ⟨fun z => ?_, fun z => ?_, fun z => ?_, fun z => ?_⟩
          · rcases z with z | z <;> (rw [z] at hk; exact absurd hk (by decide))
          · rw [z] at hk; exact absurd hk (by decide)
          · rw [z] at hk; exact absurd hk (by decide)
          · rw [z] at hk; exact absurd hk (by decide)
        exact pw_tableOut C 172 d_CN_carry_27 hk (by decide) (L172 hn)
    · exact absurd (nI_lt hp (by omega)) h14
end
section
/-! THE CLASS'S STATE; Counts.from -/
/-- the cells of the class, what they hold -/
def pf_sh (X : Lay) (w : Wd) (T : Nat → Nat → Int64) (ne : Int32) (wd : Nat → Int32) (n parts : Nat) (ft : Int32) (ks ls ss : Nat → Int32) (rdy : Int32) (R : Nat → Nat → Int64) (st0 : Int32) (BF AF : Nat → Int64) : Prop :=
  w 0 0 = oB 4 [.ref (pw_a X 1 0), .ref (pw_a X 4 0), .ref (pw_a X 9 0), .ref (pw_a X 12 0)] ∧ g_rep X w T ne ∧ (w 4 0 = oB 2 [.ref (pw_a X 5 0), .ref (pw_a X 6 0), .ref (pw_a X 7 0), .ref (pw_a X 8 0), .int (nI n), .int (nI parts), .int ft] ∧ w 5 0 = aI X 60 wd ∧ w 6 0 = aI X 40 ks ∧ w 7 0 = aI X 40 ls ∧ w 8 0 = aI X 40 ss) ∧ (w 9 0 = oB 3 [.ref (pw_a X 1 0), .ref (pw_a X 4 0), .ref (pw_a X 10 0), .int rdy] ∧ (∃ f, w 10 0 = aQ X 40 f ∧ ∀ j, j < 40 → f j = some (pw_a X 11 j)) ∧ ∀ j, j < 40 → w 11 j = aL X 64 (R j)) ∧ w 12 0 = oB 0 [.ref (pw_a X 1 0), .ref (pw_a X 4 0), .ref (pw_a X 9 0), .ref (pw_a X 13 0), .ref (pw_a X 14 0), .ref (pw_a X 15 0), .int st0] ∧ w 13 0 = aL X 64 BF ∧ w 14 0 = aL X 64 AF ∧ (∃ f, w 15 0 = aQ X 12 f ∧ ∀ j, j < 12 → f j = some (pw_a X 16 j)) ∧ ∀ j, j < 12 → ∃ f, w 16 j = aL X 64 f
/-- the relations' rows are right -/
def rv_f (T : Nat → Nat → Int64) (ks ls ss : Nat → Int32) (R : Nat → Nat → Int64) (parts : Nat) : Prop := ∀ p, p < parts → ∀ x, x < 64 → ∀ y, y < 64 → (bt_f (R p x) y = true ↔ rl_f T ks ls ss R p x y)
/-- what is kept is right -/
def pf_ok (T : Nat → Nat → Int64) (parts : Nat) (ks ls ss : Nat → Int32) (rdy : Int32) (R : Nat → Nat → Int64) (st0 : Int32) (AF : Nat → Int64) : Prop :=
  (¬ rdy = 0 → rv_f T ks ls ss R parts) ∧ (¬ st0 = -1 → ¬ rdy = 0 ∧ ∃ i, i < 64 ∧ st0 = nI i ∧ tm_f AF (fun y => cp_f (ct_f T ks ls ss R 12 0 i y)))
theorem nI_m1 {i : Nat} (h : i < 64) : ¬ nI i = -1 := fun q => by
  have := nI_pos (n := i) (by omega)
  rw [q] at this
  exact this (by decide)
theorem v_of_sh {X : Lay} {w : Wd} {T : Nat → Nat → Int64} {ne : Int32} {wd : Nat → Int32} {n parts : Nat} {ft : Int32} {ks ls ss : Nat → Int32} {rdy : Int32} {R : Nat → Nat → Int64} {st0 : Int32} {BF AF : Nat → Int64} (h : pf_sh X w T ne wd n parts ft ks ls ss rdy R st0 BF AF) : v_rep X w T ks ls ss parts := by
  obtain ⟨-, a, ⟨b, -, c, d, e⟩, ⟨f, g, -⟩, -⟩ := h
  exact ⟨⟨ne, a⟩, ⟨nI n, ft, b⟩, c, d, e, ⟨rdy, f⟩, g⟩
set_option maxHeartbeats 4000000 in
set_option maxRecDepth 100000 in
theorem k_CN_from (l : Launch) {X : Lay} (hI : pw_I X) (hX : Dm X) (w : Wd) {T : Nat → Nat → Int64} {ne : Int32} {wd : Nat → Int32} {n parts : Nat} {ft : Int32} {ks ls ss : Nat → Int32} {rdy : Int32} {R : Nat → Nat → Int64} {st0 : Int32} {BF AF : Nat → Int64} (hS : pf_sh X w T ne wd n parts ft ks ls ss rdy R st0 BF AF) (hO : pf_ok T parts ks ls ss rdy R st0 AF) (h40 : parts ≤ 40) (h0 : 0 < parts) (hfl : fl_f ks ss parts) {i : Nat} (hi : i < 64) : CtR l y_CN_from (pw_ws y_CN_from c_CN_from 2 (some (.array .long))) { frames := 30, cells := 0, slots := 0, locals := 781 } X w [.ref (pw_a X 12 0), .int (nI i)] 14 0 (fun w1 => ∃ rdy1 R1 BF1 AF1, ¬ rdy1 = 0 ∧ pf_sh X w1 T ne wd n parts ft ks ls ss rdy1 R1 (nI i) BF1 AF1 ∧ pf_ok T parts ks ls ss rdy1 R1 (nI i) AF1 ∧ tm_f AF1 (fun y => cp_f (ct_f T ks ls ss R1 12 0 i y)) ∧ ∀ g, 16 < g → w1 g = w g) := by
  have hV := v_of_sh hS
  obtain ⟨s0, sg1, ⟨s4, s5, s6, s7, s8⟩, ⟨s9, s10, s11⟩, s12, s13, s14, s15, s16⟩ := id hS
  have d11 : ∀ j, j < 40 → pw_d X 11 j := fun j hj => hX 11 j (by simp [dm_k, hj])
  refine pw_open (by decide) hI [some (.ref (pw_a X 12 0)), some (.int (nI i))] rfl (Nat.le_of_ble_eq_true rfl) ?_
  intro zp ze zs zm za zb zt zc hargs C zr zk hnm
  refine pw_aload_n C d_CN_from_0 rfl ?_
  refine pw_get C d_CN_from_1 (hX 12 0 rfl) s12 6 rfl rfl (by decide) in_CN W_110 rfl ?_
  refine pw_iload_n C d_CN_from_4 rfl ?_
  refine pw_icmp_eq C 66 d_CN_from_5 (by decide) (fun h5 => ?_) (fun h5 => ?_)
  · refine pw_aload_n C d_CN_from_66 rfl ?_
    refine pw_get C d_CN_from_67 (hX 12 0 rfl) s12 4 rfl rfl (by decide) in_CN W_108 rfl ?_
    refine pw_aret C zr zk d_CN_from_70 ?_
    obtain ⟨g1, i2, g2, g3, g4⟩ := hO.2 (by rw [h5]; exact nI_m1 hi)
    have : i2 = i := (nI_eq (by omega) (by omega)).mp (g3.symm.trans h5)
    subst this
    subst h5
    exact ⟨rdy, R, BF, AF, g1, hS, hO, g4, fun g _ => rfl⟩
  · refine pw_iload_n C d_CN_from_8 rfl ?_
    refine pw_callSNi C (k_PF_isPoint l hI _ (nI i)) ⟨pw_cn C 1 W_153 W_1 N_29 ⟨rfl, rfl⟩ (by decide +kernel) ⟨(Nat.le_of_ble_eq_true rfl), (Nat.le_of_ble_eq_true rfl)⟩, pw_w C W_152, trivial⟩ rfl rfl (Nat.le_of_ble_eq_true rfl) d_CN_from_9 ⟨Nat.zero_le _, Nat.zero_le _⟩ (fun r w9 hp => ?_)
    obtain ⟨e9, hp⟩ := hp
    refine MW.world e9 ?_
    refine pw_if_eq C 66 d_CN_from_12 (by decide) (fun h12 => ?_) (fun h12 => ?_)
    · exact absurd ⟨i, hi, rfl⟩ (yn_f hp h12)
    refine pw_aload_n C d_CN_from_15 rfl ?_
    refine pw_get C d_CN_from_16 (hX 12 0 rfl) s12 2 rfl rfl (by decide) in_CN W_106 rfl ?_
    refine MW.world (r_id s11).symm ?_
    refine pw_callVNr C (k_RE_ofPath l hI hX w (R := R) hV h40 (fun _ => hfl) s9) (hX 9 0 rfl) (by rw [r_row (by decide)]; exact s9) rfl ⟨pw_cn C 0 W_238 W_4 N_30 ⟨rfl, rfl⟩ (by decide +kernel) ⟨(Nat.le_of_ble_eq_true rfl), (Nat.le_of_ble_eq_true rfl)⟩, pw_w C W_237, pw_w C V_11⟩ rfl rfl (Nat.le_of_ble_eq_true rfl) d_CN_from_19 ⟨Nat.zero_le _, Nat.zero_le _⟩ (fun w1 hp1 => ?_)
    obtain ⟨rdy1, R1, hr1, hw1e, hrv⟩ : ∃ rdy1 R1, ¬ rdy1 = 0 ∧ w1 = r_w X (pw_up w 9 0 (oB 3 [.ref (pw_a X 1 0), .ref (pw_a X 4 0), .ref (pw_a X 10 0), .int rdy1])) R1 ∧ rv_f T ks ls ss R1 parts := by
      rcases hp1 with ⟨a, b⟩ | ⟨a, R1, b, -, c⟩
      · exact ⟨rdy, R, a, by rw [b, pw_up_id w s9], hO.1 a⟩
      · exact ⟨1, R1, by decide, b, c⟩
    have t9 : w1 9 0 = oB 3 [.ref (pw_a X 1 0), .ref (pw_a X 4 0), .ref (pw_a X 10 0), .int rdy1] := by rw [hw1e, r_row (by decide), pw_up_self]
    have t11 : ∀ j, j < 40 → w1 11 j = aL X 64 (R1 j) := fun j hj => by rw [hw1e, r_get hj]
    have tt : ∀ g, g ≠ 9 → g ≠ 11 → w1 g = w g := fun g g1 g2 => by rw [hw1e, r_row g2, pw_up_row _ _ g1]
    clear hp1 hw1e
    refine pw_pop C d_CN_from_22 rfl ?_
    refine pw_aload_n C d_CN_from_23 rfl ?_
    refine pw_get C d_CN_from_24 (hX 12 0 rfl) (by rw [tt 12 (by decide) (by decide)]; exact s12) 3 rfl rfl (by decide) in_CN W_107 rfl ?_
    refine pw_lconst C d_CN_from_27 (v := 0) (by decide) ?_
    refine pw_callSv C (k_AR_fill l hI _ 0 (n := 64) (by decide) (hX 13 0 rfl) (by rw [tt 13 (by decide) (by decide)]; exact s13)) ⟨pw_cb C 2 W_245 W_7 W_277 ⟨rfl, rfl⟩ (by decide +kernel) ⟨(Nat.le_of_ble_eq_true rfl), (Nat.le_of_ble_eq_true rfl)⟩, pw_w C W_244⟩ rfl rfl (Nat.le_of_ble_eq_true rfl) d_CN_from_28 ⟨Nat.zero_le _, Nat.zero_le _⟩ (fun w9 hp2 => ?_)
    obtain ⟨f0, e9, hf0⟩ := hp2
    refine MW.world e9 ?_
    refine pw_aload_n C d_CN_from_31 rfl ?_
    refine pw_get C d_CN_from_32 (hX 12 0 rfl) (by rw [pw_up_g _ _ (by decide), tt 12 (by decide) (by decide)]; exact s12) 4 rfl rfl (by decide) in_CN W_108 rfl ?_
    refine pw_lconst C d_CN_from_35 (v := 0) (by decide) ?_
    refine pw_callSv C (k_AR_fill l hI _ 0 (n := 64) (by decide) (hX 14 0 rfl) (by rw [pw_up_g _ _ (by decide), tt 14 (by decide) (by decide)]; exact s14)) ⟨pw_cb C 2 W_245 W_7 W_277 ⟨rfl, rfl⟩ (by decide +kernel) ⟨(Nat.le_of_ble_eq_true rfl), (Nat.le_of_ble_eq_true rfl)⟩, pw_w C W_244⟩ rfl rfl (Nat.le_of_ble_eq_true rfl) d_CN_from_36 ⟨Nat.zero_le _, Nat.zero_le _⟩ (fun w9 hp3 => ?_)
    obtain ⟨f2, e9, hf2⟩ := hp3
    refine MW.world e9 ?_
    refine pw_aload_n C d_CN_from_39 rfl ?_
    refine pw_get C d_CN_from_40 (hX 12 0 rfl) (by rw [pw_up_g _ _ (by decide), pw_up_g _ _ (by decide), tt 12 (by decide) (by decide)]; exact s12) 3 rfl rfl (by decide) in_CN W_107 rfl ?_
    refine pw_iload_n C d_CN_from_43 rfl ?_
    refine pw_lconst C d_CN_from_44 (v := 1) (by decide) ?_
    refine pw_lastK C d_CN_from_45 (hX 13 0 rfl) (by rw [pw_up_g _ _ (by decide)]; exact pw_up_self _ _ _ _) hi ?_
    have u0 : ∀ g, g ≠ 9 → g ≠ 11 → g ≠ 13 → g ≠ 14 → pw_up (pw_up (pw_up w1 13 0 (aL X 64 f0)) 14 0 (aL X 64 f2)) 13 0 (aL X 64 (vp_updL f0 i 1)) g = w g := fun g g1 g2 g3 g4 => by rw [pw_up_row _ _ g3, pw_up_row _ _ g4, pw_up_row _ _ g3, tt g g1 g2]
    have u9 : pw_up (pw_up (pw_up w1 13 0 (aL X 64 f0)) 14 0 (aL X 64 f2)) 13 0 (aL X 64 (vp_updL f0 i 1)) 9 = w1 9 := by rw [pw_up_row _ _ (by decide), pw_up_row _ _ (by decide), pw_up_row _ _ (by decide)]
    have u11 : pw_up (pw_up (pw_up w1 13 0 (aL X 64 f0)) 14 0 (aL X 64 f2)) 13 0 (aL X 64 (vp_updL f0 i 1)) 11 = w1 11 := by rw [pw_up_row _ _ (by decide), pw_up_row _ _ (by decide), pw_up_row _ _ (by decide)]
    have u13 : pw_up (pw_up (pw_up w1 13 0 (aL X 64 f0)) 14 0 (aL X 64 f2)) 13 0 (aL X 64 (vp_updL f0 i 1)) 13 0 = aL X 64 (vp_updL f0 i 1) := pw_up_self _ _ _ _
    have u14 : pw_up (pw_up (pw_up w1 13 0 (aL X 64 f0)) 14 0 (aL X 64 f2)) 13 0 (aL X 64 (vp_updL f0 i 1)) 14 0 = aL X 64 f2 := by rw [pw_up_g _ _ (by decide), pw_up_self]
    generalize pw_up (pw_up (pw_up w1 13 0 (aL X 64 f0)) 14 0 (aL X 64 f2)) 13 0 (aL X 64 (vp_updL f0 i 1)) = w4 at u0 u9 u11 u13 u14 ⊢
    have hC : c_st X w4 T ks ls ss parts R1 st0 := by
      refine ⟨⟨⟨ne, g_rep_of sg1 (u0 1 (by decide) (by decide) (by decide) (by decide)) (u0 2 (by decide) (by decide) (by decide) (by decide)) (u0 3 (by decide) (by decide) (by decide) (by decide))⟩, ⟨nI n, ft, ?_⟩, ?_, ?_, ?_, ⟨rdy1, ?_⟩, ?_⟩, ?_, fun j hj => ?_, ?_, fun j hj => ?_⟩
      · rw [u0 4 (by decide) (by decide) (by decide) (by decide)]; exact s4
      · rw [u0 6 (by decide) (by decide) (by decide) (by decide)]; exact s6
      · rw [u0 7 (by decide) (by decide) (by decide) (by decide)]; exact s7
      · rw [u0 8 (by decide) (by decide) (by decide) (by decide)]; exact s8
      · rw [u9]; exact t9
      · rw [u0 10 (by decide) (by decide) (by decide) (by decide)]; exact s10
      · rw [u0 12 (by decide) (by decide) (by decide) (by decide)]; exact s12
      · rw [u11]; exact t11 j hj
      · rw [u0 15 (by decide) (by decide) (by decide) (by decide)]; exact s15
      · rw [u0 16 (by decide) (by decide) (by decide) (by decide)]; exact s16 j hj
    have hin : tm_f (vp_updL f0 i 1) (fun j => if j = i then 1 else 0) := fun j hj => by
      by_cases q : j = i
      · subst q; rw [pk_uLs]; exact ⟨by simp; rfl, by simp [C15]⟩
      · rw [pk_uLn q, hf0 j hj]; exact ⟨by simp [q]; rfl, by simp [q]⟩
    have hout : tm_f f2 (fun _ => 0) := fun j hj => ⟨hf2 j hj, Nat.zero_le _⟩
    refine pw_aload_n C d_CN_from_46 rfl ?_
    refine pw_iconst C d_CN_from_47 (v := 0) (by decide) ?_
    refine pw_iconst C d_CN_from_48 (v := 0) (by decide) ?_
    refine pw_iconst C d_CN_from_49 (v := 0) (by decide) ?_
    refine pw_aload_n C d_CN_from_50 rfl ?_
    refine pw_get C d_CN_from_51 (hX 12 0 rfl) hC.2.1 3 rfl rfl (by decide) in_CN W_107 rfl ?_
    refine pw_aload_n C d_CN_from_54 rfl ?_
    refine pw_get C d_CN_from_55 (hX 12 0 rfl) hC.2.1 4 rfl rfl (by decide) in_CN W_108 rfl ?_
    refine pw_callVv C (k_CN_carry l hI hX h40 hfl 12 (Nat.le_refl 12) w4 0 false 13 0 14 0 _ _ _ _ hC h0 (hX 13 0 rfl) u13 hin (hX 14 0 rfl) u14 hout ⟨by decide, by decide, fun z => absurd z (by decide)⟩ ⟨by decide, by decide, fun z => absurd z (by decide)⟩ (fun z => absurd z.1 (by decide))) (hX 12 0 rfl) hC.2.1 rfl ⟨pw_cb C 5 W_281 W_5 W_278 ⟨rfl, rfl⟩ (by decide +kernel) ⟨(Nat.le_of_ble_eq_true rfl), (Nat.le_of_ble_eq_true rfl)⟩, pw_w C W_280, pw_w C V_14⟩ rfl rfl (Nat.le_of_ble_eq_true rfl) d_CN_from_58 ⟨Nat.zero_le _, Nat.zero_le _⟩ (fun w5 hp5 => ?_)
    obtain ⟨a1, a2, f5, a3, a4⟩ := hp5
    have v0 : ∀ g, g ≠ 14 → g ≠ 16 → w5 g = w4 g := fun g g1 g2 => funext fun j => a1 g j (fun z => g1 z.1) (fun z => g2 z.1)
    refine pw_aload_n C d_CN_from_61 rfl ?_
    refine pw_iload_n C d_CN_from_62 rfl ?_
    refine pw_put C d_CN_from_63 (hX 12 0 rfl) (by rw [v0 12 (by decide) (by decide)]; exact hC.2.1) 6 (Nat.le_of_ble_eq_true rfl) rfl (by decide) in_CN t_CN tk_CN n_CN W_110 rfl rfl (tk_CN 6 (by decide)) rfl rfl ?_
    refine MW.world (w' := pw_up w5 12 0 (oB 0 [.ref (pw_a X 1 0), .ref (pw_a X 4 0), .ref (pw_a X 9 0), .ref (pw_a X 13 0), .ref (pw_a X 14 0), .ref (pw_a X 15 0), .int (nI i)])) rfl ?_
    refine pw_aload_n C d_CN_from_66 rfl ?_
    refine pw_get C d_CN_from_67 (hX 12 0 rfl) (pw_up_self _ 12 0 _) 4 rfl rfl (by decide) in_CN W_108 rfl ?_
    refine pw_aret C zr zk d_CN_from_70 ?_
    have hA : tm_f f5 (fun y => cp_f (ct_f T ks ls ss R1 12 0 i y)) := tm_congr a4 (fun y hy => by
      unfold cy_f
      rw [sg_one _ hi (fun x hx hne => by simp [hne]), Nat.zero_add]
      simp
      rfl)
    have x0 : ∀ g, g ≠ 9 → g ≠ 11 → g ≠ 12 → g ≠ 13 → g ≠ 14 → g ≠ 16 → pw_up w5 12 0 (oB 0 [.ref (pw_a X 1 0), .ref (pw_a X 4 0), .ref (pw_a X 9 0), .ref (pw_a X 13 0), .ref (pw_a X 14 0), .ref (pw_a X 15 0), .int (nI i)]) g = w g := fun g g1 g2 g3 g4 g5 g6 => by rw [pw_up_row _ _ g3, v0 g g5 g6, u0 g g1 g2 g4 g5]
    refine ⟨rdy1, R1, vp_updL f0 i 1, f5, hr1, ⟨?_, g_rep_of sg1 (x0 1 (by decide) (by decide) (by decide) (by decide) (by decide) (by decide)) (x0 2 (by decide) (by decide) (by decide) (by decide) (by decide) (by decide)) (x0 3 (by decide) (by decide) (by decide) (by decide) (by decide) (by decide)), ⟨?_, ?_, ?_, ?_, ?_⟩, ⟨?_, ?_, fun j hj => ?_⟩, pw_up_self _ _ _ _, ?_, ?_, ?_, fun j hj => ?_⟩, ⟨fun _ => hrv, fun _ => ⟨hr1, i, hi, rfl, hA⟩⟩, hA, fun g hg => x0 g (by omega) (by omega) (by omega) (by omega) (by omega) (by omega)⟩
    · rw [x0 0 (by decide) (by decide) (by decide) (by decide) (by decide) (by decide)]; exact s0
    · rw [x0 4 (by decide) (by decide) (by decide) (by decide) (by decide) (by decide)]; exact s4
    · rw [x0 5 (by decide) (by decide) (by decide) (by decide) (by decide) (by decide)]; exact s5
    · rw [x0 6 (by decide) (by decide) (by decide) (by decide) (by decide) (by decide)]; exact s6
    · rw [x0 7 (by decide) (by decide) (by decide) (by decide) (by decide) (by decide)]; exact s7
    · rw [x0 8 (by decide) (by decide) (by decide) (by decide) (by decide) (by decide)]; exact s8
    · rw [pw_up_g _ _ (by decide), v0 9 (by decide) (by decide), u9]; exact t9
    · rw [x0 10 (by decide) (by decide) (by decide) (by decide) (by decide) (by decide)]; exact s10
    · rw [pw_up_g _ _ (by decide), v0 11 (by decide) (by decide), u11]; exact t11 j hj
    · rw [pw_up_g _ _ (by decide), v0 13 (by decide) (by decide)]; exact u13
    · rw [pw_up_g _ _ (by decide)]; exact a3
    · rw [x0 15 (by decide) (by decide) (by decide) (by decide) (by decide) (by decide)]; exact s15
    · rw [pw_up_g _ _ (by decide)]; exact a2 j hj
end
section
/-! WHAT A PATH MEANS: how many times it is found, by its words alone -/
def en_f (wd : Nat → Int32) : Nat → Nat → Nat
  | 0, a => a
  | d + 1, a => if wd a = 0 ∨ wd a = 7 then a + 2 else if wd a = 2 ∨ wd a = 3 then en_f wd d (en_f wd d (a + 1)) else en_f wd d (a + 1)
def nz_f (M : Nat → Nat → Nat) (x y : Nat) : Bool := decide (M x y ≠ 0)
def cn_f (T : Nat → Nat → Int64) (wd : Nat → Int32) : Nat → Nat → Nat → Nat → Nat
  | 0, _, _, _ => 0
  | d + 1, a, x, y =>
    if wd a = 0 ∨ wd a = 7 then me_f false (lb_f (wd a) (wd (a + 1))) T x y
    else if wd a = 1 then cn_f T wd d (a + 1) y x
    else if wd a = 2 then sg_f (fun z => cn_f T wd d (a + 1) x z * cn_f T wd d (en_f wd d (a + 1)) z y) 64
    else if wd a = 3 then cn_f T wd d (a + 1) x y + cn_f T wd d (en_f wd d (a + 1)) x y
    else if wd a = 4 then (if nz_f (cn_f T wd d (a + 1)) x y = true ∨ y = x then 1 else 0)
    else if wd a = 5 then (if wz_f (nz_f (cn_f T wd d (a + 1))) 64 x y = true ∨ y = x then 1 else 0)
    else if wd a = 6 then (if wz_f (nz_f (cn_f T wd d (a + 1))) 64 x y = true then 1 else 0)
    else 0
theorem sg_ne (f : Nat → Nat) : ∀ n, sg_f f n ≠ 0 ↔ ∃ i, i < n ∧ f i ≠ 0
  | 0 => ⟨fun h => absurd rfl h, fun ⟨i, hi, _⟩ => absurd hi (Nat.not_lt_zero i)⟩
  | n + 1 => by
    have ih := sg_ne f n
    show sg_f f n + f n ≠ 0 ↔ _
    constructor
    · intro h
      by_cases q : f n = 0
      · obtain ⟨i, h1, h2⟩ := ih.mp (by omega)
        exact ⟨i, by omega, h2⟩
      · exact ⟨n, by omega, q⟩
    · rintro ⟨i, h1, h2⟩
      by_cases q : i = n
      · subst q; omega
      · have := ih.mpr ⟨i, by omega, h2⟩
        omega
theorem if10 (c : Prop) [Decidable c] : (if c then 1 else 0 : Nat) ≠ 0 ↔ c := by
  by_cases h : c <;> simp [h]
theorem me_ne (v : Int32) (T : Nat → Nat → Int64) (x y : Nat) : me_f false v T x y ≠ 0 ↔ ∃ b, b < 8 ∧ bt_f v.toInt64 b = true ∧ bt_f (T b x) y = true := by
  unfold me_f
  rw [sg_ne]
  constructor
  · rintro ⟨i, h1, h2⟩
    by_cases q : bt_f v.toInt64 i = true
    · rw [if_pos q] at h2
      unfold ma_f at h2
      by_cases q2 : bt_f (T i x) y = true
      · exact ⟨i, h1, q, q2⟩
      · simp [q2] at h2
    · rw [if_neg q] at h2; exact absurd rfl h2
  · rintro ⟨i, h1, h2, h3⟩
    refine ⟨i, h1, ?_⟩
    rw [if_pos h2]
    unfold ma_f
    simp [h3]
theorem ma_eq {R : Nat → Int64} {x y c : Nat} (h : bt_f (R x) y = true ↔ c ≠ 0) (h1 : c = 0 ∨ c = 1) : ma_f false R x y = c := by
  unfold ma_f
  by_cases q : bt_f (R x) y = true
  · have := h.mp q
    simp [q]; omega
  · have : ¬ c ≠ 0 := fun z => q (h.mpr z)
    simp [q]; omega
set_option maxHeartbeats 4000000 in
theorem sm_all {T : Nat → Nat → Int64} {wd ks ls ss : Nat → Int32} {R : Nat → Nat → Int64} {parts : Nat} (hrv : rv_f T ks ls ss R parts) (h40 : parts ≤ 40) : ∀ (d a t b t1 : Nat), tb_f wd ks ls ss d a t b t1 → t1 ≤ parts →
    en_f wd d a = b ∧ (∀ x, x < 64 → ∀ y, y < 64 → ct_f T ks ls ss R d t x y = cn_f T wd d a x y) ∧ (∀ x, x < 64 → ∀ y, y < 64 → (bt_f (R t x) y = true ↔ cn_f T wd d a x y ≠ 0))
  | 0, _, _, _, _, h, _ => h.elim
  | d + 1, a, t, b, t1, h, ht => by
    have hlt := tb_lt wd ks ls ss (d + 1) a t b t1 h
    have hR := hrv t (by omega)
    obtain ⟨h0, h1, h2, h3⟩ := h
    by_cases c : wd a = 0 ∨ wd a = 7
    · obtain ⟨g1, g2, g3⟩ := h1 c
      have ck : ks t = 0 ∨ ks t = 7 := by rw [h0]; exact c
      have e : ∀ x y, cn_f T wd (d + 1) a x y = me_f false (ls t) T x y := fun x y => by rw [g3]; exact if_pos c
      refine ⟨(if_pos c).trans g1.symm, fun x hx y hy => ?_, fun x hx y hy => ?_⟩
      · rw [e]; exact if_pos ck
      · rw [hR x hx y hy, e, me_ne]
        unfold rl_f
        simp [ck]
    · have ck : ¬ (ks t = 0 ∨ ks t = 7) := by rw [h0]; exact c
      by_cases c2 : wd a = 2 ∨ wd a = 3
      · obtain ⟨b1, t2, g1, g2, g3⟩ := h2 c c2
        have l1 := tb_lt wd ks ls ss d _ _ _ _ g1
        have l2 := tb_lt wd ks ls ss d _ _ _ _ g3
        obtain ⟨p1, p2, p3⟩ := sm_all hrv h40 d _ _ _ _ g1 (by omega)
        obtain ⟨q1, q2, q3⟩ := sm_all hrv h40 d _ _ _ _ g3 ht
        have hq : (ss t).toNatClampNeg = t2 := by rw [g2]; exact nI_clamp (by omega)
        have n1 : ¬ wd a = 1 := fun z => by rw [z] at c2; exact absurd c2 (by decide)
        have ee : en_f wd (d + 1) a = b := (if_neg c).trans ((if_pos c2).trans (by rw [p1, q1]))
        rcases c2 with k2 | k3
        · have e : ∀ x y, cn_f T wd (d + 1) a x y = sg_f (fun z => cn_f T wd d (a + 1) x z * cn_f T wd d b1 z y) 64 := fun x y => (if_neg c).trans ((if_neg n1).trans ((if_pos k2).trans (by rw [p1])))
          refine ⟨ee, fun x hx y hy => ?_, fun x hx y hy => ?_⟩
          · rw [e]
            refine (if_neg ck).trans ((if_neg (by rw [h0]; exact n1)).trans ((if_pos (by rw [h0]; exact k2)).trans ?_))
            rw [hq]
            exact sg_congr (fun z hz => by rw [p2 x hx z hz, q2 z hz y hy])
          · rw [hR x hx y hy, e, sg_ne]
            unfold rl_f rs_f
            rw [hq, h0, k2]
            simp only [show ¬ ((2 : Int32) = 0 ∨ (2 : Int32) = 7) by decide, false_and, false_or, not_false_eq_true, true_and, show ¬ (2 : Int32) = 1 by decide, show ¬ (2 : Int32) = 3 by decide, show ¬ (2 : Int32) = 4 by decide, show ¬ (2 : Int32) = 5 by decide, show ¬ (2 : Int32) = 6 by decide, or_false]
            constructor
            · rintro ⟨z, hz, z1, z2⟩
              exact ⟨z, hz, Nat.mul_ne_zero ((p3 x hx z hz).mp z1) ((q3 z hz y hy).mp z2)⟩
            · rintro ⟨z, hz, z1⟩
              exact ⟨z, hz, (p3 x hx z hz).mpr (fun q => z1 (by rw [q, Nat.zero_mul])), (q3 z hz y hy).mpr (fun q => z1 (by rw [q, Nat.mul_zero]))⟩
        · have n2 : ¬ wd a = 2 := fun z => by rw [z] at k3; exact absurd k3 (by decide)
          have e : ∀ x y, cn_f T wd (d + 1) a x y = cn_f T wd d (a + 1) x y + cn_f T wd d b1 x y := fun x y => (if_neg c).trans ((if_neg n1).trans ((if_neg n2).trans ((if_pos k3).trans (by rw [p1]))))
          refine ⟨ee, fun x hx y hy => ?_, fun x hx y hy => ?_⟩
          · rw [e]
            refine (if_neg ck).trans ((if_neg (by rw [h0]; exact n1)).trans ((if_neg (by rw [h0]; exact n2)).trans ((if_pos (by rw [h0]; exact k3)).trans ?_)))
            rw [hq, p2 x hx y hy, q2 x hx y hy]
          · rw [hR x hx y hy, e]
            unfold rl_f rs_f
            rw [hq, h0, k3]
            simp only [show ¬ ((3 : Int32) = 0 ∨ (3 : Int32) = 7) by decide, false_and, false_or, not_false_eq_true, true_and, show ¬ (3 : Int32) = 1 by decide, show ¬ (3 : Int32) = 2 by decide, show ¬ (3 : Int32) = 4 by decide, show ¬ (3 : Int32) = 5 by decide, show ¬ (3 : Int32) = 6 by decide, or_false]
            rw [p3 x hx y hy, q3 x hx y hy]
            omega
      · obtain ⟨g1, g2⟩ := h3 c c2
        have l1 := tb_lt wd ks ls ss d _ _ _ _ g2
        obtain ⟨p1, p2, p3⟩ := sm_all hrv h40 d _ _ _ _ g2 ht
        have n2 : ¬ wd a = 2 := fun z => c2 (Or.inl z)
        have n3 : ¬ wd a = 3 := fun z => c2 (Or.inr z)
        have ee : en_f wd (d + 1) a = b := (if_neg c).trans ((if_neg c2).trans p1)
        have hbm : ∀ x, x < 64 → ∀ y, y < 64 → bm_f (R (t + 1)) x y = nz_f (cn_f T wd d (a + 1)) x y := fun x hx y hy => by
          have := p3 x hx y hy
          unfold bm_f nz_f
          by_cases q : bt_f (R (t + 1) x) y = true
          · rw [q]; exact (decide_eq_true (this.mp q)).symm
          · have q2 : ¬ cn_f T wd d (a + 1) x y ≠ 0 := fun z => q (this.mpr z)
            rw [Bool.not_eq_true] at q
            rw [q]; exact (decide_eq_false q2).symm
        have hwz : ∀ x, x < 64 → ∀ y, y < 64 → wz_f (bm_f (R (t + 1))) 64 x y = wz_f (nz_f (cn_f T wd d (a + 1))) 64 x y := fun x hx y hy => wz_congr hbm 64 (Nat.le_refl 64) x hx y hy
        by_cases k1 : wd a = 1
        · have e : ∀ x y, cn_f T wd (d + 1) a x y = cn_f T wd d (a + 1) y x := fun x y => (if_neg c).trans (if_pos k1)
          refine ⟨ee, fun x hx y hy => ?_, fun x hx y hy => ?_⟩
          · rw [e, ← p2 y hy x hx]
            exact (if_neg ck).trans (if_pos (by rw [h0]; exact k1))
          · rw [hR x hx y hy, e, ← p3 y hy x hx]
            unfold rl_f rs_f
            rw [h0, k1]
            simp
        · have hct : ∀ x y, ct_f T ks ls ss R (d + 1) t x y = ma_f false (R t) x y := fun x y => (if_neg ck).trans ((if_neg (by rw [h0]; exact k1)).trans ((if_neg (by rw [h0]; exact n2)).trans (if_neg (by rw [h0]; exact n3))))
          have key : ∀ x, x < 64 → ∀ y, y < 64 → (bt_f (R t x) y = true ↔ cn_f T wd (d + 1) a x y ≠ 0) ∧ (cn_f T wd (d + 1) a x y = 0 ∨ cn_f T wd (d + 1) a x y = 1) := by
            intro x hx y hy
            have hr := hR x hx y hy
            unfold rl_f rs_f at hr
            rw [h0] at hr
            by_cases k4 : wd a = 4
            · have e : cn_f T wd (d + 1) a x y = if nz_f (cn_f T wd d (a + 1)) x y = true ∨ y = x then 1 else 0 := (if_neg c).trans ((if_neg k1).trans ((if_neg n2).trans ((if_neg n3).trans (if_pos k4))))
              rw [e, if10]
              refine ⟨?_, by split <;> simp⟩
              rw [hr, k4, ← hbm x hx y hy]
              unfold bm_f
              simp
            · by_cases k5 : wd a = 5
              · have e : cn_f T wd (d + 1) a x y = if wz_f (nz_f (cn_f T wd d (a + 1))) 64 x y = true ∨ y = x then 1 else 0 := (if_neg c).trans ((if_neg k1).trans ((if_neg n2).trans ((if_neg n3).trans ((if_neg k4).trans (if_pos k5)))))
                rw [e, if10]
                refine ⟨?_, by split <;> simp⟩
                rw [hr, k5, ← hwz x hx y hy]
                simp
              · by_cases k6 : wd a = 6
                · have e : cn_f T wd (d + 1) a x y = if wz_f (nz_f (cn_f T wd d (a + 1))) 64 x y = true then 1 else 0 := (if_neg c).trans ((if_neg k1).trans ((if_neg n2).trans ((if_neg n3).trans ((if_neg k4).trans ((if_neg k5).trans (if_pos k6))))))
                  rw [e, if10]
                  refine ⟨?_, by split <;> simp⟩
                  rw [hr, k6, ← hwz x hx y hy]
                  simp
                · have e : cn_f T wd (d + 1) a x y = 0 := (if_neg c).trans ((if_neg k1).trans ((if_neg n2).trans ((if_neg n3).trans ((if_neg k4).trans ((if_neg k5).trans (if_neg k6))))))
                  rw [e]
                  refine ⟨?_, Or.inl rfl⟩
                  rw [hr]
                  simp [c, k1, n2, n3, k4, k5, k6]
          refine ⟨ee, fun x hx y hy => ?_, fun x hx y hy => (key x hx y hy).1⟩
          rw [hct]
          exact ma_eq (key x hx y hy).1 (key x hx y hy).2
end
section
/-! THE CLASS'S PUBLIC METHODS -/
def pf_st (X : Lay) (w : Wd) (T : Nat → Nat → Int64) (ne : Int32) (wd : Nat → Int32) (n : Nat) : Prop :=
  ∃ parts ks ls ss rdy R st0 BF AF, pf_sh X w T ne wd n parts (lk_f wd n) ks ls ss rdy R st0 BF AF ∧ n ≤ 60 ∧ p_st wd n parts ks ls ss ∧ pf_ok T parts ks ls ss rdy R st0 AF
theorem p_id {X : Lay} {w : Wd} {T : Nat → Nat → Int64} {ne : Int32} {wd : Nat → Int32} {n parts : Nat} {ft : Int32} {ks ls ss : Nat → Int32} {rdy : Int32} {R : Nat → Nat → Int64} {st0 : Int32} {BF AF : Nat → Int64} (h : pf_sh X w T ne wd n parts ft ks ls ss rdy R st0 BF AF) : p_w X w wd (nI n) (nI parts) ft ks ls ss = w := by
  obtain ⟨-, -, ⟨s4, s5, s6, s7, s8⟩, -⟩ := h
  funext g i
  by_cases hi : i = 0
  · subst hi
    by_cases h4 : g = 4
    · subst h4; exact s4.symm
    · by_cases h5 : g = 5
      · subst h5; exact s5.symm
      · by_cases h6 : g = 6
        · subst h6; exact s6.symm
        · by_cases h7 : g = 7
          · subst h7; exact s7.symm
          · by_cases h8 : g = 8
            · subst h8; exact s8.symm
            · simp only [p_w, h4, h5, h6, h7, h8, if_true, if_false]
  · simp only [p_w, hi, if_false]
theorem sh_path {X : Lay} {w : Wd} {T : Nat → Nat → Int64} {ne : Int32} {wd : Nat → Int32} {n parts : Nat} {ft : Int32} {ks ls ss : Nat → Int32} {rdy : Int32} {R : Nat → Nat → Int64} {st0 : Int32} {BF AF : Nat → Int64} (h : pf_sh X w T ne wd n parts ft ks ls ss rdy R st0 BF AF) (wd1 : Nat → Int32) (n1 t1 : Nat) (f1 : Int32) (k1 l1 s1 : Nat → Int32) : pf_sh X (p_w X w wd1 (nI n1) (nI t1) f1 k1 l1 s1) T ne wd1 n1 t1 f1 k1 l1 s1 rdy R st0 BF AF := by
  obtain ⟨s0, sg, -, ⟨s9, s10, s11⟩, s12, s13, s14, s15, s16⟩ := h
  have x : ∀ g, g < 4 ∨ 8 < g → p_w X w wd1 (nI n1) (nI t1) f1 k1 l1 s1 g = w g := fun g hg => p_row (by omega) (by omega) (by omega) (by omega) (by omega)
  refine ⟨by rw [x 0 (by decide)]; exact s0, g_rep_of sg (x 1 (by decide)) (x 2 (by decide)) (x 3 (by decide)), ⟨rfl, rfl, rfl, rfl, rfl⟩, ⟨by rw [x 9 (by decide)]; exact s9, by rw [x 10 (by decide)]; exact s10, fun j hj => by rw [x 11 (by decide)]; exact s11 j hj⟩, by rw [x 12 (by decide)]; exact s12, by rw [x 13 (by decide)]; exact s13, by rw [x 14 (by decide)]; exact s14, by rw [x 15 (by decide)]; exact s15, fun j hj => by rw [x 16 (by decide)]; exact s16 j hj⟩
theorem sh_graph {X : Lay} {w : Wd} {T : Nat → Nat → Int64} {ne : Int32} {wd : Nat → Int32} {n parts : Nat} {ft : Int32} {ks ls ss : Nat → Int32} {rdy : Int32} {R : Nat → Nat → Int64} {st0 : Int32} {BF AF : Nat → Int64} {w1 : Wd} {T1 : Nat → Nat → Int64} {n2 : Int32} (h : pf_sh X w T ne wd n parts ft ks ls ss rdy R st0 BF AF) (x : ∀ g, g ≠ 1 → g ≠ 3 → w1 g = w g) (hg : g_rep X w1 T1 n2) : pf_sh X w1 T1 n2 wd n parts ft ks ls ss rdy R st0 BF AF := by
  obtain ⟨s0, -, ⟨s4, s5, s6, s7, s8⟩, ⟨s9, s10, s11⟩, s12, s13, s14, s15, s16⟩ := h
  refine ⟨by rw [x 0 (by decide) (by decide)]; exact s0, hg, ⟨by rw [x 4 (by decide) (by decide)]; exact s4, by rw [x 5 (by decide) (by decide)]; exact s5, by rw [x 6 (by decide) (by decide)]; exact s6, by rw [x 7 (by decide) (by decide)]; exact s7, by rw [x 8 (by decide) (by decide)]; exact s8⟩, ⟨by rw [x 9 (by decide) (by decide)]; exact s9, by rw [x 10 (by decide) (by decide)]; exact s10, fun j hj => by rw [x 11 (by decide) (by decide)]; exact s11 j hj⟩, by rw [x 12 (by decide) (by decide)]; exact s12, by rw [x 13 (by decide) (by decide)]; exact s13, by rw [x 14 (by decide) (by decide)]; exact s14, by rw [x 15 (by decide) (by decide)]; exact s15, fun j hj => by rw [x 16 (by decide) (by decide)]; exact s16 j hj⟩
theorem sh_rel {X : Lay} {w : Wd} {T : Nat → Nat → Int64} {ne : Int32} {wd : Nat → Int32} {n parts : Nat} {ft : Int32} {ks ls ss : Nat → Int32} {rdy : Int32} {R : Nat → Nat → Int64} {st0 : Int32} {BF AF : Nat → Int64} {w1 : Wd} {rdy1 : Int32} {R1 : Nat → Nat → Int64} (h : pf_sh X w T ne wd n parts ft ks ls ss rdy R st0 BF AF) (x : ∀ g, g ≠ 9 → g ≠ 11 → w1 g = w g) (h9 : w1 9 0 = oB 3 [.ref (pw_a X 1 0), .ref (pw_a X 4 0), .ref (pw_a X 10 0), .int rdy1]) (h11 : ∀ j, j < 40 → w1 11 j = aL X 64 (R1 j)) : pf_sh X w1 T ne wd n parts ft ks ls ss rdy1 R1 st0 BF AF := by
  obtain ⟨s0, sg, ⟨s4, s5, s6, s7, s8⟩, ⟨s9, s10, s11⟩, s12, s13, s14, s15, s16⟩ := h
  refine ⟨by rw [x 0 (by decide) (by decide)]; exact s0, g_rep_of sg (x 1 (by decide) (by decide)) (x 2 (by decide) (by decide)) (x 3 (by decide) (by decide)), ⟨by rw [x 4 (by decide) (by decide)]; exact s4, by rw [x 5 (by decide) (by decide)]; exact s5, by rw [x 6 (by decide) (by decide)]; exact s6, by rw [x 7 (by decide) (by decide)]; exact s7, by rw [x 8 (by decide) (by decide)]; exact s8⟩, ⟨h9, by rw [x 10 (by decide) (by decide)]; exact s10, h11⟩, by rw [x 12 (by decide) (by decide)]; exact s12, by rw [x 13 (by decide) (by decide)]; exact s13, by rw [x 14 (by decide) (by decide)]; exact s14, by rw [x 15 (by decide) (by decide)]; exact s15, fun j hj => by rw [x 16 (by decide) (by decide)]; exact s16 j hj⟩
theorem sh_start {X : Lay} {w : Wd} {T : Nat → Nat → Int64} {ne : Int32} {wd : Nat → Int32} {n parts : Nat} {ft : Int32} {ks ls ss : Nat → Int32} {rdy : Int32} {R : Nat → Nat → Int64} {st0 : Int32} {BF AF : Nat → Int64} (st1 : Int32) (h : pf_sh X w T ne wd n parts ft ks ls ss rdy R st0 BF AF) : pf_sh X (pw_up w 12 0 (oB 0 [.ref (pw_a X 1 0), .ref (pw_a X 4 0), .ref (pw_a X 9 0), .ref (pw_a X 13 0), .ref (pw_a X 14 0), .ref (pw_a X 15 0), .int st1])) T ne wd n parts ft ks ls ss rdy R st1 BF AF := by
  obtain ⟨s0, sg, ⟨s4, s5, s6, s7, s8⟩, ⟨s9, s10, s11⟩, s12, s13, s14, s15, s16⟩ := h
  have x : ∀ g, g ≠ 12 → pw_up w 12 0 (oB 0 [.ref (pw_a X 1 0), .ref (pw_a X 4 0), .ref (pw_a X 9 0), .ref (pw_a X 13 0), .ref (pw_a X 14 0), .ref (pw_a X 15 0), .int st1]) g = w g := fun g hg => pw_up_row _ _ hg
  refine ⟨by rw [x 0 (by decide)]; exact s0, g_rep_of sg (x 1 (by decide)) (x 2 (by decide)) (x 3 (by decide)), ⟨by rw [x 4 (by decide)]; exact s4, by rw [x 5 (by decide)]; exact s5, by rw [x 6 (by decide)]; exact s6, by rw [x 7 (by decide)]; exact s7, by rw [x 8 (by decide)]; exact s8⟩, ⟨by rw [x 9 (by decide)]; exact s9, by rw [x 10 (by decide)]; exact s10, fun j hj => by rw [x 11 (by decide)]; exact s11 j hj⟩, pw_up_self _ _ _ _, by rw [x 13 (by decide)]; exact s13, by rw [x 14 (by decide)]; exact s14, by rw [x 15 (by decide)]; exact s15, fun j hj => by rw [x 16 (by decide)]; exact s16 j hj⟩
/-- nothing is kept -/
theorem ok_none (T : Nat → Nat → Int64) (parts : Nat) (ks ls ss : Nat → Int32) (R : Nat → Nat → Int64) (AF : Nat → Int64) : pf_ok T parts ks ls ss 0 R (-1) AF := ⟨fun h => absurd rfl h, fun h => absurd rfl h⟩
theorem js_f {wd : Nat → Int32} {n parts : Nat} {ks ls ss : Nat → Int32} (hn : n ≤ 60) (hl : lk_f wd n = 0) (hp : p_st wd n parts ks ls ss) : tb_f wd ks ls ss 12 0 0 n parts ∧ fl_f ks ss parts ∧ 0 < parts ∧ parts ≤ 40 := by
  obtain ⟨ok, b, hrd, htb⟩ := hp
  have hin := rd_in wd n 12 0 0 ok b parts hrd (Nat.zero_le _) (by omega)
  unfold lk_f at hl
  rw [hrd] at hl
  cases ok with
  | false =>
    have := fc_neg b (by omega)
    have h2 : (-100 - nI b : Int32) = 0 := hl
    rw [h2] at this
    exact absurd this (by decide)
  | true =>
    have hb : ¬ b < n := fun q => by
      have h2 : (-100 - nI b : Int32) = 0 := (if_pos q).symm.trans hl
      have := fc_neg b (by omega)
      rw [h2] at this
      exact absurd this (by decide)
    have hbn : b = n := by omega
    subst hbn
    have ht := htb rfl
    exact ⟨ht, fun p hp => tb_fl wd ks ls ss 12 0 0 b parts ht p (Nat.zero_le p) hp, tb_lt wd ks ls ss 12 0 0 b parts ht, hin.2.2.2.1⟩
/-- behind ofPath -/
theorem of_sh {X : Lay} {w : Wd} {T : Nat → Nat → Int64} {ne : Int32} {wd : Nat → Int32} {n parts : Nat} {ft : Int32} {ks ls ss : Nat → Int32} {rdy : Int32} {R : Nat → Nat → Int64} {st0 : Int32} {BF AF : Nat → Int64} {w1 : Wd} (hS : pf_sh X w T ne wd n parts ft ks ls ss rdy R st0 BF AF) (hO : pf_ok T parts ks ls ss rdy R st0 AF) (hp1 : (¬ rdy = 0 ∧ w1 = r_w X w R) ∨ (rdy = 0 ∧ ∃ R1, w1 = r_w X (pw_up w 9 0 (oB 3 [.ref (pw_a X 1 0), .ref (pw_a X 4 0), .ref (pw_a X 10 0), .int 1])) R1 ∧ (∀ j, parts ≤ j → R1 j = R j) ∧ ∀ p, p < parts → ∀ x, x < 64 → ∀ y, y < 64 → (bt_f (R1 p x) y = true ↔ rl_f T ks ls ss R1 p x y))) :
    ∃ rdy1 R1, ¬ rdy1 = 0 ∧ rv_f T ks ls ss R1 parts ∧ pf_sh X w1 T ne wd n parts ft ks ls ss rdy1 R1 st0 BF AF ∧ pf_ok T parts ks ls ss rdy1 R1 st0 AF ∧ ∀ g, 16 < g → w1 g = w g := by
  have s9 := hS.2.2.2.1.1
  have s11 := hS.2.2.2.1.2.2
  rcases hp1 with ⟨a, b⟩ | ⟨a, R1, b, -, c⟩
  · rw [b, r_id s11]
    exact ⟨rdy, R, a, hO.1 a, hS, hO, fun g _ => rfl⟩
  · have h0 : st0 = -1 := Classical.byContradiction fun q => (hO.2 q).1 a
    refine ⟨1, R1, by decide, c, sh_rel hS (fun g g1 g2 => by rw [b, r_row g2, pw_up_row _ _ g1]) (by rw [b, r_row (by decide), pw_up_self]) (fun j hj => by rw [b, r_get hj]), ⟨fun _ => c, fun q => absurd h0 q⟩, fun g hg => by rw [b, r_row (by omega), pw_up_row _ _ (by omega)]⟩
set_option maxHeartbeats 4000000 in
set_option maxRecDepth 100000 in
theorem k_PF_forget (l : Launch) {X : Lay} (hI : pw_I X) (hX : Dm X) (w : Wd) {T : Nat → Nat → Int64} {ne : Int32} {wd : Nat → Int32} {n parts : Nat} {ft : Int32} {ks ls ss : Nat → Int32} {rdy : Int32} {R : Nat → Nat → Int64} {st0 : Int32} {BF AF : Nat → Int64} (hS : pf_sh X w T ne wd n parts ft ks ls ss rdy R st0 BF AF) : CtV l y_PF_forget (pw_ws y_PF_forget c_PF_forget 1 none) { frames := 0, cells := 0, slots := 0, locals := 0 } X w [.ref (pw_a X 0 0)] (fun w1 => pf_sh X w1 T ne wd n parts ft ks ls ss 0 R (-1) BF AF ∧ ∀ g, 16 < g → w1 g = w g) := by
  obtain ⟨s0, sg1, ⟨s4, s5, s6, s7, s8⟩, ⟨s9, s10, s11⟩, s12, s13, s14, s15, s16⟩ := id hS
  refine pw_open (by decide) hI [some (.ref (pw_a X 0 0))] rfl (Nat.le_of_ble_eq_true rfl) ?_
  intro zp ze zs zm za zb zt zc hargs C zr zk hnm
  refine pw_aload_n C d_PF_forget_0 rfl ?_
  refine pw_get C d_PF_forget_1 (hX 0 0 rfl) s0 2 rfl rfl (by decide) in_PF W_129 rfl ?_
  refine pw_iconst C d_PF_forget_4 (v := 0) (by decide) ?_
  refine pw_putN C d_PF_forget_5 (hX 9 0 rfl) s9 3 (Nat.le_of_ble_eq_true rfl) rfl (by decide) in_RE t_RE tk_RE n_RE N_16 rfl rfl (tk_RE 3 (by decide)) rfl rfl ?_
  refine MW.world (w' := (pw_up w 9 0 (oB 3 [.ref (pw_a X 1 0), .ref (pw_a X 4 0), .ref (pw_a X 10 0), .int 0]))) rfl ?_
  refine pw_aload_n C d_PF_forget_8 rfl ?_
  refine pw_get C d_PF_forget_9 (hX 0 0 rfl) (by rw [pw_up_g _ _ (by decide)]; exact s0) 3 rfl rfl (by decide) in_PF W_130 rfl ?_
  refine pw_iconst C d_PF_forget_12 (v := -1) (by decide) ?_
  refine pw_putN C d_PF_forget_13 (hX 12 0 rfl) (by rw [pw_up_g _ _ (by decide)]; exact s12) 6 (Nat.le_of_ble_eq_true rfl) rfl (by decide) in_CN t_CN tk_CN n_CN N_18 rfl rfl (tk_CN 6 (by decide)) rfl rfl ?_
  refine MW.world (w' := pw_up (pw_up w 9 0 (oB 3 [.ref (pw_a X 1 0), .ref (pw_a X 4 0), .ref (pw_a X 10 0), .int 0])) 12 0 (oB 0 [.ref (pw_a X 1 0), .ref (pw_a X 4 0), .ref (pw_a X 9 0), .ref (pw_a X 13 0), .ref (pw_a X 14 0), .ref (pw_a X 15 0), .int (-1)])) rfl ?_
  refine pw_vret C zr zk d_PF_forget_16 ?_
  refine ⟨sh_start (-1) (sh_rel (rdy1 := 0) (R1 := R) hS (fun g g1 g2 => pw_up_row _ _ g1) (pw_up_self _ _ _ _) (fun j hj => by rw [pw_up_g _ _ (by decide)]; exact s11 j hj)), fun g hg => by rw [pw_up_row _ _ (by omega), pw_up_row _ _ (by omega)]⟩
set_option maxHeartbeats 4000000 in
set_option maxRecDepth 100000 in
theorem k_PF_edge (l : Launch) {X : Lay} (hI : pw_I X) (hX : Dm X) (w : Wd) {T : Nat → Nat → Int64} {ne : Int32} {wd : Nat → Int32} {n : Nat} (hst : pf_st X w T ne wd n) (a b c : Int32) : CtI l y_PF_edge (pw_ws y_PF_edge c_PF_edge 5 (some .int)) { frames := 3, cells := 0, slots := 0, locals := 65 } X w [.ref (pw_a X 0 0), .int a, .int b, .int c] (fun r w1 => (∀ g, 16 < g → w1 g = w g) ∧ ((¬ (is_n a 64 ∧ is_n b 8 ∧ is_n c 64) ∧ r = -1 ∧ pf_st X w1 T ne wd n) ∨ ∃ i k j : Nat, i < 64 ∧ k < 8 ∧ j < 64 ∧ a = nI i ∧ b = nI k ∧ c = nI j ∧ ((bt_f (T k i) j = true ∧ r = 0 ∧ pf_st X w1 T ne wd n) ∨ (bt_f (T k i) j = !true ∧ r = 1 ∧ ∃ T1, pf_st X w1 T1 (ne + 1) wd n ∧ ∀ k1 i1 j1, j1 < 64 → bt_f (T1 k1 i1) j1 = if k1 = k ∧ i1 = i ∧ j1 = j then true else bt_f (T k1 i1) j1)))) := by
  have hst0 := hst
  obtain ⟨parts, ks, ls, ss, rdy, R, st0, BF, AF, hS, hn, hp, hO⟩ := hst
  have hpw := p_id hS
  obtain ⟨s0, sg1, ⟨s4, s5, s6, s7, s8⟩, ⟨s9, s10, s11⟩, s12, s13, s14, s15, s16⟩ := id hS
  refine pw_open (by decide) hI [some (.ref (pw_a X 0 0)), some (.int a), some (.int b), some (.int c), none] rfl (Nat.le_of_ble_eq_true rfl) ?_
  intro zp ze zs zm za zb zt zc hargs C zr zk hnm
  refine pw_aload_n C d_PF_edge_0 rfl ?_
  refine pw_get C d_PF_edge_1 (hX 0 0 rfl) s0 0 rfl rfl (by decide) in_PF W_127 rfl ?_
  refine pw_iload_n C d_PF_edge_4 rfl ?_
  refine pw_iload_n C d_PF_edge_5 rfl ?_
  refine pw_iload_n C d_PF_edge_6 rfl ?_
  refine pw_callVNi C (k_GR_put l hI w sg1 a b c) (hX 1 0 rfl) sg1.2.2.2.1 rfl ⟨pw_cn C 3 W_147 W_2 N_19 ⟨rfl, rfl⟩ (by decide +kernel) ⟨(Nat.le_of_ble_eq_true rfl), (Nat.le_of_ble_eq_true rfl)⟩, pw_w C W_146, pw_w C V_0⟩ rfl rfl (Nat.le_of_ble_eq_true rfl) d_PF_edge_7 ⟨Nat.zero_le _, Nat.zero_le _⟩ (fun r w2 hp2 => ?_)
  rcases hp2 with ⟨hb, hr2, hw2⟩ | ⟨i, k, j, hi, hk, hj, ha2, hb2, hc2, ⟨hbt, hr2, hw2⟩ | ⟨hbt, hr2, hfr, T1, hT1, hT1s⟩⟩
  · subst hr2
    refine MW.world hw2 ?_
    refine pw_istore C d_PF_edge_10 (by decide) ?_
    refine pw_iload C d_PF_edge_12 rfl ?_
    refine pw_iconst C d_PF_edge_14 (v := 1) (by decide) ?_
    refine pw_icmp_ne C 22 d_PF_edge_15 (by decide) (fun h15 => ?_) (fun h15 => ?_)
    · refine pw_iload C d_PF_edge_22 rfl ?_
      refine pw_iret C zr zk d_PF_edge_24 ?_
      exact ⟨fun g _ => rfl, Or.inl ⟨hb, rfl, hst0⟩⟩
    · exact absurd h15 (by decide)
  · subst hr2
    refine MW.world hw2 ?_
    refine pw_istore C d_PF_edge_10 (by decide) ?_
    refine pw_iload C d_PF_edge_12 rfl ?_
    refine pw_iconst C d_PF_edge_14 (v := 1) (by decide) ?_
    refine pw_icmp_ne C 22 d_PF_edge_15 (by decide) (fun h15 => ?_) (fun h15 => ?_)
    · refine pw_iload C d_PF_edge_22 rfl ?_
      refine pw_iret C zr zk d_PF_edge_24 ?_
      exact ⟨fun g _ => rfl, Or.inr ⟨i, k, j, hi, hk, hj, ha2, hb2, hc2, Or.inl ⟨hbt, rfl, hst0⟩⟩⟩
    · exact absurd h15 (by decide)
  · subst hr2
    have hS2 := sh_graph hS hfr hT1
    refine pw_istore C d_PF_edge_10 (by decide) ?_
    refine pw_iload C d_PF_edge_12 rfl ?_
    refine pw_iconst C d_PF_edge_14 (v := 1) (by decide) ?_
    refine pw_icmp_ne C 22 d_PF_edge_15 (by decide) (fun h15 => ?_) (fun h15 => ?_)
    · exact absurd rfl h15
    refine pw_aload_n C d_PF_edge_18 rfl ?_
    refine pw_callVv C (k_PF_forget l hI hX w2 hS2) (hX 0 0 rfl) hS2.1 rfl ⟨pw_cb C 0 W_166 W_1 W_163 ⟨rfl, rfl⟩ (by decide +kernel) ⟨(Nat.le_of_ble_eq_true rfl), (Nat.le_of_ble_eq_true rfl)⟩, pw_w C W_165, pw_w C V_1⟩ rfl rfl (Nat.le_of_ble_eq_true rfl) d_PF_edge_19 ⟨Nat.zero_le _, Nat.zero_le _⟩ (fun w3 hp3 => ?_)
    refine pw_iload C d_PF_edge_22 rfl ?_
    refine pw_iret C zr zk d_PF_edge_24 ?_
    obtain ⟨g1, g2⟩ := hp3
    exact ⟨fun g hg => by rw [g2 g hg, hfr g (by omega) (by omega)], Or.inr ⟨i, k, j, hi, hk, hj, ha2, hb2, hc2, Or.inr ⟨hbt, rfl, T1, ⟨parts, ks, ls, ss, 0, R, -1, BF, AF, g1, hn, hp, ok_none _ _ _ _ _ _ _⟩, hT1s⟩⟩⟩
set_option maxHeartbeats 4000000 in
set_option maxRecDepth 100000 in
theorem k_PF_drop (l : Launch) {X : Lay} (hI : pw_I X) (hX : Dm X) (w : Wd) {T : Nat → Nat → Int64} {ne : Int32} {wd : Nat → Int32} {n : Nat} (hst : pf_st X w T ne wd n) (a b c : Int32) : CtI l y_PF_drop (pw_ws y_PF_drop c_PF_drop 5 (some .int)) { frames := 3, cells := 0, slots := 0, locals := 65 } X w [.ref (pw_a X 0 0), .int a, .int b, .int c] (fun r w1 => (∀ g, 16 < g → w1 g = w g) ∧ ((¬ (is_n a 64 ∧ is_n b 8 ∧ is_n c 64) ∧ r = -1 ∧ pf_st X w1 T ne wd n) ∨ ∃ i k j : Nat, i < 64 ∧ k < 8 ∧ j < 64 ∧ a = nI i ∧ b = nI k ∧ c = nI j ∧ ((bt_f (T k i) j = false ∧ r = 0 ∧ pf_st X w1 T ne wd n) ∨ (bt_f (T k i) j = !false ∧ r = 1 ∧ ∃ T1, pf_st X w1 T1 (ne + (-1)) wd n ∧ ∀ k1 i1 j1, j1 < 64 → bt_f (T1 k1 i1) j1 = if k1 = k ∧ i1 = i ∧ j1 = j then false else bt_f (T k1 i1) j1)))) := by
  have hst0 := hst
  obtain ⟨parts, ks, ls, ss, rdy, R, st0, BF, AF, hS, hn, hp, hO⟩ := hst
  have hpw := p_id hS
  obtain ⟨s0, sg1, ⟨s4, s5, s6, s7, s8⟩, ⟨s9, s10, s11⟩, s12, s13, s14, s15, s16⟩ := id hS
  refine pw_open (by decide) hI [some (.ref (pw_a X 0 0)), some (.int a), some (.int b), some (.int c), none] rfl (Nat.le_of_ble_eq_true rfl) ?_
  intro zp ze zs zm za zb zt zc hargs C zr zk hnm
  refine pw_aload_n C d_PF_drop_0 rfl ?_
  refine pw_get C d_PF_drop_1 (hX 0 0 rfl) s0 0 rfl rfl (by decide) in_PF W_127 rfl ?_
  refine pw_iload_n C d_PF_drop_4 rfl ?_
  refine pw_iload_n C d_PF_drop_5 rfl ?_
  refine pw_iload_n C d_PF_drop_6 rfl ?_
  refine pw_callVNi C (k_GR_remove l hI w sg1 a b c) (hX 1 0 rfl) sg1.2.2.2.1 rfl ⟨pw_cn C 3 W_174 W_2 N_24 ⟨rfl, rfl⟩ (by decide +kernel) ⟨(Nat.le_of_ble_eq_true rfl), (Nat.le_of_ble_eq_true rfl)⟩, pw_w C W_173, pw_w C V_2⟩ rfl rfl (Nat.le_of_ble_eq_true rfl) d_PF_drop_7 ⟨Nat.zero_le _, Nat.zero_le _⟩ (fun r w2 hp2 => ?_)
  rcases hp2 with ⟨hb, hr2, hw2⟩ | ⟨i, k, j, hi, hk, hj, ha2, hb2, hc2, ⟨hbt, hr2, hw2⟩ | ⟨hbt, hr2, hfr, T1, hT1, hT1s⟩⟩
  · subst hr2
    refine MW.world hw2 ?_
    refine pw_istore C d_PF_drop_10 (by decide) ?_
    refine pw_iload C d_PF_drop_12 rfl ?_
    refine pw_iconst C d_PF_drop_14 (v := 1) (by decide) ?_
    refine pw_icmp_ne C 22 d_PF_drop_15 (by decide) (fun h15 => ?_) (fun h15 => ?_)
    · refine pw_iload C d_PF_drop_22 rfl ?_
      refine pw_iret C zr zk d_PF_drop_24 ?_
      exact ⟨fun g _ => rfl, Or.inl ⟨hb, rfl, hst0⟩⟩
    · exact absurd h15 (by decide)
  · subst hr2
    refine MW.world hw2 ?_
    refine pw_istore C d_PF_drop_10 (by decide) ?_
    refine pw_iload C d_PF_drop_12 rfl ?_
    refine pw_iconst C d_PF_drop_14 (v := 1) (by decide) ?_
    refine pw_icmp_ne C 22 d_PF_drop_15 (by decide) (fun h15 => ?_) (fun h15 => ?_)
    · refine pw_iload C d_PF_drop_22 rfl ?_
      refine pw_iret C zr zk d_PF_drop_24 ?_
      exact ⟨fun g _ => rfl, Or.inr ⟨i, k, j, hi, hk, hj, ha2, hb2, hc2, Or.inl ⟨hbt, rfl, hst0⟩⟩⟩
    · exact absurd h15 (by decide)
  · subst hr2
    have hS2 := sh_graph hS hfr hT1
    refine pw_istore C d_PF_drop_10 (by decide) ?_
    refine pw_iload C d_PF_drop_12 rfl ?_
    refine pw_iconst C d_PF_drop_14 (v := 1) (by decide) ?_
    refine pw_icmp_ne C 22 d_PF_drop_15 (by decide) (fun h15 => ?_) (fun h15 => ?_)
    · exact absurd rfl h15
    refine pw_aload_n C d_PF_drop_18 rfl ?_
    refine pw_callVv C (k_PF_forget l hI hX w2 hS2) (hX 0 0 rfl) hS2.1 rfl ⟨pw_cb C 0 W_166 W_1 W_163 ⟨rfl, rfl⟩ (by decide +kernel) ⟨(Nat.le_of_ble_eq_true rfl), (Nat.le_of_ble_eq_true rfl)⟩, pw_w C W_165, pw_w C V_1⟩ rfl rfl (Nat.le_of_ble_eq_true rfl) d_PF_drop_19 ⟨Nat.zero_le _, Nat.zero_le _⟩ (fun w3 hp3 => ?_)
    refine pw_iload C d_PF_drop_22 rfl ?_
    refine pw_iret C zr zk d_PF_drop_24 ?_
    obtain ⟨g1, g2⟩ := hp3
    exact ⟨fun g hg => by rw [g2 g hg, hfr g (by omega) (by omega)], Or.inr ⟨i, k, j, hi, hk, hj, ha2, hb2, hc2, Or.inr ⟨hbt, rfl, T1, ⟨parts, ks, ls, ss, 0, R, -1, BF, AF, g1, hn, hp, ok_none _ _ _ _ _ _ _⟩, hT1s⟩⟩⟩
set_option maxHeartbeats 4000000 in
set_option maxRecDepth 100000 in
theorem k_PF_edges (l : Launch) {X : Lay} (hI : pw_I X) (hX : Dm X) (w : Wd) {T : Nat → Nat → Int64} {ne : Int32} {wd : Nat → Int32} {n : Nat} (hst : pf_st X w T ne wd n) : CtI l y_PF_edges (pw_ws y_PF_edges c_PF_edges 1 (some .int)) { frames := 0, cells := 0, slots := 0, locals := 0 } X w [.ref (pw_a X 0 0)] (fun r w1 => (∀ g, 16 < g → w1 g = w g) ∧ r = ne ∧ pf_st X w1 T ne wd n) := by
  have hst0 := hst
  obtain ⟨parts, ks, ls, ss, rdy, R, st0, BF, AF, hS, hn, hp, hO⟩ := hst
  have hpw := p_id hS
  obtain ⟨s0, sg1, ⟨s4, s5, s6, s7, s8⟩, ⟨s9, s10, s11⟩, s12, s13, s14, s15, s16⟩ := id hS
  refine pw_open (by decide) hI [some (.ref (pw_a X 0 0))] rfl (Nat.le_of_ble_eq_true rfl) ?_
  intro zp ze zs zm za zb zt zc hargs C zr zk hnm
  refine pw_aload_n C d_PF_edges_0 rfl ?_
  refine pw_get C d_PF_edges_1 (hX 0 0 rfl) s0 0 rfl rfl (by decide) in_PF W_127 rfl ?_
  refine pw_getN C d_PF_edges_4 (hX 1 0 rfl) sg1.2.2.2.1 1 rfl rfl (by decide) in_GR N_3 rfl ?_
  refine pw_iret C zr zk d_PF_edges_7 ?_
  exact ⟨fun g _ => rfl, rfl, hst0⟩
set_option maxHeartbeats 4000000 in
set_option maxRecDepth 100000 in
theorem k_PF_look (l : Launch) {X : Lay} (hI : pw_I X) (hX : Dm X) (w : Wd) {T : Nat → Nat → Int64} {ne : Int32} {wd : Nat → Int32} {n : Nat} (hst : pf_st X w T ne wd n) : CtI l y_PF_look (pw_ws y_PF_look c_PF_look 1 (some .int)) { frames := 0, cells := 0, slots := 0, locals := 0 } X w [.ref (pw_a X 0 0)] (fun r w1 => (∀ g, 16 < g → w1 g = w g) ∧ r = lk_f wd n ∧ pf_st X w1 T ne wd n) := by
  have hst0 := hst
  obtain ⟨parts, ks, ls, ss, rdy, R, st0, BF, AF, hS, hn, hp, hO⟩ := hst
  have hpw := p_id hS
  obtain ⟨s0, sg1, ⟨s4, s5, s6, s7, s8⟩, ⟨s9, s10, s11⟩, s12, s13, s14, s15, s16⟩ := id hS
  refine pw_open (by decide) hI [some (.ref (pw_a X 0 0))] rfl (Nat.le_of_ble_eq_true rfl) ?_
  intro zp ze zs zm za zb zt zc hargs C zr zk hnm
  refine pw_aload_n C d_PF_look_0 rfl ?_
  refine pw_get C d_PF_look_1 (hX 0 0 rfl) s0 1 rfl rfl (by decide) in_PF W_128 rfl ?_
  refine pw_getN C d_PF_look_4 (hX 4 0 rfl) s4 6 rfl rfl (by decide) in_PA N_13 rfl ?_
  refine pw_iret C zr zk d_PF_look_7 ?_
  exact ⟨fun g _ => rfl, rfl, hst0⟩
set_option maxHeartbeats 4000000 in
set_option maxRecDepth 100000 in
theorem k_PF_word (l : Launch) {X : Lay} (hI : pw_I X) (hX : Dm X) (w : Wd) {T : Nat → Nat → Int64} {ne : Int32} {wd : Nat → Int32} {n : Nat} (hst : pf_st X w T ne wd n) (v : Int32) : CtI l y_PF_word (pw_ws y_PF_word c_PF_word 3 (some .int)) { frames := 17, cells := 0, slots := 0, locals := 414 } X w [.ref (pw_a X 0 0), .int v] (fun r w1 => (∀ g, 16 < g → w1 g = w g) ∧ ((n = 60 ∧ r = -3 ∧ pf_st X w1 T ne wd n) ∨ (n < 60 ∧ r = nI (n + 1) ∧ pf_st X w1 T ne (upd wd n v) (n + 1)))) := by
  have hst0 := hst
  obtain ⟨parts, ks, ls, ss, rdy, R, st0, BF, AF, hS, hn, hp, hO⟩ := hst
  have hpw := p_id hS
  obtain ⟨s0, sg1, ⟨s4, s5, s6, s7, s8⟩, ⟨s9, s10, s11⟩, s12, s13, s14, s15, s16⟩ := id hS
  refine pw_open (by decide) hI [some (.ref (pw_a X 0 0)), some (.int v), none] rfl (Nat.le_of_ble_eq_true rfl) ?_
  intro zp ze zs zm za zb zt zc hargs C zr zk hnm
  refine pw_aload_n C d_PF_word_0 rfl ?_
  refine pw_get C d_PF_word_1 (hX 0 0 rfl) s0 1 rfl rfl (by decide) in_PF W_128 rfl ?_
  refine pw_iload_n C d_PF_word_4 rfl ?_
  refine MW.world hpw.symm ?_
  refine pw_callVNi C (k_PA_append l hI hX w hn v) (hX 4 0 rfl) rfl rfl ⟨pw_cn C 1 W_187 W_3 N_25 ⟨rfl, rfl⟩ (by decide +kernel) ⟨(Nat.le_of_ble_eq_true rfl), (Nat.le_of_ble_eq_true rfl)⟩, pw_w C W_186, pw_w C V_3⟩ rfl rfl (Nat.le_of_ble_eq_true rfl) d_PF_word_5 ⟨Nat.zero_le _, Nat.zero_le _⟩ (fun r w2 hp2 => ?_)
  rcases hp2 with ⟨hb, hr2, hw2⟩ | ⟨hb, hr2, t1, ks1, ls1, ss1, hw2, hp1⟩
  · subst hr2
    refine MW.world (hw2.trans hpw) ?_
    refine pw_istore_n C d_PF_word_8 (by decide) ?_
    refine pw_aload_n C d_PF_word_9 rfl ?_
    refine pw_callVv C (k_PF_forget l hI hX w hS) (hX 0 0 rfl) s0 rfl ⟨pw_cb C 0 W_166 W_1 W_163 ⟨rfl, rfl⟩ (by decide +kernel) ⟨(Nat.le_of_ble_eq_true rfl), (Nat.le_of_ble_eq_true rfl)⟩, pw_w C W_165, pw_w C V_1⟩ rfl rfl (Nat.le_of_ble_eq_true rfl) d_PF_word_10 ⟨Nat.zero_le _, Nat.zero_le _⟩ (fun w3 hp3 => ?_)
    refine pw_iload_n C d_PF_word_13 rfl ?_
    refine pw_iret C zr zk d_PF_word_14 ?_
    obtain ⟨g1, g2⟩ := hp3
    exact ⟨g2, Or.inl ⟨hb, rfl, parts, ks, ls, ss, 0, R, -1, BF, AF, g1, hn, hp, ok_none _ _ _ _ _ _ _⟩⟩
  · subst hr2
    have hS2 := sh_path hS (upd wd n v) (n + 1) t1 (lk_f (upd wd n v) (n + 1)) ks1 ls1 ss1
    refine MW.world hw2 ?_
    refine pw_istore_n C d_PF_word_8 (by decide) ?_
    refine pw_aload_n C d_PF_word_9 rfl ?_
    refine pw_callVv C (k_PF_forget l hI hX _ hS2) (hX 0 0 rfl) hS2.1 rfl ⟨pw_cb C 0 W_166 W_1 W_163 ⟨rfl, rfl⟩ (by decide +kernel) ⟨(Nat.le_of_ble_eq_true rfl), (Nat.le_of_ble_eq_true rfl)⟩, pw_w C W_165, pw_w C V_1⟩ rfl rfl (Nat.le_of_ble_eq_true rfl) d_PF_word_10 ⟨Nat.zero_le _, Nat.zero_le _⟩ (fun w3 hp3 => ?_)
    refine pw_iload_n C d_PF_word_13 rfl ?_
    refine pw_iret C zr zk d_PF_word_14 ?_
    obtain ⟨g1, g2⟩ := hp3
    exact ⟨fun g hg => by rw [g2 g hg]; exact p_row (by omega) (by omega) (by omega) (by omega) (by omega), Or.inr ⟨hb, rfl, t1, ks1, ls1, ss1, 0, R, -1, BF, AF, g1, by omega, hp1, ok_none _ _ _ _ _ _ _⟩⟩
set_option maxHeartbeats 4000000 in
set_option maxRecDepth 100000 in
theorem k_PF_clear (l : Launch) {X : Lay} (hI : pw_I X) (hX : Dm X) (w : Wd) {T : Nat → Nat → Int64} {ne : Int32} {wd : Nat → Int32} {n : Nat} (hst : pf_st X w T ne wd n) : CtI l y_PF_clear (pw_ws y_PF_clear c_PF_clear 2 (some .int)) { frames := 17, cells := 0, slots := 0, locals := 414 } X w [.ref (pw_a X 0 0)] (fun r w1 => (∀ g, 16 < g → w1 g = w g) ∧ r = nI n ∧ pf_st X w1 T ne wd 0) := by
  have hst0 := hst
  obtain ⟨parts, ks, ls, ss, rdy, R, st0, BF, AF, hS, hn, hp, hO⟩ := hst
  have hpw := p_id hS
  obtain ⟨s0, sg1, ⟨s4, s5, s6, s7, s8⟩, ⟨s9, s10, s11⟩, s12, s13, s14, s15, s16⟩ := id hS
  refine pw_open (by decide) hI [some (.ref (pw_a X 0 0)), none] rfl (Nat.le_of_ble_eq_true rfl) ?_
  intro zp ze zs zm za zb zt zc hargs C zr zk hnm
  refine pw_aload_n C d_PF_clear_0 rfl ?_
  refine pw_get C d_PF_clear_1 (hX 0 0 rfl) s0 1 rfl rfl (by decide) in_PF W_128 rfl ?_
  refine MW.world hpw.symm ?_
  refine pw_callVNi C (k_PA_empty l hI hX w) (hX 4 0 rfl) rfl rfl ⟨pw_cn C 0 W_214 W_3 N_26 ⟨rfl, rfl⟩ (by decide +kernel) ⟨(Nat.le_of_ble_eq_true rfl), (Nat.le_of_ble_eq_true rfl)⟩, pw_w C W_213, pw_w C V_8⟩ rfl rfl (Nat.le_of_ble_eq_true rfl) d_PF_clear_4 ⟨Nat.zero_le _, Nat.zero_le _⟩ (fun r w2 hp2 => ?_)
  obtain ⟨hr2, t1, ks1, ls1, ss1, hw2, hp1⟩ := hp2
  subst hr2
  have hS2 := sh_path hS wd 0 t1 (lk_f wd 0) ks1 ls1 ss1
  refine MW.world hw2 ?_
  refine pw_istore_n C d_PF_clear_7 (by decide) ?_
  refine pw_aload_n C d_PF_clear_8 rfl ?_
  refine pw_callVv C (k_PF_forget l hI hX _ hS2) (hX 0 0 rfl) hS2.1 rfl ⟨pw_cb C 0 W_166 W_1 W_163 ⟨rfl, rfl⟩ (by decide +kernel) ⟨(Nat.le_of_ble_eq_true rfl), (Nat.le_of_ble_eq_true rfl)⟩, pw_w C W_165, pw_w C V_1⟩ rfl rfl (Nat.le_of_ble_eq_true rfl) d_PF_clear_9 ⟨Nat.zero_le _, Nat.zero_le _⟩ (fun w3 hp3 => ?_)
  refine pw_iload_n C d_PF_clear_12 rfl ?_
  refine pw_iret C zr zk d_PF_clear_13 ?_
  obtain ⟨g1, g2⟩ := hp3
  exact ⟨fun g hg => by rw [g2 g hg]; exact p_row (by omega) (by omega) (by omega) (by omega) (by omega), rfl, t1, ks1, ls1, ss1, 0, R, -1, BF, AF, g1, by omega, hp1, ok_none _ _ _ _ _ _ _⟩
end
section
/-! THE CLASS'S PUBLIC METHODS: what is found -/
theorem bc_nz {x : Int64} {M : Nat → Bool} (h : ∀ y, y < 64 → bt_f x y = M y) : bc_n x = sg_f (fun y => if M y then 1 else 0) 64 := sg_congr (fun y hy => by rw [h y hy])
theorem nz_of {x : Int64} {M : Nat → Nat → Nat} {i y : Nat} (h : bt_f x y = true ↔ M i y ≠ 0) : bt_f x y = nz_f M i y := by
  unfold nz_f
  by_cases q : bt_f x y = true
  · rw [q]; exact (decide_eq_true (h.mp q)).symm
  · have q2 : ¬ M i y ≠ 0 := fun z => q (h.mpr z)
    rw [Bool.not_eq_true] at q
    rw [q]; exact (decide_eq_false q2).symm
set_option maxHeartbeats 4000000 in
set_option maxRecDepth 100000 in
theorem k_PF_times (l : Launch) {X : Lay} (hI : pw_I X) (hX : Dm X) (w : Wd) {T : Nat → Nat → Int64} {ne : Int32} {wd : Nat → Int32} {n : Nat} (hst : pf_st X w T ne wd n) (a b : Int32) : CtL l y_PF_times (pw_ws y_PF_times c_PF_times 3 (some .long)) { frames := 31, cells := 0, slots := 0, locals := 802 } X w [.ref (pw_a X 0 0), .int a, .int b] (fun r w1 => (∀ g, 16 < g → w1 g = w g) ∧ pf_st X w1 T ne wd n ∧ ((¬ (is_n a 64 ∧ is_n b 64) ∧ r = -1) ∨ (is_n a 64 ∧ is_n b 64 ∧ ¬ lk_f wd n = 0 ∧ r = -2) ∨ (lk_f wd n = 0 ∧ ∃ i j, i < 64 ∧ j < 64 ∧ a = nI i ∧ b = nI j ∧ r = lN (cp_f (cn_f T wd 12 0 i j))))) := by
  have hst0 := hst
  obtain ⟨parts, ks, ls, ss, rdy, R, st0, BF, AF, hS, hn, hp, hO⟩ := hst
  have hpw := p_id hS
  have hV := v_of_sh hS
  obtain ⟨s0, sg1, ⟨s4, s5, s6, s7, s8⟩, ⟨s9, s10, s11⟩, s12, s13, s14, s15, s16⟩ := id hS
  refine pw_open (by decide) hI [some (.ref (pw_a X 0 0)), some (.int a), some (.int b)] rfl (Nat.le_of_ble_eq_true rfl) ?_
  intro zp ze zs zm za zb zt zc hargs C zr zk hnm
  refine pw_iload_n C d_PF_times_0 rfl ?_
  refine pw_callSi C (k_PF_isPoint l hI _ a) ⟨pw_cb C 1 W_153 W_1 W_223 ⟨rfl, rfl⟩ (by decide +kernel) ⟨(Nat.le_of_ble_eq_true rfl), (Nat.le_of_ble_eq_true rfl)⟩, pw_w C W_152⟩ rfl rfl (Nat.le_of_ble_eq_true rfl) d_PF_times_1 ⟨Nat.zero_le _, Nat.zero_le _⟩ (fun rp w9 ha => ?_)
  obtain ⟨e9, ha⟩ := ha
  refine MW.world e9 ?_
  refine pw_if_eq C 14 d_PF_times_4 (by decide) (fun h4 => ?_) (fun h4 => ?_)
  · refine pw_ldc2_w C d_PF_times_14 (v := -1) W_224 ?_
    refine pw_lret C zr zk d_PF_times_17 ?_
    exact ⟨fun g _ => rfl, hst0, Or.inl ⟨fun q => yn_f ha h4 q.1, rfl⟩⟩
  · refine pw_iload_n C d_PF_times_7 rfl ?_
    refine pw_callSi C (k_PF_isPoint l hI _ b) ⟨pw_cb C 1 W_153 W_1 W_223 ⟨rfl, rfl⟩ (by decide +kernel) ⟨(Nat.le_of_ble_eq_true rfl), (Nat.le_of_ble_eq_true rfl)⟩, pw_w C W_152⟩ rfl rfl (Nat.le_of_ble_eq_true rfl) d_PF_times_8 ⟨Nat.zero_le _, Nat.zero_le _⟩ (fun rp w9 hb => ?_)
    obtain ⟨e9, hb⟩ := hb
    refine MW.world e9 ?_
    refine pw_if_ne C 18 d_PF_times_11 (by decide) (fun h11 => ?_) (fun h11 => ?_)
    · refine pw_aload_n C d_PF_times_18 rfl ?_
      refine pw_get C d_PF_times_19 (hX 0 0 rfl) s0 1 rfl rfl (by decide) in_PF W_128 rfl ?_
      refine MW.world hpw.symm ?_
      refine pw_callVNi C (k_PA_isJust l hI hX w) (hX 4 0 rfl) rfl rfl ⟨pw_cn C 0 W_228 W_3 N_27 ⟨rfl, rfl⟩ (by decide +kernel) ⟨(Nat.le_of_ble_eq_true rfl), (Nat.le_of_ble_eq_true rfl)⟩, pw_w C W_227, pw_w C V_9⟩ rfl rfl (Nat.le_of_ble_eq_true rfl) d_PF_times_22 ⟨Nat.zero_le _, Nat.zero_le _⟩ (fun rj w9 hj => ?_)
      obtain ⟨e9, hj⟩ := hj
      refine MW.world (e9.trans hpw) ?_
      refine pw_if_ne C 32 d_PF_times_25 (by decide) (fun h25 => ?_) (fun h25 => ?_)
      · obtain ⟨htb, hfl, h0, h40⟩ := js_f hn (yn_t hj h25) hp
        obtain ⟨i, hi, rfl⟩ := yn_t ha h4
        obtain ⟨j, hj2, rfl⟩ := yn_t hb h11
        refine pw_aload_n C d_PF_times_32 rfl ?_
        refine pw_get C d_PF_times_33 (hX 0 0 rfl) s0 3 rfl rfl (by decide) in_PF W_130 rfl ?_
        refine pw_iload_n C d_PF_times_36 rfl ?_
        refine pw_callVNr C (k_CN_from l hI hX w hS hO h40 h0 hfl hi) (hX 12 0 rfl) s12 rfl ⟨pw_cn C 1 W_233 W_5 N_28 ⟨rfl, rfl⟩ (by decide +kernel) ⟨(Nat.le_of_ble_eq_true rfl), (Nat.le_of_ble_eq_true rfl)⟩, pw_w C W_232, pw_w C V_10⟩ rfl rfl (Nat.le_of_ble_eq_true rfl) d_PF_times_37 ⟨Nat.zero_le _, Nat.zero_le _⟩ (fun w1 hp1 => ?_)
        obtain ⟨rdy1, R1, BF1, AF1, hr1, hS1, hO1, hA, hfr⟩ := hp1
        have sm := sm_all (hO1.1 hr1) h40 12 0 0 n parts htb (Nat.le_refl parts)
        have hst1 : pf_st X w1 T ne wd n := ⟨parts, ks, ls, ss, rdy1, R1, nI i, BF1, AF1, hS1, hn, hp, hO1⟩
        have hAc : ∀ y, y < 64 → AF1 y = lN (cp_f (cn_f T wd 12 0 i y)) := fun y hy => by
          rw [(hA y hy).1, ← sm.2.1 i hi y hy]
        refine pw_iload_n C d_PF_times_40 rfl ?_
        refine pw_laldK C d_PF_times_41 (hX 14 0 rfl) hS1.2.2.2.2.2.2.1 hj2 ?_
        refine pw_lret C zr zk d_PF_times_42 ?_
        refine ⟨hfr, hst1, Or.inr (Or.inr ⟨yn_t hj h25, i, j, hi, hj2, rfl, rfl, ?_⟩)⟩
        exact hAc j hj2
      · refine pw_ldc2_w C d_PF_times_28 (v := -2) W_229 ?_
        refine pw_lret C zr zk d_PF_times_31 ?_
        exact ⟨fun g _ => rfl, hst0, Or.inr (Or.inl ⟨yn_t ha h4, yn_t hb h11, yn_f hj h25, rfl⟩)⟩
    · refine pw_ldc2_w C d_PF_times_14 (v := -1) W_224 ?_
      refine pw_lret C zr zk d_PF_times_17 ?_
      exact ⟨fun g _ => rfl, hst0, Or.inl ⟨fun q => yn_f hb h11 q.2, rfl⟩⟩
set_option maxHeartbeats 4000000 in
set_option maxRecDepth 100000 in
theorem k_PF_ends (l : Launch) {X : Lay} (hI : pw_I X) (hX : Dm X) (w : Wd) {T : Nat → Nat → Int64} {ne : Int32} {wd : Nat → Int32} {n : Nat} (hst : pf_st X w T ne wd n) (a : Int32) : CtI l y_PF_ends (pw_ws y_PF_ends c_PF_ends 2 (some .int)) { frames := 6, cells := 0, slots := 0, locals := 138 } X w [.ref (pw_a X 0 0), .int a] (fun r w1 => (∀ g, 16 < g → w1 g = w g) ∧ pf_st X w1 T ne wd n ∧ ((¬ is_n a 64 ∧ r = -1) ∨ (is_n a 64 ∧ ¬ lk_f wd n = 0 ∧ r = -2) ∨ (lk_f wd n = 0 ∧ ∃ i, i < 64 ∧ a = nI i ∧ r = nI (sg_f (fun y => if nz_f (cn_f T wd 12 0) i y then 1 else 0) 64)))) := by
  have hst0 := hst
  obtain ⟨parts, ks, ls, ss, rdy, R, st0, BF, AF, hS, hn, hp, hO⟩ := hst
  have hpw := p_id hS
  have hV := v_of_sh hS
  obtain ⟨s0, sg1, ⟨s4, s5, s6, s7, s8⟩, ⟨s9, s10, s11⟩, s12, s13, s14, s15, s16⟩ := id hS
  refine pw_open (by decide) hI [some (.ref (pw_a X 0 0)), some (.int a)] rfl (Nat.le_of_ble_eq_true rfl) ?_
  intro zp ze zs zm za zb zt zc hargs C zr zk hnm
  refine pw_iload_n C d_PF_ends_0 rfl ?_
  refine pw_callSi C (k_PF_isPoint l hI _ a) ⟨pw_cb C 1 W_153 W_1 W_223 ⟨rfl, rfl⟩ (by decide +kernel) ⟨(Nat.le_of_ble_eq_true rfl), (Nat.le_of_ble_eq_true rfl)⟩, pw_w C W_152⟩ rfl rfl (Nat.le_of_ble_eq_true rfl) d_PF_ends_1 ⟨Nat.zero_le _, Nat.zero_le _⟩ (fun rp w9 ha => ?_)
  obtain ⟨e9, ha⟩ := ha
  refine MW.world e9 ?_
  refine pw_if_ne C 9 d_PF_ends_4 (by decide) (fun h4 => ?_) (fun h4 => ?_)
  · refine pw_aload_n C d_PF_ends_9 rfl ?_
    refine pw_get C d_PF_ends_10 (hX 0 0 rfl) s0 1 rfl rfl (by decide) in_PF W_128 rfl ?_
    refine MW.world hpw.symm ?_
    refine pw_callVNi C (k_PA_isJust l hI hX w) (hX 4 0 rfl) rfl rfl ⟨pw_cn C 0 W_228 W_3 N_27 ⟨rfl, rfl⟩ (by decide +kernel) ⟨(Nat.le_of_ble_eq_true rfl), (Nat.le_of_ble_eq_true rfl)⟩, pw_w C W_227, pw_w C V_9⟩ rfl rfl (Nat.le_of_ble_eq_true rfl) d_PF_ends_13 ⟨Nat.zero_le _, Nat.zero_le _⟩ (fun rj w9 hj => ?_)
    obtain ⟨e9, hj⟩ := hj
    refine MW.world (e9.trans hpw) ?_
    refine pw_if_ne C 22 d_PF_ends_16 (by decide) (fun h16 => ?_) (fun h16 => ?_)
    · obtain ⟨htb, hfl, h0, h40⟩ := js_f hn (yn_t hj h16) hp
      obtain ⟨i, hi, rfl⟩ := yn_t ha h4
      refine pw_aload_n C d_PF_ends_22 rfl ?_
      refine pw_get C d_PF_ends_23 (hX 0 0 rfl) s0 2 rfl rfl (by decide) in_PF W_129 rfl ?_
      refine MW.world (r_id s11).symm ?_
      refine pw_callVNr C (k_RE_ofPath l hI hX w (R := R) hV h40 (fun _ => hfl) s9) (hX 9 0 rfl) (by rw [r_row (by decide)]; exact s9) rfl ⟨pw_cn C 0 W_238 W_4 N_35 ⟨rfl, rfl⟩ (by decide +kernel) ⟨(Nat.le_of_ble_eq_true rfl), (Nat.le_of_ble_eq_true rfl)⟩, pw_w C W_237, pw_w C V_11⟩ rfl rfl (Nat.le_of_ble_eq_true rfl) d_PF_ends_26 ⟨Nat.zero_le _, Nat.zero_le _⟩ (fun w1 hp1 => ?_)
      obtain ⟨rdy1, R1, hr1, hrv, hS1, hO1, hfr⟩ := of_sh hS hO hp1
      have sm := sm_all hrv h40 12 0 0 n parts htb (Nat.le_refl parts)
      have hst1 : pf_st X w1 T ne wd n := ⟨parts, ks, ls, ss, rdy1, R1, st0, BF, AF, hS1, hn, hp, hO1⟩
      have s11b := hS1.2.2.2.1.2.2 0 (by decide)
      have d11 : pw_d X 11 0 := hX 11 0 (by simp [dm_k])
      refine pw_iload_n C d_PF_ends_29 rfl ?_
      refine pw_laldK C d_PF_ends_30 d11 s11b hi ?_
      refine pw_callSi C (k_LO_bc l hI _ _) ⟨pw_cb C 1 W_312 W_8 W_310 ⟨rfl, rfl⟩ (by decide +kernel) ⟨(Nat.le_of_ble_eq_true rfl), (Nat.le_of_ble_eq_true rfl)⟩, pw_w C W_311⟩ rfl rfl (Nat.le_of_ble_eq_true rfl) d_PF_ends_31 ⟨Nat.zero_le _, Nat.zero_le _⟩ (fun rb w9 hb => ?_)
      obtain ⟨e9, hb⟩ := hb
      refine MW.world e9 ?_
      refine pw_iret C zr zk d_PF_ends_34 ?_
      refine ⟨hfr, hst1, Or.inr (Or.inr ⟨yn_t hj h16, i, hi, rfl, ?_⟩)⟩
      rw [hb, bc_nz (fun y hy => nz_of (sm.2.2 i hi y hy))]
    · refine pw_bipush C d_PF_ends_19 (v := -2) (by decide) ?_
      refine pw_iret C zr zk d_PF_ends_21 ?_
      exact ⟨fun g _ => rfl, hst0, Or.inr (Or.inl ⟨yn_t ha h4, yn_f hj h16, rfl⟩)⟩
  · refine pw_iconst C d_PF_ends_7 (v := -1) (by decide) ?_
    refine pw_iret C zr zk d_PF_ends_8 ?_
    exact ⟨fun g _ => rfl, hst0, Or.inl ⟨yn_f ha h4, rfl⟩⟩
set_option maxHeartbeats 4000000 in
set_option maxRecDepth 100000 in
theorem k_PF_reached (l : Launch) {X : Lay} (hI : pw_I X) (hX : Dm X) (w : Wd) {T : Nat → Nat → Int64} {ne : Int32} {wd : Nat → Int32} {n : Nat} (hst : pf_st X w T ne wd n) (a : Int32) : CtL l y_PF_reached (pw_ws y_PF_reached c_PF_reached 2 (some .long)) { frames := 6, cells := 0, slots := 0, locals := 138 } X w [.ref (pw_a X 0 0), .int a] (fun r w1 => (∀ g, 16 < g → w1 g = w g) ∧ pf_st X w1 T ne wd n ∧ ((¬ lk_f wd n = 0 ∧ r = 0) ∨ (lk_f wd n = 0 ∧ ¬ is_n a 64 ∧ r = -1) ∨ (lk_f wd n = 0 ∧ ∃ i, i < 64 ∧ a = nI i ∧ ∀ y, y < 64 → bt_f r y = nz_f (cn_f T wd 12 0) i y))) := by
  have hst0 := hst
  obtain ⟨parts, ks, ls, ss, rdy, R, st0, BF, AF, hS, hn, hp, hO⟩ := hst
  have hpw := p_id hS
  have hV := v_of_sh hS
  obtain ⟨s0, sg1, ⟨s4, s5, s6, s7, s8⟩, ⟨s9, s10, s11⟩, s12, s13, s14, s15, s16⟩ := id hS
  refine pw_open (by decide) hI [some (.ref (pw_a X 0 0)), some (.int a)] rfl (Nat.le_of_ble_eq_true rfl) ?_
  intro zp ze zs zm za zb zt zc hargs C zr zk hnm
  refine pw_aload_n C d_PF_reached_0 rfl ?_
  refine pw_get C d_PF_reached_1 (hX 0 0 rfl) s0 1 rfl rfl (by decide) in_PF W_128 rfl ?_
  refine MW.world hpw.symm ?_
  refine pw_callVNi C (k_PA_isJust l hI hX w) (hX 4 0 rfl) rfl rfl ⟨pw_cn C 0 W_228 W_3 N_27 ⟨rfl, rfl⟩ (by decide +kernel) ⟨(Nat.le_of_ble_eq_true rfl), (Nat.le_of_ble_eq_true rfl)⟩, pw_w C W_227, pw_w C V_9⟩ rfl rfl (Nat.le_of_ble_eq_true rfl) d_PF_reached_4 ⟨Nat.zero_le _, Nat.zero_le _⟩ (fun rj w9 hj => ?_)
  obtain ⟨e9, hj⟩ := hj
  refine MW.world (e9.trans hpw) ?_
  refine pw_if_ne C 12 d_PF_reached_7 (by decide) (fun h7 => ?_) (fun h7 => ?_)
  · refine pw_iload_n C d_PF_reached_12 rfl ?_
    refine pw_callSi C (k_PF_isPoint l hI _ a) ⟨pw_cb C 1 W_153 W_1 W_223 ⟨rfl, rfl⟩ (by decide +kernel) ⟨(Nat.le_of_ble_eq_true rfl), (Nat.le_of_ble_eq_true rfl)⟩, pw_w C W_152⟩ rfl rfl (Nat.le_of_ble_eq_true rfl) d_PF_reached_13 ⟨Nat.zero_le _, Nat.zero_le _⟩ (fun rp w9 ha => ?_)
    obtain ⟨e9, ha⟩ := ha
    refine MW.world e9 ?_
    refine pw_if_ne C 23 d_PF_reached_16 (by decide) (fun h16 => ?_) (fun h16 => ?_)
    · obtain ⟨htb, hfl, h0, h40⟩ := js_f hn (yn_t hj h7) hp
      obtain ⟨i, hi, rfl⟩ := yn_t ha h16
      refine pw_aload_n C d_PF_reached_23 rfl ?_
      refine pw_get C d_PF_reached_24 (hX 0 0 rfl) s0 2 rfl rfl (by decide) in_PF W_129 rfl ?_
      refine MW.world (r_id s11).symm ?_
      refine pw_callVNr C (k_RE_ofPath l hI hX w (R := R) hV h40 (fun _ => hfl) s9) (hX 9 0 rfl) (by rw [r_row (by decide)]; exact s9) rfl ⟨pw_cn C 0 W_238 W_4 N_35 ⟨rfl, rfl⟩ (by decide +kernel) ⟨(Nat.le_of_ble_eq_true rfl), (Nat.le_of_ble_eq_true rfl)⟩, pw_w C W_237, pw_w C V_11⟩ rfl rfl (Nat.le_of_ble_eq_true rfl) d_PF_reached_27 ⟨Nat.zero_le _, Nat.zero_le _⟩ (fun w1 hp1 => ?_)
      obtain ⟨rdy1, R1, hr1, hrv, hS1, hO1, hfr⟩ := of_sh hS hO hp1
      have sm := sm_all hrv h40 12 0 0 n parts htb (Nat.le_refl parts)
      have hst1 : pf_st X w1 T ne wd n := ⟨parts, ks, ls, ss, rdy1, R1, st0, BF, AF, hS1, hn, hp, hO1⟩
      have s11b := hS1.2.2.2.1.2.2 0 (by decide)
      have d11 : pw_d X 11 0 := hX 11 0 (by simp [dm_k])
      refine pw_iload_n C d_PF_reached_30 rfl ?_
      refine pw_laldK C d_PF_reached_31 d11 s11b hi ?_
      refine pw_lret C zr zk d_PF_reached_32 ?_
      exact ⟨hfr, hst1, Or.inr (Or.inr ⟨yn_t hj h7, i, hi, rfl, fun y hy => nz_of (sm.2.2 i hi y hy)⟩)⟩
    · refine pw_ldc2_w C d_PF_reached_19 (v := -1) W_224 ?_
      refine pw_lret C zr zk d_PF_reached_22 ?_
      exact ⟨fun g _ => rfl, hst0, Or.inr (Or.inl ⟨yn_t hj h7, yn_f ha h16, rfl⟩)⟩
  · refine pw_lconst C d_PF_reached_10 (v := 0) (by decide) ?_
    refine pw_lret C zr zk d_PF_reached_11 ?_
    exact ⟨fun g _ => rfl, hst0, Or.inl ⟨yn_f hj h7, rfl⟩⟩
set_option maxHeartbeats 4000000 in
set_option maxRecDepth 100000 in
theorem k_PF_all (l : Launch) {X : Lay} (hI : pw_I X) (hX : Dm X) (w : Wd) {T : Nat → Nat → Int64} {ne : Int32} {wd : Nat → Int32} {n : Nat} (hst : pf_st X w T ne wd n) (a : Int32) : CtL l y_PF_all (pw_ws y_PF_all c_PF_all 6 (some .long)) { frames := 31, cells := 0, slots := 0, locals := 802 } X w [.ref (pw_a X 0 0), .int a] (fun r w1 => (∀ g, 16 < g → w1 g = w g) ∧ pf_st X w1 T ne wd n ∧ ((¬ is_n a 64 ∧ r = -1) ∨ (is_n a 64 ∧ ¬ lk_f wd n = 0 ∧ r = -2) ∨ (lk_f wd n = 0 ∧ ∃ i, i < 64 ∧ a = nI i ∧ r = lN (cp_f (sg_f (fun y => cn_f T wd 12 0 i y) 64))))) := by
  have hst0 := hst
  obtain ⟨parts, ks, ls, ss, rdy, R, st0, BF, AF, hS, hn, hp, hO⟩ := hst
  have hpw := p_id hS
  have hV := v_of_sh hS
  obtain ⟨s0, sg1, ⟨s4, s5, s6, s7, s8⟩, ⟨s9, s10, s11⟩, s12, s13, s14, s15, s16⟩ := id hS
  refine pw_open (by decide) hI [some (.ref (pw_a X 0 0)), some (.int a), none, none, none, none] rfl (Nat.le_of_ble_eq_true rfl) ?_
  intro zp ze zs zm za zb zt zc hargs C zr zk hnm
  refine pw_iload_n C d_PF_all_0 rfl ?_
  refine pw_callSi C (k_PF_isPoint l hI _ a) ⟨pw_cb C 1 W_153 W_1 W_223 ⟨rfl, rfl⟩ (by decide +kernel) ⟨(Nat.le_of_ble_eq_true rfl), (Nat.le_of_ble_eq_true rfl)⟩, pw_w C W_152⟩ rfl rfl (Nat.le_of_ble_eq_true rfl) d_PF_all_1 ⟨Nat.zero_le _, Nat.zero_le _⟩ (fun rp w9 ha => ?_)
  obtain ⟨e9, ha⟩ := ha
  refine MW.world e9 ?_
  refine pw_if_ne C 11 d_PF_all_4 (by decide) (fun h4 => ?_) (fun h4 => ?_)
  · refine pw_aload_n C d_PF_all_11 rfl ?_
    refine pw_get C d_PF_all_12 (hX 0 0 rfl) s0 1 rfl rfl (by decide) in_PF W_128 rfl ?_
    refine MW.world hpw.symm ?_
    refine pw_callVNi C (k_PA_isJust l hI hX w) (hX 4 0 rfl) rfl rfl ⟨pw_cn C 0 W_228 W_3 N_27 ⟨rfl, rfl⟩ (by decide +kernel) ⟨(Nat.le_of_ble_eq_true rfl), (Nat.le_of_ble_eq_true rfl)⟩, pw_w C W_227, pw_w C V_9⟩ rfl rfl (Nat.le_of_ble_eq_true rfl) d_PF_all_15 ⟨Nat.zero_le _, Nat.zero_le _⟩ (fun rj w9 hj => ?_)
    obtain ⟨e9, hj⟩ := hj
    refine MW.world (e9.trans hpw) ?_
    refine pw_if_ne C 25 d_PF_all_18 (by decide) (fun h18 => ?_) (fun h18 => ?_)
    · obtain ⟨htb, hfl, h0, h40⟩ := js_f hn (yn_t hj h18) hp
      obtain ⟨i, hi, rfl⟩ := yn_t ha h4
      refine pw_aload_n C d_PF_all_25 rfl ?_
      refine pw_get C d_PF_all_26 (hX 0 0 rfl) s0 3 rfl rfl (by decide) in_PF W_130 rfl ?_
      refine pw_iload_n C d_PF_all_29 rfl ?_
      refine pw_callVNr C (k_CN_from l hI hX w hS hO h40 h0 hfl hi) (hX 12 0 rfl) s12 rfl ⟨pw_cn C 1 W_233 W_5 N_28 ⟨rfl, rfl⟩ (by decide +kernel) ⟨(Nat.le_of_ble_eq_true rfl), (Nat.le_of_ble_eq_true rfl)⟩, pw_w C W_232, pw_w C V_10⟩ rfl rfl (Nat.le_of_ble_eq_true rfl) d_PF_all_30 ⟨Nat.zero_le _, Nat.zero_le _⟩ (fun w2 hp1 => ?_)
      obtain ⟨rdy1, R1, BF1, AF1, hr1, hS1, hO1, hA, hfr⟩ := hp1
      have sm := sm_all (hO1.1 hr1) h40 12 0 0 n parts htb (Nat.le_refl parts)
      have hst1 : pf_st X w2 T ne wd n := ⟨parts, ks, ls, ss, rdy1, R1, nI i, BF1, AF1, hS1, hn, hp, hO1⟩
      have hAc : ∀ y, y < 64 → AF1 y = lN (cp_f (cn_f T wd 12 0 i y)) := fun y hy => by
        rw [(hA y hy).1, ← sm.2.1 i hi y hy]
      refine pw_astore_n C d_PF_all_33 (by decide) ?_
      refine pw_lconst C d_PF_all_34 (v := 0) (by decide) ?_
      refine pw_lstore_n C d_PF_all_35 (by decide) ?_
      refine pw_iconst C d_PF_all_36 (v := 0) (by decide) ?_
      refine pw_istore C d_PF_all_37 (by decide) ?_
      have L : ∀ d k : Nat, k + d = 64 → MW zp l ze ({ frames := 31, cells := 0, slots := 0, locals := 802 } : Room) zs zm za zb zt zc X 6 0 0 (MQ zb (va_Ql (fun r w1 => (∀ g, 16 < g → w1 g = w g) ∧ pf_st X w1 T ne wd n ∧ ((¬ is_n (nI i) 64 ∧ r = -1) ∨ (is_n (nI i) 64 ∧ ¬ lk_f wd n = 0 ∧ r = -2) ∨ (lk_f wd n = 0 ∧ ∃ i1, i1 < 64 ∧ nI i = nI i1 ∧ r = lN (cp_f (sg_f (fun y => cn_f T wd 12 0 i1 y) 64))))) (pw_B X) (pw_F X)) za zs 0 0 (pw_F X)) w2 39 [some (.ref (pw_a X 0 0)), some (.int (nI i)), some (.ref (pw_a X 14 0)), some (.long (lN (cp_f (sg_f (fun y => cn_f T wd 12 0 i y) k)))), none, some (.int (nI k))] [] := by
        intro d
        induction d with
        | zero =>
          intro k hkd
          have hk64 : k = 64 := by omega
          subst hk64
          refine pw_iload C d_PF_all_39 rfl ?_
          refine pw_bipush C d_PF_all_41 (v := 64) (by decide) ?_
          refine pw_icmp_ge C 61 d_PF_all_43 (by decide) (fun h43 => ?_) (fun h43 => ?_)
          · refine pw_lload_n C d_PF_all_61 rfl ?_
            refine pw_lret C zr zk d_PF_all_62 ?_
            exact ⟨hfr, hst1, Or.inr (Or.inr ⟨yn_t hj h18, i, hi, rfl, rfl⟩)⟩
          · exact absurd (nI_le (a := 64) (b := 64) (by omega) (by omega)) h43
        | succ d ih =>
          intro k hkd
          refine pw_iload C d_PF_all_39 rfl ?_
          refine pw_bipush C d_PF_all_41 (v := 64) (by decide) ?_
          refine pw_icmp_ge C 61 d_PF_all_43 (by decide) (fun h43 => ?_) (fun h43 => ?_)
          · exact absurd ((nI_leI (a := 64) (by decide) (by omega)).mp h43) (by omega)
          refine pw_lload_n C d_PF_all_46 rfl ?_
          refine pw_aload_n C d_PF_all_47 rfl ?_
          refine pw_iload C d_PF_all_48 rfl ?_
          refine pw_laldK C d_PF_all_50 (hX 14 0 rfl) hS1.2.2.2.2.2.2.1 (by omega) ?_
          rw [hAc k (by omega)]
          refine pw_callSl C (k_PF_sumOf l hI _ (cp_le _) (cp_le _)) ⟨pw_cb C 2 W_296 W_1 W_324 ⟨rfl, rfl⟩ (by decide +kernel) ⟨(Nat.le_of_ble_eq_true rfl), (Nat.le_of_ble_eq_true rfl)⟩, pw_w C W_295⟩ rfl rfl (Nat.le_of_ble_eq_true rfl) d_PF_all_51 ⟨Nat.zero_le _, Nat.zero_le _⟩ (fun rs w9 hs => ?_)
          obtain ⟨e9, hs⟩ := hs
          subst hs
          refine MW.world e9 ?_
          refine pw_lstore_n C d_PF_all_54 (by decide) ?_
          refine pw_iinc1 C d_PF_all_55 rfl (by decide) ?_
          refine pw_goto C 39 d_PF_all_58 (by decide) ?_
          rw [cp_add, cp_add']
          exact ih (k + 1) (by omega)
      exact L 64 0 rfl
    · refine pw_ldc2_w C d_PF_all_21 (v := -2) W_229 ?_
      refine pw_lret C zr zk d_PF_all_24 ?_
      exact ⟨fun g _ => rfl, hst0, Or.inr (Or.inl ⟨yn_t ha h4, yn_f hj h18, rfl⟩)⟩
  · refine pw_ldc2_w C d_PF_all_7 (v := -1) W_224 ?_
    refine pw_lret C zr zk d_PF_all_10 ?_
    exact ⟨fun g _ => rfl, hst0, Or.inl ⟨yn_f ha h4, rfl⟩⟩
set_option maxHeartbeats 4000000 in
set_option maxRecDepth 100000 in
theorem k_PF_reaching (l : Launch) {X : Lay} (hI : pw_I X) (hX : Dm X) (w : Wd) {T : Nat → Nat → Int64} {ne : Int32} {wd : Nat → Int32} {n : Nat} (hst : pf_st X w T ne wd n) (a : Int32) : CtL l y_PF_reaching (pw_ws y_PF_reaching c_PF_reaching 6 (some .long)) { frames := 6, cells := 0, slots := 0, locals := 138 } X w [.ref (pw_a X 0 0), .int a] (fun r w1 => (∀ g, 16 < g → w1 g = w g) ∧ pf_st X w1 T ne wd n ∧ ((¬ (lk_f wd n = 0 ∧ is_n a 64) ∧ r = 0) ∨ (lk_f wd n = 0 ∧ ∃ j1, j1 < 64 ∧ a = nI j1 ∧ ∀ x, x < 64 → bt_f r x = nz_f (cn_f T wd 12 0) x j1))) := by
  have hst0 := hst
  obtain ⟨parts, ks, ls, ss, rdy, R, st0, BF, AF, hS, hn, hp, hO⟩ := hst
  have hpw := p_id hS
  have hV := v_of_sh hS
  obtain ⟨s0, sg1, ⟨s4, s5, s6, s7, s8⟩, ⟨s9, s10, s11⟩, s12, s13, s14, s15, s16⟩ := id hS
  refine pw_open (by decide) hI [some (.ref (pw_a X 0 0)), some (.int a), none, none, none, none] rfl (Nat.le_of_ble_eq_true rfl) ?_
  intro zp ze zs zm za zb zt zc hargs C zr zk hnm
  refine pw_aload_n C d_PF_reaching_0 rfl ?_
  refine pw_get C d_PF_reaching_1 (hX 0 0 rfl) s0 1 rfl rfl (by decide) in_PF W_128 rfl ?_
  refine MW.world hpw.symm ?_
  refine pw_callVNi C (k_PA_isJust l hI hX w) (hX 4 0 rfl) rfl rfl ⟨pw_cn C 0 W_228 W_3 N_27 ⟨rfl, rfl⟩ (by decide +kernel) ⟨(Nat.le_of_ble_eq_true rfl), (Nat.le_of_ble_eq_true rfl)⟩, pw_w C W_227, pw_w C V_9⟩ rfl rfl (Nat.le_of_ble_eq_true rfl) d_PF_reaching_4 ⟨Nat.zero_le _, Nat.zero_le _⟩ (fun rj w9 hj => ?_)
  obtain ⟨e9, hj⟩ := hj
  refine MW.world (e9.trans hpw) ?_
  refine pw_if_eq C 17 d_PF_reaching_7 (by decide) (fun h7 => ?_) (fun h7 => ?_)
  · refine pw_lconst C d_PF_reaching_17 (v := 0) (by decide) ?_
    refine pw_lret C zr zk d_PF_reaching_18 ?_
    exact ⟨fun g _ => rfl, hst0, Or.inl ⟨fun q => yn_f hj h7 q.1, rfl⟩⟩
  · refine pw_iload_n C d_PF_reaching_10 rfl ?_
    refine pw_callSi C (k_PF_isPoint l hI _ a) ⟨pw_cb C 1 W_153 W_1 W_223 ⟨rfl, rfl⟩ (by decide +kernel) ⟨(Nat.le_of_ble_eq_true rfl), (Nat.le_of_ble_eq_true rfl)⟩, pw_w C W_152⟩ rfl rfl (Nat.le_of_ble_eq_true rfl) d_PF_reaching_11 ⟨Nat.zero_le _, Nat.zero_le _⟩ (fun rp w9 ha => ?_)
    obtain ⟨e9, ha⟩ := ha
    refine MW.world e9 ?_
    refine pw_if_ne C 19 d_PF_reaching_14 (by decide) (fun h14 => ?_) (fun h14 => ?_)
    · obtain ⟨htb, hfl, h0, h40⟩ := js_f hn (yn_t hj h7) hp
      obtain ⟨j, hj2, rfl⟩ := yn_t ha h14
      refine pw_aload_n C d_PF_reaching_19 rfl ?_
      refine pw_get C d_PF_reaching_20 (hX 0 0 rfl) s0 2 rfl rfl (by decide) in_PF W_129 rfl ?_
      refine MW.world (r_id s11).symm ?_
      refine pw_callVNr C (k_RE_ofPath l hI hX w (R := R) hV h40 (fun _ => hfl) s9) (hX 9 0 rfl) (by rw [r_row (by decide)]; exact s9) rfl ⟨pw_cn C 0 W_238 W_4 N_35 ⟨rfl, rfl⟩ (by decide +kernel) ⟨(Nat.le_of_ble_eq_true rfl), (Nat.le_of_ble_eq_true rfl)⟩, pw_w C W_237, pw_w C V_11⟩ rfl rfl (Nat.le_of_ble_eq_true rfl) d_PF_reaching_23 ⟨Nat.zero_le _, Nat.zero_le _⟩ (fun w1 hp1 => ?_)
      obtain ⟨rdy1, R1, hr1, hrv, hS1, hO1, hfr⟩ := of_sh hS hO hp1
      have sm := sm_all hrv h40 12 0 0 n parts htb (Nat.le_refl parts)
      have hst1 : pf_st X w1 T ne wd n := ⟨parts, ks, ls, ss, rdy1, R1, st0, BF, AF, hS1, hn, hp, hO1⟩
      have s11b := hS1.2.2.2.1.2.2 0 (by decide)
      have d11 : pw_d X 11 0 := hX 11 0 (by simp [dm_k])
      refine pw_astore_n C d_PF_reaching_26 (by decide) ?_
      refine pw_lconst C d_PF_reaching_27 (v := 0) (by decide) ?_
      refine pw_lstore_n C d_PF_reaching_28 (by decide) ?_
      refine pw_iconst C d_PF_reaching_29 (v := 0) (by decide) ?_
      refine pw_istore C d_PF_reaching_30 (by decide) ?_
      have L : ∀ d k : Nat, k + d = 64 → ∀ v : Int64, (∀ x, x < 64 → bt_f v x = (decide (x < k) && nz_f (cn_f T wd 12 0) x j)) → MW zp l ze ({ frames := 6, cells := 0, slots := 0, locals := 138 } : Room) zs zm za zb zt zc X 6 0 0 (MQ zb (va_Ql (fun r w1 => (∀ g, 16 < g → w1 g = w g) ∧ pf_st X w1 T ne wd n ∧ ((¬ (lk_f wd n = 0 ∧ is_n (nI j) 64) ∧ r = 0) ∨ (lk_f wd n = 0 ∧ ∃ j1, j1 < 64 ∧ nI j = nI j1 ∧ ∀ x, x < 64 → bt_f r x = nz_f (cn_f T wd 12 0) x j1))) (pw_B X) (pw_F X)) za zs 0 0 (pw_F X)) w1 32 [some (.ref (pw_a X 0 0)), some (.int (nI j)), some (.ref (pw_a X 11 0)), some (.long v), none, some (.int (nI k))] [] := by
        intro d
        induction d with
        | zero =>
          intro k hkd v hv
          refine pw_iload C d_PF_reaching_32 rfl ?_
          refine pw_bipush C d_PF_reaching_34 (v := 64) (by decide) ?_
          refine pw_icmp_ge C 64 d_PF_reaching_36 (by decide) (fun h36 => ?_) (fun h36 => ?_)
          · refine pw_lload_n C d_PF_reaching_64 rfl ?_
            refine pw_lret C zr zk d_PF_reaching_65 ?_
            refine ⟨hfr, hst1, Or.inr ⟨yn_t hj h7, j, hj2, rfl, fun x hx => ?_⟩⟩
            rw [hv x hx]
            simp [show x < k by omega]
          · exact absurd (nI_le (a := 64) (b := k) (by omega) (by omega)) h36
        | succ d ih =>
          intro k hkd v hv
          have hbk := nz_of (M := cn_f T wd 12 0) (sm.2.2 k (by omega) j hj2)
          refine pw_iload C d_PF_reaching_32 rfl ?_
          refine pw_bipush C d_PF_reaching_34 (v := 64) (by decide) ?_
          refine pw_icmp_ge C 64 d_PF_reaching_36 (by decide) (fun h36 => ?_) (fun h36 => ?_)
          · exact absurd ((nI_leI (a := 64) (by decide) (by omega)).mp h36) (by omega)
          refine pw_aload_n C d_PF_reaching_39 rfl ?_
          refine pw_iload C d_PF_reaching_40 rfl ?_
          refine pw_laldK C d_PF_reaching_42 d11 s11b (by omega) ?_
          refine pw_iload_n C d_PF_reaching_43 rfl ?_
          refine pw_callSi C (k_PF_holds l hI _ _ hj2) ⟨pw_cb C 2 W_159 W_1 W_329 ⟨rfl, rfl⟩ (by decide +kernel) ⟨(Nat.le_of_ble_eq_true rfl), (Nat.le_of_ble_eq_true rfl)⟩, pw_w C W_158⟩ rfl rfl (Nat.le_of_ble_eq_true rfl) d_PF_reaching_44 ⟨Nat.zero_le _, Nat.zero_le _⟩ (fun rh w9 hh => ?_)
          obtain ⟨e9, hh⟩ := hh
          refine MW.world e9 ?_
          refine pw_if_eq C 58 d_PF_reaching_47 (by decide) (fun h47 => ?_) (fun h47 => ?_)
          · refine pw_iinc1 C d_PF_reaching_58 rfl (by decide) ?_
            refine pw_goto C 32 d_PF_reaching_61 (by decide) ?_
            refine ih (k + 1) (by omega) v (fun x hx => ?_)
            rw [hv x hx]
            by_cases q : x = k
            · subst q
              have hz : nz_f (cn_f T wd 12 0) x j = false := by
                rw [← hbk]
                cases hb : bt_f (R1 0 x) j with
                | false => rfl
                | true => exact absurd hb (yn_f hh h47)
              simp [hz]
            · by_cases q2 : x < k
              · have q3 : x < k + 1 := by omega
                simp [q2, q3]
              · have q3 : ¬ x < k + 1 := by omega
                simp [q2, q3]
          · refine pw_lload_n C d_PF_reaching_50 rfl ?_
            refine pw_iload C d_PF_reaching_51 rfl ?_
            refine pw_callSl C (k_PF_bit l hI _ k) ⟨pw_cb C 1 W_162 W_1 W_330 ⟨rfl, rfl⟩ (by decide +kernel) ⟨(Nat.le_of_ble_eq_true rfl), (Nat.le_of_ble_eq_true rfl)⟩, pw_w C W_161⟩ rfl rfl (Nat.le_of_ble_eq_true rfl) d_PF_reaching_53 ⟨Nat.zero_le _, Nat.zero_le _⟩ (fun rb w9 hb => ?_)
            obtain ⟨e9, hb⟩ := hb
            subst hb
            refine MW.world e9 ?_
            refine pw_lor C d_PF_reaching_56 ?_
            refine pw_lstore_n C d_PF_reaching_57 (by decide) ?_
            refine pw_iinc1 C d_PF_reaching_58 rfl (by decide) ?_
            refine pw_goto C 32 d_PF_reaching_61 (by decide) ?_
            refine ih (k + 1) (by omega) _ (fun x hx => ?_)
            rw [bt_or, bt_bit (by omega), hv x hx]
            by_cases q : x = k
            · subst q
              have hz : nz_f (cn_f T wd 12 0) x j = true := by
                rw [← hbk]
                exact yn_t hh h47
              simp [hz]
            · by_cases q2 : x < k
              · have q3 : x < k + 1 := by omega
                simp [q, q2, q3]
              · have q3 : ¬ x < k + 1 := by omega
                simp [q, q2, q3]
      exact L 64 0 rfl 0 (fun x hx => by rw [bt_0]; simp)
    · refine pw_lconst C d_PF_reaching_17 (v := 0) (by decide) ?_
      refine pw_lret C zr zk d_PF_reaching_18 ?_
      exact ⟨fun g _ => rfl, hst0, Or.inl ⟨fun q => yn_f ha h14 q.2, rfl⟩⟩
set_option maxHeartbeats 4000000 in
set_option maxRecDepth 100000 in
theorem k_PF_pairs (l : Launch) {X : Lay} (hI : pw_I X) (hX : Dm X) (w : Wd) {T : Nat → Nat → Int64} {ne : Int32} {wd : Nat → Int32} {n : Nat} (hst : pf_st X w T ne wd n) : CtI l y_PF_pairs (pw_ws y_PF_pairs c_PF_pairs 4 (some .int)) { frames := 6, cells := 0, slots := 0, locals := 138 } X w [.ref (pw_a X 0 0)] (fun r w1 => (∀ g, 16 < g → w1 g = w g) ∧ pf_st X w1 T ne wd n ∧ ((¬ lk_f wd n = 0 ∧ r = -2) ∨ (lk_f wd n = 0 ∧ r = nI (sg_f (fun x => sg_f (fun y => if nz_f (cn_f T wd 12 0) x y then 1 else 0) 64) 64)))) := by
  have hst0 := hst
  obtain ⟨parts, ks, ls, ss, rdy, R, st0, BF, AF, hS, hn, hp, hO⟩ := hst
  have hpw := p_id hS
  have hV := v_of_sh hS
  obtain ⟨s0, sg1, ⟨s4, s5, s6, s7, s8⟩, ⟨s9, s10, s11⟩, s12, s13, s14, s15, s16⟩ := id hS
  refine pw_open (by decide) hI [some (.ref (pw_a X 0 0)), none, none, none] rfl (Nat.le_of_ble_eq_true rfl) ?_
  intro zp ze zs zm za zb zt zc hargs C zr zk hnm
  refine pw_aload_n C d_PF_pairs_0 rfl ?_
  refine pw_get C d_PF_pairs_1 (hX 0 0 rfl) s0 1 rfl rfl (by decide) in_PF W_128 rfl ?_
  refine MW.world hpw.symm ?_
  refine pw_callVNi C (k_PA_isJust l hI hX w) (hX 4 0 rfl) rfl rfl ⟨pw_cn C 0 W_228 W_3 N_27 ⟨rfl, rfl⟩ (by decide +kernel) ⟨(Nat.le_of_ble_eq_true rfl), (Nat.le_of_ble_eq_true rfl)⟩, pw_w C W_227, pw_w C V_9⟩ rfl rfl (Nat.le_of_ble_eq_true rfl) d_PF_pairs_4 ⟨Nat.zero_le _, Nat.zero_le _⟩ (fun rj w9 hj => ?_)
  obtain ⟨e9, hj⟩ := hj
  refine MW.world (e9.trans hpw) ?_
  refine pw_if_ne C 13 d_PF_pairs_7 (by decide) (fun h7 => ?_) (fun h7 => ?_)
  · obtain ⟨htb, hfl, h0, h40⟩ := js_f hn (yn_t hj h7) hp
    refine pw_aload_n C d_PF_pairs_13 rfl ?_
    refine pw_get C d_PF_pairs_14 (hX 0 0 rfl) s0 2 rfl rfl (by decide) in_PF W_129 rfl ?_
    refine MW.world (r_id s11).symm ?_
    refine pw_callVNr C (k_RE_ofPath l hI hX w (R := R) hV h40 (fun _ => hfl) s9) (hX 9 0 rfl) (by rw [r_row (by decide)]; exact s9) rfl ⟨pw_cn C 0 W_238 W_4 N_35 ⟨rfl, rfl⟩ (by decide +kernel) ⟨(Nat.le_of_ble_eq_true rfl), (Nat.le_of_ble_eq_true rfl)⟩, pw_w C W_237, pw_w C V_11⟩ rfl rfl (Nat.le_of_ble_eq_true rfl) d_PF_pairs_17 ⟨Nat.zero_le _, Nat.zero_le _⟩ (fun w1 hp1 => ?_)
    obtain ⟨rdy1, R1, hr1, hrv, hS1, hO1, hfr⟩ := of_sh hS hO hp1
    have sm := sm_all hrv h40 12 0 0 n parts htb (Nat.le_refl parts)
    have hst1 : pf_st X w1 T ne wd n := ⟨parts, ks, ls, ss, rdy1, R1, st0, BF, AF, hS1, hn, hp, hO1⟩
    have s11b := hS1.2.2.2.1.2.2 0 (by decide)
    have d11 : pw_d X 11 0 := hX 11 0 (by simp [dm_k])
    refine pw_astore_n C d_PF_pairs_20 (by decide) ?_
    refine pw_iconst C d_PF_pairs_21 (v := 0) (by decide) ?_
    refine pw_istore_n C d_PF_pairs_22 (by decide) ?_
    refine pw_iconst C d_PF_pairs_23 (v := 0) (by decide) ?_
    refine pw_istore_n C d_PF_pairs_24 (by decide) ?_
    have L : ∀ d k : Nat, k + d = 64 → MW zp l ze ({ frames := 6, cells := 0, slots := 0, locals := 138 } : Room) zs zm za zb zt zc X 4 0 0 (MQ zb (va_Qi (fun r w1 => (∀ g, 16 < g → w1 g = w g) ∧ pf_st X w1 T ne wd n ∧ ((¬ lk_f wd n = 0 ∧ r = -2) ∨ (lk_f wd n = 0 ∧ r = nI (sg_f (fun x => sg_f (fun y => if nz_f (cn_f T wd 12 0) x y then 1 else 0) 64) 64)))) (pw_B X) (pw_F X)) za zs 0 0 (pw_F X)) w1 25 [some (.ref (pw_a X 0 0)), some (.ref (pw_a X 11 0)), some (.int (nI (sg_f (fun x => sg_f (fun y => if nz_f (cn_f T wd 12 0) x y then 1 else 0) 64) k))), some (.int (nI k))] [] := by
      intro d
      induction d with
      | zero =>
        intro k hkd
        have hk64 : k = 64 := by omega
        subst hk64
        refine pw_iload_n C d_PF_pairs_25 rfl ?_
        refine pw_bipush C d_PF_pairs_26 (v := 64) (by decide) ?_
        refine pw_icmp_ge C 46 d_PF_pairs_28 (by decide) (fun h28 => ?_) (fun h28 => ?_)
        · refine pw_iload_n C d_PF_pairs_46 rfl ?_
          refine pw_iret C zr zk d_PF_pairs_47 ?_
          exact ⟨hfr, hst1, Or.inr ⟨yn_t hj h7, rfl⟩⟩
        · exact absurd (nI_le (a := 64) (b := 64) (by omega) (by omega)) h28
      | succ d ih =>
        intro k hkd
        refine pw_iload_n C d_PF_pairs_25 rfl ?_
        refine pw_bipush C d_PF_pairs_26 (v := 64) (by decide) ?_
        refine pw_icmp_ge C 46 d_PF_pairs_28 (by decide) (fun h28 => ?_) (fun h28 => ?_)
        · exact absurd ((nI_leI (a := 64) (by decide) (by omega)).mp h28) (by omega)
        refine pw_iload_n C d_PF_pairs_31 rfl ?_
        refine pw_aload_n C d_PF_pairs_32 rfl ?_
        refine pw_iload_n C d_PF_pairs_33 rfl ?_
        refine pw_laldK C d_PF_pairs_34 d11 s11b (by omega) ?_
        refine pw_callSi C (k_LO_bc l hI _ _) ⟨pw_cb C 1 W_312 W_8 W_310 ⟨rfl, rfl⟩ (by decide +kernel) ⟨(Nat.le_of_ble_eq_true rfl), (Nat.le_of_ble_eq_true rfl)⟩, pw_w C W_311⟩ rfl rfl (Nat.le_of_ble_eq_true rfl) d_PF_pairs_35 ⟨Nat.zero_le _, Nat.zero_le _⟩ (fun rb w9 hb => ?_)
        obtain ⟨e9, hb⟩ := hb
        subst hb
        refine MW.world e9 ?_
        rw [bc_nz (fun y hy => nz_of (sm.2.2 k (by omega) y hy))]
        refine pw_iadd C d_PF_pairs_38 ?_
        rw [nI_add]
        refine pw_istore_n C d_PF_pairs_39 (by decide) ?_
        refine pw_iinc1 C d_PF_pairs_40 rfl (by decide) ?_
        refine pw_goto C 25 d_PF_pairs_43 (by decide) ?_
        exact ih (k + 1) (by omega)
    exact L 64 0 rfl
  · refine pw_bipush C d_PF_pairs_10 (v := -2) (by decide) ?_
    refine pw_iret C zr zk d_PF_pairs_12 ?_
    exact ⟨fun g _ => rfl, hst0, Or.inl ⟨yn_f hj h7, rfl⟩⟩
end
section
/-! THE REFERENCE: its cells, its small methods -/
def m_w (X : Lay) (w : Wd) (tE : Nat → Bool) (cnt : Int32) (wd : Nat → Int32) (sz : Int32) (st : Nat → Int32) (pt : Int32) (lk : Nat → Int32) (tb : Nat → Int64) (rk : Int32) (sp : Nat → Int64) : Wd := fun g i => if i = 0 then (if g = 20 then oB 5 [.ref (pw_a X 21 0), .int cnt, .ref (pw_a X 22 0), .int sz, .ref (pw_a X 23 0), .int pt, .ref (pw_a X 24 0), .ref (pw_a X 25 0), .int rk, .ref (pw_a X 26 0)] else if g = 21 then aZ X 32768 (fun m => bi_f (tE m)) else if g = 22 then aI X 60 wd else if g = 23 then aI X 41 st else if g = 24 then aI X 16 lk else if g = 25 then aL X 61440 tb else if g = 26 then aL X 64 sp else w g i) else w g i
theorem m_u20 {X : Lay} {w : Wd} {tE : Nat → Bool} {cnt sz pt rk : Int32} {wd st lk : Nat → Int32} {tb sp : Nat → Int64} {c1 s1 p1 r1 : Int32} : pw_up (m_w X w tE cnt wd sz st pt lk tb rk sp) 20 0 (oB 5 [.ref (pw_a X 21 0), .int c1, .ref (pw_a X 22 0), .int s1, .ref (pw_a X 23 0), .int p1, .ref (pw_a X 24 0), .ref (pw_a X 25 0), .int r1, .ref (pw_a X 26 0)]) = m_w X w tE c1 wd s1 st p1 lk tb r1 sp := by
  funext g i
  by_cases hi : i = 0
  · by_cases hg : g = 20
    · subst hi; subst hg; rfl
    · rw [pw_up_ne _ _ (fun q => hg q.1)]
      simp only [m_w, hi, hg, if_true, if_false]
  · rw [pw_up_ne _ _ (fun q => hi q.2)]
    simp only [m_w, hi, if_false]
theorem m_u21 {X : Lay} {w : Wd} {tE : Nat → Bool} {cnt sz pt rk : Int32} {wd st lk : Nat → Int32} {tb sp : Nat → Int64} {f : Nat → Bool} : pw_up (m_w X w tE cnt wd sz st pt lk tb rk sp) 21 0 (aZ X 32768 (fun m => bi_f (f m))) = m_w X w f cnt wd sz st pt lk tb rk sp := by
  funext g i
  by_cases hi : i = 0
  · by_cases hg : g = 21
    · subst hi; subst hg; rfl
    · rw [pw_up_ne _ _ (fun q => hg q.1)]
      simp only [m_w, hi, hg, if_true, if_false]
  · rw [pw_up_ne _ _ (fun q => hi q.2)]
    simp only [m_w, hi, if_false]
theorem m_u22 {X : Lay} {w : Wd} {tE : Nat → Bool} {cnt sz pt rk : Int32} {wd st lk : Nat → Int32} {tb sp : Nat → Int64} {f : Nat → Int32} : pw_up (m_w X w tE cnt wd sz st pt lk tb rk sp) 22 0 (aI X 60 f) = m_w X w tE cnt f sz st pt lk tb rk sp := by
  funext g i
  by_cases hi : i = 0
  · by_cases hg : g = 22
    · subst hi; subst hg; rfl
    · rw [pw_up_ne _ _ (fun q => hg q.1)]
      simp only [m_w, hi, hg, if_true, if_false]
  · rw [pw_up_ne _ _ (fun q => hi q.2)]
    simp only [m_w, hi, if_false]
theorem m_u23 {X : Lay} {w : Wd} {tE : Nat → Bool} {cnt sz pt rk : Int32} {wd st lk : Nat → Int32} {tb sp : Nat → Int64} {f : Nat → Int32} : pw_up (m_w X w tE cnt wd sz st pt lk tb rk sp) 23 0 (aI X 41 f) = m_w X w tE cnt wd sz f pt lk tb rk sp := by
  funext g i
  by_cases hi : i = 0
  · by_cases hg : g = 23
    · subst hi; subst hg; rfl
    · rw [pw_up_ne _ _ (fun q => hg q.1)]
      simp only [m_w, hi, hg, if_true, if_false]
  · rw [pw_up_ne _ _ (fun q => hi q.2)]
    simp only [m_w, hi, if_false]
theorem m_u24 {X : Lay} {w : Wd} {tE : Nat → Bool} {cnt sz pt rk : Int32} {wd st lk : Nat → Int32} {tb sp : Nat → Int64} {f : Nat → Int32} : pw_up (m_w X w tE cnt wd sz st pt lk tb rk sp) 24 0 (aI X 16 f) = m_w X w tE cnt wd sz st pt f tb rk sp := by
  funext g i
  by_cases hi : i = 0
  · by_cases hg : g = 24
    · subst hi; subst hg; rfl
    · rw [pw_up_ne _ _ (fun q => hg q.1)]
      simp only [m_w, hi, hg, if_true, if_false]
  · rw [pw_up_ne _ _ (fun q => hi q.2)]
    simp only [m_w, hi, if_false]
theorem m_u25 {X : Lay} {w : Wd} {tE : Nat → Bool} {cnt sz pt rk : Int32} {wd st lk : Nat → Int32} {tb sp : Nat → Int64} {f : Nat → Int64} : pw_up (m_w X w tE cnt wd sz st pt lk tb rk sp) 25 0 (aL X 61440 f) = m_w X w tE cnt wd sz st pt lk f rk sp := by
  funext g i
  by_cases hi : i = 0
  · by_cases hg : g = 25
    · subst hi; subst hg; rfl
    · rw [pw_up_ne _ _ (fun q => hg q.1)]
      simp only [m_w, hi, hg, if_true, if_false]
  · rw [pw_up_ne _ _ (fun q => hi q.2)]
    simp only [m_w, hi, if_false]
theorem m_u26 {X : Lay} {w : Wd} {tE : Nat → Bool} {cnt sz pt rk : Int32} {wd st lk : Nat → Int32} {tb sp : Nat → Int64} {f : Nat → Int64} : pw_up (m_w X w tE cnt wd sz st pt lk tb rk sp) 26 0 (aL X 64 f) = m_w X w tE cnt wd sz st pt lk tb rk f := by
  funext g i
  by_cases hi : i = 0
  · by_cases hg : g = 26
    · subst hi; subst hg; rfl
    · rw [pw_up_ne _ _ (fun q => hg q.1)]
      simp only [m_w, hi, hg, if_true, if_false]
  · rw [pw_up_ne _ _ (fun q => hi q.2)]
    simp only [m_w, hi, if_false]
theorem m_row {X : Lay} {w : Wd} {tE : Nat → Bool} {cnt sz pt rk : Int32} {wd st lk : Nat → Int32} {tb sp : Nat → Int64} {g : Nat} (h : g < 20 ∨ 26 < g) : m_w X w tE cnt wd sz st pt lk tb rk sp g = w g := by
  funext i
  by_cases hi : i = 0
  · simp only [m_w, hi, if_true, show ¬ g = 20 by omega, show ¬ g = 21 by omega, show ¬ g = 22 by omega, show ¬ g = 23 by omega, show ¬ g = 24 by omega, show ¬ g = 25 by omega, show ¬ g = 26 by omega, if_false]
  · simp only [m_w, hi, if_false]
theorem th_up {tE : Nat → Bool} {k : Nat} {v : Int32} {b : Bool} (h : v = bi_f b) : upd (fun m => bi_f (tE m)) k v = fun m => bi_f (va_up tE k b m) := by
  funext m
  by_cases q : m = k
  · subst q; rw [pk_us, vu_self]; exact h
  · rw [pk_un q, vu_ne q]
theorem bi_0 {b : Bool} : bi_f b = 0 ↔ b = false := by cases b <;> simp [bi_f]
def ix_f (k i j : Nat) : Nat := 4096 * k + 64 * i + j
theorem ix_lt {k i j : Nat} (hk : k < 8) (hi : i < 64) (hj : j < 64) : ix_f k i j < 32768 := by unfold ix_f; omega
theorem ix_inj {k i j k1 i1 j1 : Nat} (hi : i < 64) (hj : j < 64) (hi1 : i1 < 64) (hj1 : j1 < 64) (h : ix_f k i j = ix_f k1 i1 j1) : k = k1 ∧ i = i1 ∧ j = j1 := by
  unfold ix_f at h; omega
set_option maxHeartbeats 4000000 in
set_option maxRecDepth 100000 in
theorem k_MO_isEdge (l : Launch) {X : Lay} (hI : pw_I X) (w : Wd) (a b c : Int32) : CtI l y_MO_isEdge (pw_ws y_MO_isEdge c_MO_isEdge 3 (some .boolean)) { frames := 1, cells := 0, slots := 0, locals := 20 } X w [.int a, .int b, .int c] (fun r w1 => w1 = w ∧ yn r (is_n a 64 ∧ is_n b 8 ∧ is_n c 64)) := by
  refine pw_open (by decide) hI [some (.int a), some (.int b), some (.int c)] rfl (Nat.le_of_ble_eq_true rfl) ?_
  intro zp ze zs zm za zb zt zc hargs C zr zk hnm
  refine pw_iload_n C d_MO_isEdge_0 rfl ?_
  refine pw_callSi C (k_MO_isPoint l hI _ a) ⟨pw_cb C 1 W_384 W_6 W_382 ⟨rfl, rfl⟩ (by decide +kernel) ⟨(Nat.le_of_ble_eq_true rfl), (Nat.le_of_ble_eq_true rfl)⟩, pw_w C W_383⟩ rfl rfl (Nat.le_of_ble_eq_true rfl) d_MO_isEdge_1 ⟨Nat.zero_le _, Nat.zero_le _⟩ (fun r w9 hp1 => ?_)
  obtain ⟨e9, hp1⟩ := hp1
  refine MW.world e9 ?_
  refine pw_if_eq C 28 d_MO_isEdge_4 (by decide) (fun h4 => ?_) (fun h4 => ?_)
  · refine pw_iconst C d_MO_isEdge_28 (v := 0) (by decide) ?_
    refine pw_zret C zr (by first | rfl | decide) zk d_MO_isEdge_29 ?_
    exact ⟨rfl, yn_0 (fun q => yn_f hp1 h4 q.1)⟩
  · refine pw_iload_n C d_MO_isEdge_7 rfl ?_
    refine pw_callSi C (k_MO_isPoint l hI _ c) ⟨pw_cb C 1 W_384 W_6 W_382 ⟨rfl, rfl⟩ (by decide +kernel) ⟨(Nat.le_of_ble_eq_true rfl), (Nat.le_of_ble_eq_true rfl)⟩, pw_w C W_383⟩ rfl rfl (Nat.le_of_ble_eq_true rfl) d_MO_isEdge_8 ⟨Nat.zero_le _, Nat.zero_le _⟩ (fun r w9 hp3 => ?_)
    obtain ⟨e9, hp3⟩ := hp3
    refine MW.world e9 ?_
    refine pw_if_eq C 28 d_MO_isEdge_11 (by decide) (fun h11 => ?_) (fun h11 => ?_)
    · refine pw_iconst C d_MO_isEdge_28 (v := 0) (by decide) ?_
      refine pw_zret C zr (by first | rfl | decide) zk d_MO_isEdge_29 ?_
      exact ⟨rfl, yn_0 (fun q => yn_f hp3 h11 q.2.2)⟩
    · refine pw_iload_n C d_MO_isEdge_14 rfl ?_
      refine pw_if_lt C 28 d_MO_isEdge_15 (by decide) (fun h15 => ?_) (fun h15 => ?_)
      · refine pw_iconst C d_MO_isEdge_28 (v := 0) (by decide) ?_
        refine pw_zret C zr (by first | rfl | decide) zk d_MO_isEdge_29 ?_
        exact ⟨rfl, yn_0 (fun q => is_neg (by decide) h15 q.2.1)⟩
      · refine pw_iload_n C d_MO_isEdge_18 rfl ?_
        refine pw_bipush C d_MO_isEdge_19 (v := 8) (by decide) ?_
        refine pw_icmp_ge C 28 d_MO_isEdge_21 (by decide) (fun h21 => ?_) (fun h21 => ?_)
        · refine pw_iconst C d_MO_isEdge_28 (v := 0) (by decide) ?_
          refine pw_zret C zr (by first | rfl | decide) zk d_MO_isEdge_29 ?_
          exact ⟨rfl, yn_0 (fun q => is_big (by decide) h21 q.2.1)⟩
        · refine pw_iconst C d_MO_isEdge_24 (v := 1) (by decide) ?_
          refine pw_goto C 29 d_MO_isEdge_25 (by decide) ?_
          refine pw_zret C zr (by first | rfl | decide) zk d_MO_isEdge_29 ?_
          exact ⟨rfl, yn_1 ⟨yn_t hp1 h4, is_of (by decide) h15 h21, yn_t hp3 h11⟩⟩
set_option maxHeartbeats 4000000 in
set_option maxRecDepth 100000 in
theorem k_MO_place (l : Launch) {X : Lay} (hI : pw_I X) (w : Wd) (i k j : Nat) : CtI l y_MO_place (pw_ws y_MO_place c_MO_place 3 (some .int)) { frames := 0, cells := 0, slots := 0, locals := 0 } X w [.int (nI i), .int (nI k), .int (nI j)] (fun r w1 => w1 = w ∧ r = nI (ix_f k i j)) := by
  refine pw_open (by decide) hI [some (.int (nI i)), some (.int (nI k)), some (.int (nI j))] rfl (Nat.le_of_ble_eq_true rfl) ?_
  intro zp ze zs zm za zb zt zc hargs C zr zk hnm
  refine pw_sipush C d_MO_place_0 (v := 4096) (by decide) ?_
  refine pw_iload_n C d_MO_place_3 rfl ?_
  refine pw_imul C d_MO_place_4 ?_
  refine pw_bipush C d_MO_place_5 (v := 64) (by decide) ?_
  refine pw_iload_n C d_MO_place_7 rfl ?_
  refine pw_imul C d_MO_place_8 ?_
  refine pw_iadd C d_MO_place_9 ?_
  refine pw_iload_n C d_MO_place_10 rfl ?_
  refine pw_iadd C d_MO_place_11 ?_
  refine pw_iret C zr zk d_MO_place_12 ?_
  refine ⟨rfl, ?_⟩
  rw [show (4096 : Int32) * nI k = nI (4096 * k) from pk_mul 4096 k, show (64 : Int32) * nI i = nI (64 * i) from pk_mul 64 i, nI_add, nI_add]
  rfl
def ch_f (v : Int32) : Nat := if v = 2 ∨ v = 3 then 2 else if v = 0 ∨ v = 7 then 0 else 1
set_option maxHeartbeats 4000000 in
set_option maxRecDepth 100000 in
theorem k_MO_children (l : Launch) {X : Lay} (hI : pw_I X) (w : Wd) (v : Int32) : CtI l y_MO_children (pw_ws y_MO_children c_MO_children 1 (some .int)) { frames := 0, cells := 0, slots := 0, locals := 0 } X w [.int v] (fun r w1 => w1 = w ∧ r = nI (ch_f v)) := by
  refine pw_open (by decide) hI [some (.int v)] rfl (Nat.le_of_ble_eq_true rfl) ?_
  intro zp ze zs zm za zb zt zc hargs C zr zk hnm
  refine pw_iload_n C d_MO_children_0 rfl ?_
  refine pw_iconst C d_MO_children_1 (v := 2) (by decide) ?_
  refine pw_icmp_eq C 10 d_MO_children_2 (by decide) (fun h2 => ?_) (fun h2 => ?_)
  · refine pw_iconst C d_MO_children_10 (v := 2) (by decide) ?_
    refine pw_goto C 29 d_MO_children_11 (by decide) ?_
    refine pw_iret C zr zk d_MO_children_29 ?_
    refine ⟨rfl, ?_⟩
    unfold ch_f; rw [if_pos (Or.inl h2)]; rfl
  · refine pw_iload_n C d_MO_children_5 rfl ?_
    refine pw_iconst C d_MO_children_6 (v := 3) (by decide) ?_
    refine pw_icmp_ne C 14 d_MO_children_7 (by decide) (fun h7 => ?_) (fun h7 => ?_)
    · refine pw_iload_n C d_MO_children_14 rfl ?_
      refine pw_if_eq C 24 d_MO_children_15 (by decide) (fun h15 => ?_) (fun h15 => ?_)
      · refine pw_iconst C d_MO_children_24 (v := 0) (by decide) ?_
        refine pw_goto C 29 d_MO_children_25 (by decide) ?_
        refine pw_iret C zr zk d_MO_children_29 ?_
        refine ⟨rfl, ?_⟩
        unfold ch_f; rw [if_neg (fun q => q.elim h2 h7), if_pos (Or.inl h15)]; rfl
      · refine pw_iload_n C d_MO_children_18 rfl ?_
        refine pw_bipush C d_MO_children_19 (v := 7) (by decide) ?_
        refine pw_icmp_ne C 28 d_MO_children_21 (by decide) (fun h21 => ?_) (fun h21 => ?_)
        · refine pw_iconst C d_MO_children_28 (v := 1) (by decide) ?_
          refine pw_iret C zr zk d_MO_children_29 ?_
          refine ⟨rfl, ?_⟩
          unfold ch_f; rw [if_neg (fun q => q.elim h2 h7), if_neg (fun q => q.elim h15 h21)]; rfl
        · refine pw_iconst C d_MO_children_24 (v := 0) (by decide) ?_
          refine pw_goto C 29 d_MO_children_25 (by decide) ?_
          refine pw_iret C zr zk d_MO_children_29 ?_
          refine ⟨rfl, ?_⟩
          unfold ch_f; rw [if_neg (fun q => q.elim h2 h7), if_pos (Or.inr h21)]; rfl
    · refine pw_iconst C d_MO_children_10 (v := 2) (by decide) ?_
      refine pw_goto C 29 d_MO_children_11 (by decide) ?_
      refine pw_iret C zr zk d_MO_children_29 ?_
      refine ⟨rfl, ?_⟩
      unfold ch_f; rw [if_pos (Or.inr h7)]; rfl
theorem le_15 {a : Nat} (ha : a < 2 ^ 62) : (lg_cmp (lN a) 1000000000000000 ≤ 0 ↔ a ≤ C15) := by
  rw [← Int32.not_lt, show (0 : Int32) < lg_cmp (lN a) 1000000000000000 ↔ (1000000000000000 : Int64) < lN a from ?_]
  · have := pk_lLT (a := 1000000000000000) (b := a) (by decide) (by omega)
    rw [show (1000000000000000 : Int64) = lN 1000000000000000 from rfl, this]
    unfold C15; omega
  · unfold lg_cmp
    split
    · rename_i h; exact ⟨fun _ => h, fun _ => by decide⟩
    · rename_i h
      split
      · exact ⟨fun q => absurd q (by decide), fun q => absurd q h⟩
      · exact ⟨fun q => absurd q (by decide), fun q => absurd q h⟩
set_option maxHeartbeats 4000000 in
set_option maxRecDepth 100000 in
theorem k_MO_least (l : Launch) {X : Lay} (hI : pw_I X) (w : Wd) {a : Nat} (ha : a < 2 ^ 62) : CtL l y_MO_least (pw_ws y_MO_least c_MO_least 2 (some .long)) { frames := 0, cells := 0, slots := 0, locals := 0 } X w [.long (lN a)] (fun r w1 => w1 = w ∧ r = lN (cp_f a)) := by
  refine pw_open (by decide) hI [some (.long (lN a)), none] rfl (Nat.le_of_ble_eq_true rfl) ?_
  intro zp ze zs zm za zb zt zc hargs C zr zk hnm
  refine pw_lload_n C d_MO_least_0 rfl ?_
  refine pw_ldc2_w C d_MO_least_1 (v := 1000000000000000) W_436 ?_
  refine pw_lcmp C d_MO_least_4 ?_
  refine pw_if_le C 14 d_MO_least_5 (by decide) (fun h5 => ?_) (fun h5 => ?_)
  · refine pw_lload_n C d_MO_least_14 rfl ?_
    refine pw_lret C zr zk d_MO_least_15 ?_
    refine ⟨rfl, ?_⟩
    rw [cp_id ((le_15 ha).mp h5)]
  · refine pw_ldc2_w C d_MO_least_8 (v := 1000000000000000) W_436 ?_
    refine pw_goto C 15 d_MO_least_11 (by decide) ?_
    refine pw_lret C zr zk d_MO_least_15 ?_
    refine ⟨rfl, ?_⟩
    have := mt (le_15 ha).mpr h5
    rw [cp_big (by omega)]
    rfl
set_option maxHeartbeats 4000000 in
set_option maxRecDepth 100000 in
theorem k_MO_edge (l : Launch) {X : Lay} (hI : pw_I X) (hX : Dm X) (w : Wd) {tE : Nat → Bool} {cnt sz pt rk : Int32} {wd st lk : Nat → Int32} {tb sp : Nat → Int64} (a b c : Int32) : CtI l y_MO_edge (pw_ws y_MO_edge c_MO_edge 4 (some .int)) { frames := 2, cells := 0, slots := 0, locals := 42 } X (m_w X w tE cnt wd sz st pt lk tb rk sp) [.ref (pw_a X 20 0), .int a, .int b, .int c] (fun r w1 => (¬ (is_n a 64 ∧ is_n b 8 ∧ is_n c 64) ∧ r = -1 ∧ w1 = m_w X w tE cnt wd sz st pt lk tb rk sp) ∨ ∃ i k j : Nat, i < 64 ∧ k < 8 ∧ j < 64 ∧ a = nI i ∧ b = nI k ∧ c = nI j ∧ ((tE (ix_f k i j) = true ∧ r = 0 ∧ w1 = m_w X w tE cnt wd sz st pt lk tb rk sp) ∨ (tE (ix_f k i j) = false ∧ r = 1 ∧ w1 = m_w X w (va_up tE (ix_f k i j) true) (cnt + 1) wd sz st pt lk tb 0 sp))) := by
  refine pw_open (by decide) hI [some (.ref (pw_a X 20 0)), some (.int a), some (.int b), some (.int c)] rfl (Nat.le_of_ble_eq_true rfl) ?_
  intro zp ze zs zm za zb zt zc hargs C zr zk hnm
  refine pw_iload_n C d_MO_edge_0 rfl ?_
  refine pw_iload_n C d_MO_edge_1 rfl ?_
  refine pw_iload_n C d_MO_edge_2 rfl ?_
  refine pw_callSi C (k_MO_isEdge l hI _ a b c) ⟨pw_cb C 3 W_381 W_6 W_379 ⟨rfl, rfl⟩ (by decide +kernel) ⟨(Nat.le_of_ble_eq_true rfl), (Nat.le_of_ble_eq_true rfl)⟩, pw_w C W_380⟩ rfl rfl (Nat.le_of_ble_eq_true rfl) d_MO_edge_3 ⟨Nat.zero_le _, Nat.zero_le _⟩ (fun r w9 hp => ?_)
  obtain ⟨e9, hp⟩ := hp
  refine MW.world e9 ?_
  refine pw_if_ne C 11 d_MO_edge_6 (by decide) (fun h6 => ?_) (fun h6 => ?_)
  · obtain ⟨⟨i, hi, rfl⟩, ⟨k, hk, rfl⟩, ⟨j, hj, rfl⟩⟩ := yn_t hp h6
    have hix := ix_lt hk hi hj
    have hcl : (nI (ix_f k i j)).toNatClampNeg = ix_f k i j := nI_clamp (by omega)
    refine pw_aload_n C d_MO_edge_11 rfl ?_
    refine pw_get C d_MO_edge_12 (hX 20 0 rfl) rfl 0 rfl rfl (by decide) in_MO W_343 rfl ?_
    refine pw_iload_n C d_MO_edge_15 rfl ?_
    refine pw_iload_n C d_MO_edge_16 rfl ?_
    refine pw_iload_n C d_MO_edge_17 rfl ?_
    refine pw_callSi C (k_MO_place l hI _ i k j) ⟨pw_cb C 3 W_387 W_6 W_385 ⟨rfl, rfl⟩ (by decide +kernel) ⟨(Nat.le_of_ble_eq_true rfl), (Nat.le_of_ble_eq_true rfl)⟩, pw_w C W_386⟩ rfl rfl (Nat.le_of_ble_eq_true rfl) d_MO_edge_18 ⟨Nat.zero_le _, Nat.zero_le _⟩ (fun r2 w9 hp2 => ?_)
    obtain ⟨e9, hp2⟩ := hp2
    subst hp2
    refine MW.world e9 ?_
    refine pw_zald C d_MO_edge_21 (hX 21 0 rfl) rfl (vp_in_nI hix (by decide)) ?_
    rw [hcl]
    refine pw_if_eq C 27 d_MO_edge_22 (by decide) (fun h22 => ?_) (fun h22 => ?_)
    · refine pw_aload_n C d_MO_edge_27 rfl ?_
      refine pw_get C d_MO_edge_28 (hX 20 0 rfl) rfl 0 rfl rfl (by decide) in_MO W_343 rfl ?_
      refine pw_iload_n C d_MO_edge_31 rfl ?_
      refine pw_iload_n C d_MO_edge_32 rfl ?_
      refine pw_iload_n C d_MO_edge_33 rfl ?_
      refine pw_callSi C (k_MO_place l hI _ i k j) ⟨pw_cb C 3 W_387 W_6 W_385 ⟨rfl, rfl⟩ (by decide +kernel) ⟨(Nat.le_of_ble_eq_true rfl), (Nat.le_of_ble_eq_true rfl)⟩, pw_w C W_386⟩ rfl rfl (Nat.le_of_ble_eq_true rfl) d_MO_edge_34 ⟨Nat.zero_le _, Nat.zero_le _⟩ (fun r2 w9 hp2 => ?_)
      obtain ⟨e9, hp2⟩ := hp2
      subst hp2
      refine MW.world e9 ?_
      refine pw_iconst C d_MO_edge_37 (v := 1) (by decide) ?_
      refine pw_zast C d_MO_edge_38 (hX 21 0 rfl) rfl (vp_in_nI hix (by decide)) ?_
      rw [hcl, th_up (b := true) (by decide)]
      refine MW.world m_u21 ?_
      refine pw_aload_n C d_MO_edge_39 rfl ?_
      refine pw_dup C d_MO_edge_40 rfl ?_
      refine pw_get C d_MO_edge_41 (hX 20 0 rfl) rfl 1 rfl rfl (by decide) in_MO W_344 rfl ?_
      refine pw_iconst C d_MO_edge_44 (v := 1) (by decide) ?_
      refine pw_iadd C d_MO_edge_45 ?_
      refine pw_put C d_MO_edge_46 (hX 20 0 rfl) rfl 1 (Nat.le_of_ble_eq_true rfl) rfl (by decide) in_MO t_MO tk_MO n_MO W_344 rfl rfl (tk_MO 1 (by decide)) rfl rfl ?_
      refine MW.world m_u20 ?_
      refine pw_aload_n C d_MO_edge_49 rfl ?_
      refine pw_iconst C d_MO_edge_50 (v := 0) (by decide) ?_
      refine pw_put C d_MO_edge_51 (hX 20 0 rfl) rfl 8 (Nat.le_of_ble_eq_true rfl) rfl (by decide) in_MO t_MO tk_MO n_MO W_351 rfl rfl (tk_MO 8 (by decide)) rfl rfl ?_
      refine MW.world m_u20 ?_
      refine pw_iconst C d_MO_edge_54 (v := 1) (by decide) ?_
      refine pw_iret C zr zk d_MO_edge_55 ?_
      exact Or.inr ⟨i, k, j, hi, hk, hj, rfl, rfl, rfl, Or.inr ⟨bi_0.mp h22, rfl, rfl⟩⟩
    · refine pw_iconst C d_MO_edge_25 (v := 0) (by decide) ?_
      refine pw_iret C zr zk d_MO_edge_26 ?_
      refine Or.inr ⟨i, k, j, hi, hk, hj, rfl, rfl, rfl, Or.inl ⟨?_, rfl, rfl⟩⟩
      cases q : tE (ix_f k i j) with
      | true => rfl
      | false => exact absurd (bi_0.mpr q) h22
  · refine pw_iconst C d_MO_edge_9 (v := -1) (by decide) ?_
    refine pw_iret C zr zk d_MO_edge_10 ?_
    exact Or.inl ⟨yn_f hp h6, rfl, rfl⟩
set_option maxHeartbeats 4000000 in
set_option maxRecDepth 100000 in
theorem k_MO_drop (l : Launch) {X : Lay} (hI : pw_I X) (hX : Dm X) (w : Wd) {tE : Nat → Bool} {cnt sz pt rk : Int32} {wd st lk : Nat → Int32} {tb sp : Nat → Int64} (a b c : Int32) : CtI l y_MO_drop (pw_ws y_MO_drop c_MO_drop 4 (some .int)) { frames := 2, cells := 0, slots := 0, locals := 42 } X (m_w X w tE cnt wd sz st pt lk tb rk sp) [.ref (pw_a X 20 0), .int a, .int b, .int c] (fun r w1 => (¬ (is_n a 64 ∧ is_n b 8 ∧ is_n c 64) ∧ r = -1 ∧ w1 = m_w X w tE cnt wd sz st pt lk tb rk sp) ∨ ∃ i k j : Nat, i < 64 ∧ k < 8 ∧ j < 64 ∧ a = nI i ∧ b = nI k ∧ c = nI j ∧ ((tE (ix_f k i j) = false ∧ r = 0 ∧ w1 = m_w X w tE cnt wd sz st pt lk tb rk sp) ∨ (tE (ix_f k i j) = true ∧ r = 1 ∧ w1 = m_w X w (va_up tE (ix_f k i j) false) (cnt + (-1)) wd sz st pt lk tb 0 sp))) := by
  refine pw_open (by decide) hI [some (.ref (pw_a X 20 0)), some (.int a), some (.int b), some (.int c)] rfl (Nat.le_of_ble_eq_true rfl) ?_
  intro zp ze zs zm za zb zt zc hargs C zr zk hnm
  refine pw_iload_n C d_MO_drop_0 rfl ?_
  refine pw_iload_n C d_MO_drop_1 rfl ?_
  refine pw_iload_n C d_MO_drop_2 rfl ?_
  refine pw_callSi C (k_MO_isEdge l hI _ a b c) ⟨pw_cb C 3 W_381 W_6 W_379 ⟨rfl, rfl⟩ (by decide +kernel) ⟨(Nat.le_of_ble_eq_true rfl), (Nat.le_of_ble_eq_true rfl)⟩, pw_w C W_380⟩ rfl rfl (Nat.le_of_ble_eq_true rfl) d_MO_drop_3 ⟨Nat.zero_le _, Nat.zero_le _⟩ (fun r w9 hp => ?_)
  obtain ⟨e9, hp⟩ := hp
  refine MW.world e9 ?_
  refine pw_if_ne C 11 d_MO_drop_6 (by decide) (fun h6 => ?_) (fun h6 => ?_)
  · obtain ⟨⟨i, hi, rfl⟩, ⟨k, hk, rfl⟩, ⟨j, hj, rfl⟩⟩ := yn_t hp h6
    have hix := ix_lt hk hi hj
    have hcl : (nI (ix_f k i j)).toNatClampNeg = ix_f k i j := nI_clamp (by omega)
    refine pw_aload_n C d_MO_drop_11 rfl ?_
    refine pw_get C d_MO_drop_12 (hX 20 0 rfl) rfl 0 rfl rfl (by decide) in_MO W_343 rfl ?_
    refine pw_iload_n C d_MO_drop_15 rfl ?_
    refine pw_iload_n C d_MO_drop_16 rfl ?_
    refine pw_iload_n C d_MO_drop_17 rfl ?_
    refine pw_callSi C (k_MO_place l hI _ i k j) ⟨pw_cb C 3 W_387 W_6 W_385 ⟨rfl, rfl⟩ (by decide +kernel) ⟨(Nat.le_of_ble_eq_true rfl), (Nat.le_of_ble_eq_true rfl)⟩, pw_w C W_386⟩ rfl rfl (Nat.le_of_ble_eq_true rfl) d_MO_drop_18 ⟨Nat.zero_le _, Nat.zero_le _⟩ (fun r2 w9 hp2 => ?_)
    obtain ⟨e9, hp2⟩ := hp2
    subst hp2
    refine MW.world e9 ?_
    refine pw_zald C d_MO_drop_21 (hX 21 0 rfl) rfl (vp_in_nI hix (by decide)) ?_
    rw [hcl]
    refine pw_if_ne C 27 d_MO_drop_22 (by decide) (fun h22 => ?_) (fun h22 => ?_)
    · refine pw_aload_n C d_MO_drop_27 rfl ?_
      refine pw_get C d_MO_drop_28 (hX 20 0 rfl) rfl 0 rfl rfl (by decide) in_MO W_343 rfl ?_
      refine pw_iload_n C d_MO_drop_31 rfl ?_
      refine pw_iload_n C d_MO_drop_32 rfl ?_
      refine pw_iload_n C d_MO_drop_33 rfl ?_
      refine pw_callSi C (k_MO_place l hI _ i k j) ⟨pw_cb C 3 W_387 W_6 W_385 ⟨rfl, rfl⟩ (by decide +kernel) ⟨(Nat.le_of_ble_eq_true rfl), (Nat.le_of_ble_eq_true rfl)⟩, pw_w C W_386⟩ rfl rfl (Nat.le_of_ble_eq_true rfl) d_MO_drop_34 ⟨Nat.zero_le _, Nat.zero_le _⟩ (fun r2 w9 hp2 => ?_)
      obtain ⟨e9, hp2⟩ := hp2
      subst hp2
      refine MW.world e9 ?_
      refine pw_iconst C d_MO_drop_37 (v := 0) (by decide) ?_
      refine pw_zast C d_MO_drop_38 (hX 21 0 rfl) rfl (vp_in_nI hix (by decide)) ?_
      rw [hcl, th_up (b := false) (by decide)]
      refine MW.world m_u21 ?_
      refine pw_aload_n C d_MO_drop_39 rfl ?_
      refine pw_dup C d_MO_drop_40 rfl ?_
      refine pw_get C d_MO_drop_41 (hX 20 0 rfl) rfl 1 rfl rfl (by decide) in_MO W_344 rfl ?_
      refine pw_iconst C d_MO_drop_44 (v := 1) (by decide) ?_
      refine pw_isub C d_MO_drop_45 ?_
      refine pw_put C d_MO_drop_46 (hX 20 0 rfl) rfl 1 (Nat.le_of_ble_eq_true rfl) rfl (by decide) in_MO t_MO tk_MO n_MO W_344 rfl rfl (tk_MO 1 (by decide)) rfl rfl ?_
      refine MW.world m_u20 ?_
      refine pw_aload_n C d_MO_drop_49 rfl ?_
      refine pw_iconst C d_MO_drop_50 (v := 0) (by decide) ?_
      refine pw_put C d_MO_drop_51 (hX 20 0 rfl) rfl 8 (Nat.le_of_ble_eq_true rfl) rfl (by decide) in_MO t_MO tk_MO n_MO W_351 rfl rfl (tk_MO 8 (by decide)) rfl rfl ?_
      refine MW.world m_u20 ?_
      refine pw_iconst C d_MO_drop_54 (v := 1) (by decide) ?_
      refine pw_iret C zr zk d_MO_drop_55 ?_
      refine Or.inr ⟨i, k, j, hi, hk, hj, rfl, rfl, rfl, Or.inr ⟨?_, rfl, ?_⟩⟩
      · cases q : tE (ix_f k i j) with
        | true => rfl
        | false => exact absurd (bi_0.mpr q) h22
      · rw [Int32.sub_eq_add_neg]
    · refine pw_iconst C d_MO_drop_25 (v := 0) (by decide) ?_
      refine pw_iret C zr zk d_MO_drop_26 ?_
      exact Or.inr ⟨i, k, j, hi, hk, hj, rfl, rfl, rfl, Or.inl ⟨bi_0.mp h22, rfl, rfl⟩⟩
  · refine pw_iconst C d_MO_drop_9 (v := -1) (by decide) ?_
    refine pw_iret C zr zk d_MO_drop_10 ?_
    exact Or.inl ⟨yn_f hp h6, rfl, rfl⟩
set_option maxHeartbeats 4000000 in
set_option maxRecDepth 100000 in
theorem k_MO_edges (l : Launch) {X : Lay} (hI : pw_I X) (hX : Dm X) (w : Wd) {tE : Nat → Bool} {cnt sz pt rk : Int32} {wd st lk : Nat → Int32} {tb sp : Nat → Int64} : CtI l y_MO_edges (pw_ws y_MO_edges c_MO_edges 1 (some .int)) { frames := 0, cells := 0, slots := 0, locals := 0 } X (m_w X w tE cnt wd sz st pt lk tb rk sp) [.ref (pw_a X 20 0)] (fun r w1 => r = cnt ∧ w1 = m_w X w tE cnt wd sz st pt lk tb rk sp) := by
  refine pw_open (by decide) hI [some (.ref (pw_a X 20 0))] rfl (Nat.le_of_ble_eq_true rfl) ?_
  intro zp ze zs zm za zb zt zc hargs C zr zk hnm
  refine pw_aload_n C d_MO_edges_0 rfl ?_
  refine pw_get C d_MO_edges_1 (hX 20 0 rfl) rfl 1 rfl rfl (by decide) in_MO W_344 rfl ?_
  refine pw_iret C zr zk d_MO_edges_4 ?_
  exact ⟨rfl, rfl⟩
set_option maxHeartbeats 4000000 in
set_option maxRecDepth 100000 in
theorem k_MO_clear (l : Launch) {X : Lay} (hI : pw_I X) (hX : Dm X) (w : Wd) {tE : Nat → Bool} {cnt sz pt rk : Int32} {wd st lk : Nat → Int32} {tb sp : Nat → Int64} : CtI l y_MO_clear (pw_ws y_MO_clear c_MO_clear 2 (some .int)) { frames := 0, cells := 0, slots := 0, locals := 0 } X (m_w X w tE cnt wd sz st pt lk tb rk sp) [.ref (pw_a X 20 0)] (fun r w1 => r = sz ∧ w1 = m_w X w tE cnt wd 0 st pt lk tb 0 sp) := by
  refine pw_open (by decide) hI [some (.ref (pw_a X 20 0)), none] rfl (Nat.le_of_ble_eq_true rfl) ?_
  intro zp ze zs zm za zb zt zc hargs C zr zk hnm
  refine pw_aload_n C d_MO_clear_0 rfl ?_
  refine pw_get C d_MO_clear_1 (hX 20 0 rfl) rfl 3 rfl rfl (by decide) in_MO W_346 rfl ?_
  refine pw_istore_n C d_MO_clear_4 (by decide) ?_
  refine pw_aload_n C d_MO_clear_5 rfl ?_
  refine pw_iconst C d_MO_clear_6 (v := 0) (by decide) ?_
  refine pw_put C d_MO_clear_7 (hX 20 0 rfl) rfl 3 (Nat.le_of_ble_eq_true rfl) rfl (by decide) in_MO t_MO tk_MO n_MO W_346 rfl rfl (tk_MO 3 (by decide)) rfl rfl ?_
  refine MW.world m_u20 ?_
  refine pw_aload_n C d_MO_clear_10 rfl ?_
  refine pw_iconst C d_MO_clear_11 (v := 0) (by decide) ?_
  refine pw_put C d_MO_clear_12 (hX 20 0 rfl) rfl 8 (Nat.le_of_ble_eq_true rfl) rfl (by decide) in_MO t_MO tk_MO n_MO W_351 rfl rfl (tk_MO 8 (by decide)) rfl rfl ?_
  refine MW.world m_u20 ?_
  refine pw_iload_n C d_MO_clear_15 rfl ?_
  refine pw_iret C zr zk d_MO_clear_16 ?_
  exact ⟨rfl, rfl⟩
set_option maxHeartbeats 4000000 in
set_option maxRecDepth 100000 in
theorem k_MO_word (l : Launch) {X : Lay} (hI : pw_I X) (hX : Dm X) (w : Wd) {tE : Nat → Bool} {cnt pt rk : Int32} {wd st lk : Nat → Int32} {tb sp : Nat → Int64} {n : Nat} (hn : n ≤ 60) (v : Int32) : CtI l y_MO_word (pw_ws y_MO_word c_MO_word 2 (some .int)) { frames := 0, cells := 0, slots := 0, locals := 0 } X (m_w X w tE cnt wd (nI n) st pt lk tb rk sp) [.ref (pw_a X 20 0), .int v] (fun r w1 => (n = 60 ∧ r = -3 ∧ w1 = m_w X w tE cnt wd (nI n) st pt lk tb rk sp) ∨ (n < 60 ∧ r = nI (n + 1) ∧ w1 = m_w X w tE cnt (upd wd n v) (nI (n + 1)) st pt lk tb 0 sp)) := by
  refine pw_open (by decide) hI [some (.ref (pw_a X 20 0)), some (.int v)] rfl (Nat.le_of_ble_eq_true rfl) ?_
  intro zp ze zs zm za zb zt zc hargs C zr zk hnm
  refine pw_aload_n C d_MO_word_0 rfl ?_
  refine pw_get C d_MO_word_1 (hX 20 0 rfl) rfl 3 rfl rfl (by decide) in_MO W_346 rfl ?_
  refine pw_bipush C d_MO_word_4 (v := 60) (by decide) ?_
  refine pw_icmp_ne C 12 d_MO_word_6 (by decide) (fun h6 => ?_) (fun h6 => ?_)
  · have hlt : n < 60 := by
      rcases Nat.lt_or_ge n 60 with q | q
      · exact q
      · exact absurd (by rw [show n = 60 by omega]; rfl) h6
    refine pw_aload_n C d_MO_word_12 rfl ?_
    refine pw_get C d_MO_word_13 (hX 20 0 rfl) rfl 2 rfl rfl (by decide) in_MO W_345 rfl ?_
    refine pw_aload_n C d_MO_word_16 rfl ?_
    refine pw_get C d_MO_word_17 (hX 20 0 rfl) rfl 3 rfl rfl (by decide) in_MO W_346 rfl ?_
    refine pw_iload_n C d_MO_word_20 rfl ?_
    refine pw_iastK C d_MO_word_21 (hX 22 0 rfl) rfl hlt ?_
    refine MW.world m_u22 ?_
    refine pw_aload_n C d_MO_word_22 rfl ?_
    refine pw_dup C d_MO_word_23 rfl ?_
    refine pw_get C d_MO_word_24 (hX 20 0 rfl) rfl 3 rfl rfl (by decide) in_MO W_346 rfl ?_
    refine pw_iconst C d_MO_word_27 (v := 1) (by decide) ?_
    refine pw_iadd C d_MO_word_28 ?_
    refine pw_put C d_MO_word_29 (hX 20 0 rfl) rfl 3 (Nat.le_of_ble_eq_true rfl) rfl (by decide) in_MO t_MO tk_MO n_MO W_346 rfl rfl (tk_MO 3 (by decide)) rfl rfl ?_
    refine MW.world m_u20 ?_
    rw [nI_1]
    refine pw_aload_n C d_MO_word_32 rfl ?_
    refine pw_iconst C d_MO_word_33 (v := 0) (by decide) ?_
    refine pw_put C d_MO_word_34 (hX 20 0 rfl) rfl 8 (Nat.le_of_ble_eq_true rfl) rfl (by decide) in_MO t_MO tk_MO n_MO W_351 rfl rfl (tk_MO 8 (by decide)) rfl rfl ?_
    refine MW.world m_u20 ?_
    refine pw_aload_n C d_MO_word_37 rfl ?_
    refine pw_get C d_MO_word_38 (hX 20 0 rfl) rfl 3 rfl rfl (by decide) in_MO W_346 rfl ?_
    refine pw_iret C zr zk d_MO_word_41 ?_
    exact Or.inr ⟨hlt, rfl, rfl⟩
  · refine pw_bipush C d_MO_word_9 (v := -3) (by decide) ?_
    refine pw_iret C zr zk d_MO_word_11 ?_
    exact Or.inl ⟨(nI_eq (a := n) (b := 60) (by omega) (by decide)).mp h6, rfl, rfl⟩
end
section
/-! THE REFERENCE: look, word by word, with what lacks at each depth -/
/-- the place of the part p, when all before it stands -/
def np_f (wd : Nat → Int32) : Nat → Nat
  | 0 => 0
  | p + 1 => if wd (np_f wd p) = 0 ∨ wd (np_f wd p) = 7 then np_f wd p + 2 else np_f wd p + 1
def rn_f (wd : Nat → Int32) (n d : Nat) : Nat → Nat → Nat → Bool × Nat × Nat
  | 0, a, t => (true, a, t)
  | c + 1, a, t => match rd_f wd n d a t with
    | (true, b, t1) => rn_f wd n d c b t1
    | (false, f, t1) => (false, f, t1)
def rt_f (wd : Nat → Int32) (n : Nat) (lk : Nat → Nat) : Nat → Nat → Nat → Nat → Bool × Nat × Nat
  | 0, _, a, t => (true, a, t)
  | D + 1, c, a, t => match rn_f wd n (12 - D) c a t with
    | (true, b, t1) => rt_f wd n lk D (lk D - 1) b t1
    | (false, f, t1) => (false, f, t1)
theorem rt_one (wd : Nat → Int32) (n : Nat) (lk : Nat → Nat) (D c a t : Nat) : rt_f wd n lk (D + 1) (c + 1) a t = match rd_f wd n (12 - D) a t with
    | (true, b, t1) => rt_f wd n lk (D + 1) c b t1
    | (false, f, t1) => (false, f, t1) := by
  show (match rn_f wd n (12 - D) (c + 1) a t with
    | (true, b, t1) => rt_f wd n lk D (lk D - 1) b t1
    | (false, f, t1) => (false, f, t1)) = _
  show (match (match rd_f wd n (12 - D) a t with
    | (true, b, t1) => rn_f wd n (12 - D) c b t1
    | (false, f, t1) => (false, f, t1)) with
    | (true, b, t1) => rt_f wd n lk D (lk D - 1) b t1
    | (false, f, t1) => (false, f, t1)) = _
  rcases rd_f wd n (12 - D) a t with ⟨ok, b, t1⟩
  cases ok <;> rfl
theorem rt_bad {wd : Nat → Int32} {n : Nat} {lk : Nat → Nat} {D c a t f t1 : Nat} (h : rd_f wd n (12 - D) a t = (false, f, t1)) : rt_f wd n lk (D + 1) (c + 1) a t = (false, f, t1) := by
  rw [rt_one, h]
theorem rt_ok {wd : Nat → Int32} {n : Nat} {lk : Nat → Nat} {D c a t b t1 : Nat} (h : rd_f wd n (12 - D) a t = (true, b, t1)) : rt_f wd n lk (D + 1) (c + 1) a t = rt_f wd n lk (D + 1) c b t1 := by
  rw [rt_one, h]
theorem rt_congr (wd : Nat → Int32) (n : Nat) (lk lk' : Nat → Nat) : ∀ (D c a t : Nat), (∀ j, j < D → lk j = lk' j) → rt_f wd n lk D c a t = rt_f wd n lk' D c a t
  | 0, _, _, _, _ => rfl
  | D + 1, c, a, t, h => by
    show (match rn_f wd n (12 - D) c a t with
    | (true, b, t1) => rt_f wd n lk D (lk D - 1) b t1
    | (false, f, t1) => (false, f, t1)) = (match rn_f wd n (12 - D) c a t with
    | (true, b, t1) => rt_f wd n lk' D (lk' D - 1) b t1
    | (false, f, t1) => (false, f, t1))
    rcases rn_f wd n (12 - D) c a t with ⟨ok, b, t1⟩
    cases ok with
    | false => rfl
    | true =>
      show rt_f wd n lk D (lk D - 1) b t1 = rt_f wd n lk' D (lk' D - 1) b t1
      rw [h D (by omega)]
      exact rt_congr wd n lk lk' D _ b t1 (fun j hj => h j (by omega))
/-- a part with parts in it: its parts are read next -/
theorem rd_ch {wd : Nat → Int32} {n d a t : Nat} (h : t < 40 ∧ a < n ∧ 0 ≤ wd a ∧ wd a ≤ 7) (h2 : ¬ (wd a = 0 ∨ wd a = 7)) : rd_f wd n (d + 1) a t = rn_f wd n d (ch_f (wd a)) (a + 1) (t + 1) := by
  rcases h1 : rd_f wd n d (a + 1) (t + 1) with ⟨ok1, b1, t2⟩
  by_cases c4 : wd a = 2 ∨ wd a = 3
  · have e : ch_f (wd a) = 1 + 1 := if_pos c4
    rw [e]
    show _ = (match rd_f wd n d (a + 1) (t + 1) with
      | (true, b, t1) => rn_f wd n d 1 b t1
      | (false, f, t1) => (false, f, t1))
    rw [h1]
    cases ok1 with
    | false => exact rd_f1 h h2 h1
    | true =>
      rw [rd_b h h2 h1 c4]
      show _ = (match rd_f wd n d b1 t2 with
        | (true, b, t1) => rn_f wd n d 0 b t1
        | (false, f, t1) => (false, f, t1))
      rcases rd_f wd n d b1 t2 with ⟨ok2, b2, t3⟩
      cases ok2 <;> rfl
  · have e : ch_f (wd a) = 0 + 1 := (if_neg c4).trans (if_neg h2)
    rw [e]
    show _ = (match rd_f wd n d (a + 1) (t + 1) with
      | (true, b, t1) => rn_f wd n d 0 b t1
      | (false, f, t1) => (false, f, t1))
    rw [h1]
    cases ok1 with
    | false => exact rd_f1 h h2 h1
    | true => exact rd_u h h2 h1 c4
theorem rt_ch {wd : Nat → Int32} {n : Nat} {lk : Nat → Nat} {D a t : Nat} (hD : D < 12) (h : t < 40 ∧ a < n ∧ 0 ≤ wd a ∧ wd a ≤ 7) (h2 : ¬ (wd a = 0 ∨ wd a = 7)) (hc : 1 ≤ lk (D + 1)) : rt_f wd n lk (D + 1) (lk (D + 1)) a t = rt_f wd n (va_up lk (D + 2) (ch_f (wd a))) (D + 2) (ch_f (wd a)) (a + 1) (t + 1) := by
  obtain ⟨c, hce⟩ : ∃ c, lk (D + 1) = c + 1 := ⟨lk (D + 1) - 1, by omega⟩
  obtain ⟨d, hd⟩ : ∃ d, 12 - D = d + 1 := ⟨12 - D - 1, by omega⟩
  have e1 : rd_f wd n (12 - D) a t = rn_f wd n (12 - (D + 1)) (ch_f (wd a)) (a + 1) (t + 1) := by
    rw [hd, rd_ch h h2, show 12 - (D + 1) = d by omega]
  rw [hce, rt_one, e1]
  show _ = (match rn_f wd n (12 - (D + 1)) (ch_f (wd a)) (a + 1) (t + 1) with
    | (true, b, t1) => rt_f wd n (va_up lk (D + 2) (ch_f (wd a))) (D + 1) (va_up lk (D + 2) (ch_f (wd a)) (D + 1) - 1) b t1
    | (false, f, t1) => (false, f, t1))
  rcases rn_f wd n (12 - (D + 1)) (ch_f (wd a)) (a + 1) (t + 1) with ⟨ok, b, t1⟩
  cases ok with
  | false => rfl
  | true =>
    show rt_f wd n lk (D + 1) c b t1 = rt_f wd n (va_up lk (D + 2) (ch_f (wd a))) (D + 1) (va_up lk (D + 2) (ch_f (wd a)) (D + 1) - 1) b t1
    rw [vu_ne (by omega), hce]
    exact rt_congr wd n _ _ (D + 1) _ b t1 (fun j hj => (vu_ne (by omega)).symm)
def cd_f (n : Nat) (res : Bool × Nat × Nat) : Int32 := match res with
  | (true, b, _) => if b < n then -100 - nI b else 0
  | (false, f, _) => -100 - nI f
def lo_post (X : Lay) (w : Wd) (tE : Nat → Bool) (cnt : Int32) (wd : Nat → Int32) (n : Nat) (tb : Nat → Int64) (rk : Int32) (sp : Nat → Int64) (res : Bool × Nat × Nat) (r : Int32) (w1 : Wd) : Prop :=
  ∃ st1 t1 lk1, w1 = m_w X w tE cnt wd (nI n) st1 (nI t1) lk1 tb rk sp ∧ r = cd_f n res ∧ (res.1 = true → t1 = res.2.2 ∧ ∀ p, p < t1 → st1 p = nI (np_f wd p))
set_option maxHeartbeats 4000000 in
set_option maxRecDepth 100000 in
theorem k_MO_look (l : Launch) {X : Lay} (hI : pw_I X) (hX : Dm X) (w : Wd) {tE : Nat → Bool} {cnt pt rk : Int32} {wd st lk : Nat → Int32} {tb sp : Nat → Int64} {n : Nat} (hn : n ≤ 60) : CtI l y_MO_look (pw_ws y_MO_look c_MO_look 4 (some .int)) { frames := 1, cells := 0, slots := 0, locals := 20 } X (m_w X w tE cnt wd (nI n) st pt lk tb rk sp) [.ref (pw_a X 20 0)] (lo_post X w tE cnt wd n tb rk sp (rd_f wd n 12 0 0)) := by
  refine pw_open (by decide) hI [some (.ref (pw_a X 20 0)), none, none, none] rfl (Nat.le_of_ble_eq_true rfl) ?_
  intro zp ze zs zm za zb zt zc hargs C zr zk hnm
  have HD : ∀ (a t : Nat) (st lk : Nat → Int32) (lc : Nat → Nat), a ≤ n → (∀ p, p < t → st p = nI (np_f wd p)) → MW zp l ze ({ frames := 1, cells := 0, slots := 0, locals := 20 } : Room) zs zm za zb zt zc X 4 0 0 (MQ zb (va_Qi (lo_post X w tE cnt wd n tb rk sp (true, a, t)) (pw_B X) (pw_F X)) za zs 0 0 (pw_F X)) (m_w X w tE cnt wd (nI n) st (nI t) lk tb rk sp) 16 [some (.ref (pw_a X 20 0)), some (.int (nI a)), some (.int (nI 0)), none] [] := by
    intro a t st lk lc han hst
    refine pw_iload_n C d_MO_look_16 rfl ?_
    refine pw_if_le C 229 d_MO_look_17 (by decide) (fun h17 => ?_) (fun h17 => ?_)
    · refine pw_iload_n C d_MO_look_229 rfl ?_
      refine pw_aload_n C d_MO_look_230 rfl ?_
      refine pw_get C d_MO_look_231 (hX 20 0 rfl) rfl 3 rfl rfl (by decide) in_MO W_346 rfl ?_
      refine pw_icmp_ge C 244 d_MO_look_234 (by decide) (fun h234 => ?_) (fun h234 => ?_)
      · refine pw_iconst C d_MO_look_244 (v := 0) (by decide) ?_
        refine pw_iret C zr zk d_MO_look_245 ?_
        refine ⟨st, t, lk, rfl, ?_, fun _ => ⟨rfl, hst⟩⟩
        have : ¬ a < n := fun q => absurd h234 (nI_ge q (by omega))
        exact (if_neg this).symm
      · refine pw_bipush C d_MO_look_237 (v := -100) (by decide) ?_
        refine pw_iload_n C d_MO_look_239 rfl ?_
        refine pw_isub C d_MO_look_240 ?_
        refine pw_goto C 245 d_MO_look_241 (by decide) ?_
        refine pw_iret C zr zk d_MO_look_245 ?_
        refine ⟨st, t, lk, rfl, ?_, fun _ => ⟨rfl, hst⟩⟩
        have : a < n := Nat.not_le.mp (fun q => h234 (nI_le q (by omega)))
        exact (if_pos this).symm
    · exact absurd (show nI 0 ≤ 0 by decide) h17
  have HI : ∀ (a t : Nat), a ≤ n → (∀ (D : Nat) (st lk : Nat → Int32) (lc : Nat → Nat), 1 ≤ D → D ≤ 13 → 1 ≤ lc D → (∀ j, 1 ≤ j → j ≤ D → lc j ≤ 2) → (∀ j, 1 ≤ j → j ≤ D → lk j = nI (lc j)) → (∀ j, 1 ≤ j → j < D → 1 ≤ lc j) → (∀ p, p < t → st p = nI (np_f wd p)) → MW zp l ze ({ frames := 1, cells := 0, slots := 0, locals := 20 } : Room) zs zm za zb zt zc X 4 0 0 (MQ zb (va_Qi (lo_post X w tE cnt wd n tb rk sp (rt_f wd n lc D (lc D) a t)) (pw_B X) (pw_F X)) za zs 0 0 (pw_F X)) (m_w X w tE cnt wd (nI n) st (nI t) lk tb rk sp) 16 [some (.ref (pw_a X 20 0)), some (.int (nI a)), some (.int (nI D)), none] []) → ∀ (D : Nat) (st lk : Nat → Int32) (lc : Nat → Nat), D ≤ 13 → (∀ j, 1 ≤ j → j ≤ D → lc j ≤ 2) → (∀ j, 1 ≤ j → j ≤ D → lk j = nI (lc j)) → (∀ j, 1 ≤ j → j < D → 1 ≤ lc j) → (∀ p, p < t → st p = nI (np_f wd p)) → MW zp l ze ({ frames := 1, cells := 0, slots := 0, locals := 20 } : Room) zs zm za zb zt zc X 4 0 0 (MQ zb (va_Qi (lo_post X w tE cnt wd n tb rk sp (rt_f wd n lc D (lc D) a t)) (pw_B X) (pw_F X)) za zs 0 0 (pw_F X)) (m_w X w tE cnt wd (nI n) st (nI t) lk tb rk sp) 193 [some (.ref (pw_a X 20 0)), some (.int (nI a)), some (.int (nI D)), none] [] := by
    intro a t han hhead D
    induction D with
    | zero =>
      intro st lk lc hD13 hc2 hl1 hl2 hst
      refine pw_iload_n C d_MO_look_193 rfl ?_
      refine pw_if_le C 226 d_MO_look_194 (by decide) (fun h194 => ?_) (fun h194 => ?_)
      · refine pw_goto C 16 d_MO_look_226 (by decide) ?_
        exact HD a t st lk lc han hst
      · exact absurd (show nI 0 ≤ 0 by decide) h194
    | succ D ih =>
      intro st lk lc hD13 hc2 hl1 hl2 hst
      have hlD : lk (D + 1) = nI (lc (D + 1)) := hl1 (D + 1) (by omega) (Nat.le_refl _)
      refine pw_iload_n C d_MO_look_193 rfl ?_
      refine pw_if_le C 226 d_MO_look_194 (by decide) (fun h194 => ?_) (fun h194 => ?_)
      · exact absurd h194 (nI_nle (by omega) (by omega))
      refine pw_aload_n C d_MO_look_197 rfl ?_
      refine pw_get C d_MO_look_198 (hX 20 0 rfl) rfl 6 rfl rfl (by decide) in_MO W_349 rfl ?_
      refine pw_iload_n C d_MO_look_201 rfl ?_
      refine pw_ialdK C d_MO_look_202 (hX 24 0 rfl) rfl (by omega) ?_
      rw [hlD]
      refine pw_if_ne C 226 d_MO_look_203 (by decide) (fun h203 => ?_) (fun h203 => ?_)
      · refine pw_goto C 16 d_MO_look_226 (by decide) ?_
        have hnz : 1 ≤ lc (D + 1) := by
          rcases Nat.eq_zero_or_pos (lc (D + 1)) with q | q
          · rw [q] at h203; exact absurd rfl h203
          · exact q
        exact MW.less (lv' := [some (.ref (pw_a X 20 0)), some (.int (nI a)), some (.int (nI (D + 1))), none]) (by intro i v h; rcases i with _ | _ | _ | _ | i <;> first | exact h | (simp at h)) (hhead (D + 1) st lk lc (by omega) hD13 hnz hc2 hl1 hl2 hst)
      · refine pw_iinc C d_MO_look_206 rfl (by decide) ?_
        rw [show nI (D + 1) + Int32.ofInt (-1) = nI D from by rw [show Int32.ofInt (-1) = -1 from by decide]; exact pk_m1 D]
        refine pw_iload_n C d_MO_look_209 rfl ?_
        refine pw_if_le C 193 d_MO_look_210 (by decide) (fun h210 => ?_) (fun h210 => ?_)
        · have hD0 : D = 0 := by
            rcases Nat.eq_zero_or_pos D with q | q
            · exact q
            · exact absurd h210 (nI_nle q (by omega))
          subst hD0
          have hz : lc (0 + 1) = 0 := by
            rcases Nat.eq_zero_or_pos (lc (0 + 1)) with q | q
            · exact q
            · exact absurd h203 (nI_ne0 q (Nat.lt_of_le_of_lt (hc2 _ (by omega) (Nat.le_refl _)) (by decide)))
          have := ih st lk lc (by omega) (fun j h1 h2 => absurd h2 (by omega)) (fun j h1 h2 => absurd h2 (by omega)) (fun j h1 h2 => absurd h2 (by omega)) hst
          rw [hz]
          exact this
        · refine pw_aload_n C d_MO_look_213 rfl ?_
          refine pw_get C d_MO_look_214 (hX 20 0 rfl) rfl 6 rfl rfl (by decide) in_MO W_349 rfl ?_
          refine pw_iload_n C d_MO_look_217 rfl ?_
          refine pw_dup2 C d_MO_look_218 rfl rfl ?_
          refine pw_ialdK C d_MO_look_219 (hX 24 0 rfl) rfl (by omega) ?_
          refine pw_iconst C d_MO_look_220 (v := 1) (by decide) ?_
          refine pw_isub C d_MO_look_221 ?_
          refine pw_iastK C d_MO_look_222 (hX 24 0 rfl) rfl (by omega) ?_
          refine pw_goto C 193 d_MO_look_223 (by decide) ?_
          have hDp : 1 ≤ D := by
            rcases Nat.eq_zero_or_pos D with q | q
            · subst q; exact absurd (show nI 0 ≤ 0 by decide) h210
            · exact q
          have hz : lc (D + 1) = 0 := by
            rcases Nat.eq_zero_or_pos (lc (D + 1)) with q | q
            · exact q
            · exact absurd h203 (nI_ne0 q (Nat.lt_of_le_of_lt (hc2 _ (by omega) (Nat.le_refl _)) (by decide)))
          have hd1 := hl2 D hDp (by omega)
          rw [hl1 D hDp (by omega)]
          obtain ⟨c, hc⟩ : ∃ c, lc D = c + 1 := ⟨lc D - 1, by omega⟩
          rw [hc, nI_pred]
          refine MW.world m_u24 ?_
          have e : rt_f wd n lc (D + 1) (lc (D + 1)) a t = rt_f wd n (va_up lc D c) D (va_up lc D c D) a t := by
            rw [hz, vu_self]
            show rt_f wd n lc D (lc D - 1) a t = _
            rw [hc, Nat.add_sub_cancel]
            exact rt_congr wd n _ _ D c a t (fun j hj => (vu_ne (by omega)).symm)
          rw [e]
          refine ih st _ (va_up lc D c) (by omega) (fun j h1 h2 => ?_) (fun j h1 h2 => ?_) (fun j h1 h2 => ?_) hst
          · by_cases q : j = D
            · subst q; rw [vu_self]; have := hc2 j h1 (by omega); omega
            · rw [vu_ne q]; exact hc2 j h1 (by omega)
          · by_cases q : j = D
            · subst q; rw [pk_us, vu_self]
            · rw [pk_un q, vu_ne q]; exact hl1 j h1 (by omega)
          · rw [vu_ne (by omega)]; exact hl2 j h1 (by omega)
  have HH : ∀ (e : Nat) (a t : Nat), a ≤ n → n ≤ a + e → t ≤ 40 → a = np_f wd t → ∀ (D : Nat) (st lk : Nat → Int32) (lc : Nat → Nat), 1 ≤ D → D ≤ 13 → 1 ≤ lc D → (∀ j, 1 ≤ j → j ≤ D → lc j ≤ 2) → (∀ j, 1 ≤ j → j ≤ D → lk j = nI (lc j)) → (∀ j, 1 ≤ j → j < D → 1 ≤ lc j) → (∀ p, p < t → st p = nI (np_f wd p)) → MW zp l ze ({ frames := 1, cells := 0, slots := 0, locals := 20 } : Room) zs zm za zb zt zc X 4 0 0 (MQ zb (va_Qi (lo_post X w tE cnt wd n tb rk sp (rt_f wd n lc D (lc D) a t)) (pw_B X) (pw_F X)) za zs 0 0 (pw_F X)) (m_w X w tE cnt wd (nI n) st (nI t) lk tb rk sp) 16 [some (.ref (pw_a X 20 0)), some (.int (nI a)), some (.int (nI D)), none] [] := by
    intro e
    induction e with
    | zero =>
      intro a t han hne ht40 hnp D st lk lc hD1 hD13 hc1 hc2 hl1 hl2 hst
      have hae : a = n := by omega
      obtain ⟨D0, rfl⟩ : ∃ D0, D = D0 + 1 := ⟨D - 1, by omega⟩
      obtain ⟨c0, hc0⟩ : ∃ c0, lc (D0 + 1) = c0 + 1 := ⟨lc (D0 + 1) - 1, by omega⟩
      have hbad : rd_f wd n (12 - D0) a t = (false, a, t) := by
        cases h12 : 12 - D0 with
        | zero => rfl
        | succ d => exact rd_no (fun q => by omega)
      refine pw_iload_n C d_MO_look_16 rfl ?_
      refine pw_if_le C 229 d_MO_look_17 (by decide) (fun h17 => ?_) (fun h17 => ?_)
      · exact absurd h17 (nI_nle (by omega) (by omega))
      refine pw_iload_n C d_MO_look_20 rfl ?_
      refine pw_aload_n C d_MO_look_21 rfl ?_
      refine pw_get C d_MO_look_22 (hX 20 0 rfl) rfl 3 rfl rfl (by decide) in_MO W_346 rfl ?_
      refine pw_icmp_ne C 36 d_MO_look_25 (by decide) (fun h25 => ?_) (fun h25 => ?_)
      · exact absurd (by rw [hae]) h25
      refine pw_bipush C d_MO_look_28 (v := -100) (by decide) ?_
      refine pw_aload_n C d_MO_look_30 rfl ?_
      refine pw_get C d_MO_look_31 (hX 20 0 rfl) rfl 3 rfl rfl (by decide) in_MO W_346 rfl ?_
      refine pw_isub C d_MO_look_34 ?_
      refine pw_iret C zr zk d_MO_look_35 ?_
      rw [hc0, rt_bad hbad]
      exact ⟨st, t, lk, rfl, by rw [hae]; rfl, fun q => (by cases q)⟩
    | succ e ihe =>
      intro a t han hne ht40 hnp D st lk lc hD1 hD13 hc1 hc2 hl1 hl2 hst
      obtain ⟨D0, rfl⟩ : ∃ D0, D = D0 + 1 := ⟨D - 1, by omega⟩
      obtain ⟨c0, hc0⟩ : ∃ c0, lc (D0 + 1) = c0 + 1 := ⟨lc (D0 + 1) - 1, by omega⟩
      have hbadw : ¬ (t < 40 ∧ a < n ∧ 0 ≤ wd a ∧ wd a ≤ 7) ∨ D0 = 12 → rd_f wd n (12 - D0) a t = (false, a, t) := by
        intro q
        cases h12 : 12 - D0 with
        | zero => rfl
        | succ d => exact rd_no (fun z => q.elim (fun q => q z) (fun q => by omega))
      refine pw_iload_n C d_MO_look_16 rfl ?_
      refine pw_if_le C 229 d_MO_look_17 (by decide) (fun h17 => ?_) (fun h17 => ?_)
      · exact absurd h17 (nI_nle (by omega) (by omega))
      refine pw_iload_n C d_MO_look_20 rfl ?_
      refine pw_aload_n C d_MO_look_21 rfl ?_
      refine pw_get C d_MO_look_22 (hX 20 0 rfl) rfl 3 rfl rfl (by decide) in_MO W_346 rfl ?_
      refine pw_icmp_ne C 36 d_MO_look_25 (by decide) (fun h25 => ?_) (fun h25 => ?_)
      · have hlt : a < n := by
          rcases Nat.lt_or_ge a n with q | q
          · exact q
          · exact absurd (by rw [show a = n by omega]) h25
        refine pw_aload_n C d_MO_look_36 rfl ?_
        refine pw_get C d_MO_look_37 (hX 20 0 rfl) rfl 2 rfl rfl (by decide) in_MO W_345 rfl ?_
        refine pw_iload_n C d_MO_look_40 rfl ?_
        refine pw_ialdK C d_MO_look_41 (hX 22 0 rfl) rfl (by omega) ?_
        refine pw_istore_n C d_MO_look_42 (by decide) ?_
        refine pw_iload_n C d_MO_look_43 rfl ?_
        refine pw_if_lt C 68 d_MO_look_44 (by decide) (fun h44 => ?_) (fun h44 => ?_)
        · refine pw_bipush C d_MO_look_68 (v := -100) (by decide) ?_
          refine pw_iload_n C d_MO_look_70 rfl ?_
          refine pw_isub C d_MO_look_71 ?_
          refine pw_iret C zr zk d_MO_look_72 ?_
          rw [hc0, rt_bad (hbadw (Or.inl (fun q => Int32.not_lt.mpr q.2.2.1 h44)))]
          exact ⟨st, t, lk, rfl, rfl, fun q => (by cases q)⟩
        · refine pw_iload_n C d_MO_look_47 rfl ?_
          refine pw_bipush C d_MO_look_48 (v := 7) (by decide) ?_
          refine pw_icmp_gt C 68 d_MO_look_50 (by decide) (fun h50 => ?_) (fun h50 => ?_)
          · refine pw_bipush C d_MO_look_68 (v := -100) (by decide) ?_
            refine pw_iload_n C d_MO_look_70 rfl ?_
            refine pw_isub C d_MO_look_71 ?_
            refine pw_iret C zr zk d_MO_look_72 ?_
            rw [hc0, rt_bad (hbadw (Or.inl (fun q => Int32.not_lt.mpr q.2.2.2 h50)))]
            exact ⟨st, t, lk, rfl, rfl, fun q => (by cases q)⟩
          · refine pw_aload_n C d_MO_look_53 rfl ?_
            refine pw_get C d_MO_look_54 (hX 20 0 rfl) rfl 5 rfl rfl (by decide) in_MO W_348 rfl ?_
            refine pw_bipush C d_MO_look_57 (v := 40) (by decide) ?_
            refine pw_icmp_eq C 68 d_MO_look_59 (by decide) (fun h59 => ?_) (fun h59 => ?_)
            · refine pw_bipush C d_MO_look_68 (v := -100) (by decide) ?_
              refine pw_iload_n C d_MO_look_70 rfl ?_
              refine pw_isub C d_MO_look_71 ?_
              refine pw_iret C zr zk d_MO_look_72 ?_
              rw [hc0, rt_bad (hbadw (Or.inl (fun q => by have := (nI_eq (a := t) (b := 40) (by omega) (by decide)).mp h59; omega)))]
              exact ⟨st, t, lk, rfl, rfl, fun q => (by cases q)⟩
            · refine pw_iload_n C d_MO_look_62 rfl ?_
              refine pw_bipush C d_MO_look_63 (v := 12) (by decide) ?_
              refine pw_icmp_le C 73 d_MO_look_65 (by decide) (fun h65 => ?_) (fun h65 => ?_)
              · have hok : t < 40 ∧ a < n ∧ 0 ≤ wd a ∧ wd a ≤ 7 := ⟨by
                    rcases Nat.lt_or_ge t 40 with q | q
                    · exact q
                    · exact absurd (by rw [show t = 40 by omega]; rfl) h59, hlt, Int32.not_lt.mp h44, Int32.not_lt.mp h50⟩
                have hD12 : D0 + 1 ≤ 12 := (nI_leI (b := 12) (by omega) (by decide)).mp h65
                obtain ⟨d, hd⟩ : ∃ d, 12 - D0 = d + 1 := ⟨12 - D0 - 1, by omega⟩
                refine pw_aload_n C d_MO_look_73 rfl ?_
                refine pw_get C d_MO_look_74 (hX 20 0 rfl) rfl 4 rfl rfl (by decide) in_MO W_347 rfl ?_
                refine pw_aload_n C d_MO_look_77 rfl ?_
                refine pw_get C d_MO_look_78 (hX 20 0 rfl) rfl 5 rfl rfl (by decide) in_MO W_348 rfl ?_
                refine pw_iload_n C d_MO_look_81 rfl ?_
                refine pw_iastK C d_MO_look_82 (hX 23 0 rfl) rfl (by omega) ?_
                refine MW.world m_u23 ?_
                refine pw_aload_n C d_MO_look_83 rfl ?_
                refine pw_dup C d_MO_look_84 rfl ?_
                refine pw_get C d_MO_look_85 (hX 20 0 rfl) rfl 5 rfl rfl (by decide) in_MO W_348 rfl ?_
                refine pw_iconst C d_MO_look_88 (v := 1) (by decide) ?_
                refine pw_iadd C d_MO_look_89 ?_
                refine pw_put C d_MO_look_90 (hX 20 0 rfl) rfl 5 (Nat.le_of_ble_eq_true rfl) rfl (by decide) in_MO t_MO tk_MO n_MO W_348 rfl rfl (tk_MO 5 (by decide)) rfl rfl ?_
                refine MW.world m_u20 ?_
                rw [nI_1]
                have hst2 : ∀ p, p < t + 1 → upd st t (nI a) p = nI (np_f wd p) := fun p hp => by
                  by_cases q : p = t
                  · subst q; rw [pk_us, hnp]
                  · rw [pk_un q]; exact hst p (by omega)
                refine pw_iinc1 C d_MO_look_93 rfl (by decide) ?_
                refine pw_iload_n C d_MO_look_96 rfl ?_
                refine pw_if_eq C 106 d_MO_look_97 (by decide) (fun h97 => ?_) (fun h97 => ?_)
                · have hleaf : wd a = 0 ∨ wd a = 7 := Or.inl h97
                  have hlim : (if wd a = 0 then 7 else 255 : Int32) = 7 := if_pos h97
                  have hrl := rd_leaf (d := d) hok hleaf
                  rw [← hd] at hrl
                  refine pw_iload_n C d_MO_look_106 rfl ?_
                  refine pw_aload_n C d_MO_look_107 rfl ?_
                  refine pw_get C d_MO_look_108 (hX 20 0 rfl) rfl 3 rfl rfl (by decide) in_MO W_346 rfl ?_
                  refine pw_icmp_ne C 122 d_MO_look_111 (by decide) (fun h111 => ?_) (fun h111 => ?_)
                  · have hlt1 : a + 1 < n := by
                      rcases Nat.lt_or_ge (a + 1) n with q | q
                      · exact q
                      · exact absurd (by rw [show a + 1 = n by omega]) h111
                    refine pw_aload_n C d_MO_look_122 rfl ?_
                    refine pw_get C d_MO_look_123 (hX 20 0 rfl) rfl 2 rfl rfl (by decide) in_MO W_345 rfl ?_
                    refine pw_iload_n C d_MO_look_126 rfl ?_
                    refine pw_ialdK C d_MO_look_127 (hX 22 0 rfl) rfl (by omega) ?_
                    refine pw_if_lt C 152 d_MO_look_128 (by decide) (fun h128 => ?_) (fun h128 => ?_)
                    · refine pw_bipush C d_MO_look_152 (v := -100) (by decide) ?_
                      refine pw_iload_n C d_MO_look_154 rfl ?_
                      refine pw_isub C d_MO_look_155 ?_
                      refine pw_iret C zr zk d_MO_look_156 ?_
                      rw [hc0, rt_bad (hrl.trans (if_neg (fun q => Int32.not_lt.mpr q.2.1 h128)))]
                      exact ⟨_, _, _, rfl, rfl, fun q => (by cases q)⟩
                    · refine pw_aload_n C d_MO_look_131 rfl ?_
                      refine pw_get C d_MO_look_132 (hX 20 0 rfl) rfl 2 rfl rfl (by decide) in_MO W_345 rfl ?_
                      refine pw_iload_n C d_MO_look_135 rfl ?_
                      refine pw_ialdK C d_MO_look_136 (hX 22 0 rfl) rfl (by omega) ?_
                      refine pw_iload_n C d_MO_look_137 rfl ?_
                      refine pw_if_ne C 146 d_MO_look_138 (by decide) (fun h138 => ?_) (fun h138 => ?_)
                      · exact absurd h97 h138
                      refine pw_bipush C d_MO_look_141 (v := 7) (by decide) ?_
                      refine pw_goto C 149 d_MO_look_143 (by decide) ?_
                      refine pw_icmp_le C 157 d_MO_look_149 (by decide) (fun h149 => ?_) (fun h149 => ?_)
                      · refine pw_iinc1 C d_MO_look_157 rfl (by decide) ?_
                        have hch : ch_f (wd a) = 0 := (if_neg (fun q => by rcases hleaf with z | z <;> (rw [z] at q; exact absurd q (by decide)))).trans (if_pos hleaf)
                        have hgood : a + 1 < n ∧ 0 ≤ wd (a + 1) ∧ wd (a + 1) ≤ (if wd a = 0 then 7 else 255) := ⟨hlt1, Int32.not_lt.mp h128, by rw [hlim]; exact h149⟩
                        rw [if_pos hgood] at hrl
                        refine pw_iload_n C d_MO_look_160 rfl ?_
                        refine pw_callSi C (k_MO_children l hI _ _) ⟨pw_cb C 1 W_410 W_6 W_408 ⟨rfl, rfl⟩ (by decide +kernel) ⟨(Nat.le_of_ble_eq_true rfl), (Nat.le_of_ble_eq_true rfl)⟩, pw_w C W_409⟩ rfl rfl (Nat.le_of_ble_eq_true rfl) d_MO_look_161 ⟨Nat.zero_le _, Nat.zero_le _⟩ (fun rc w9 hrc => ?_)
                        obtain ⟨e9, hrc⟩ := hrc
                        subst hrc
                        refine MW.world e9 ?_
                        refine pw_if_le C 183 d_MO_look_164 (by decide) (fun h164 => ?_) (fun h164 => ?_)
                        · refine pw_aload_n C d_MO_look_183 rfl ?_
                          refine pw_get C d_MO_look_184 (hX 20 0 rfl) rfl 6 rfl rfl (by decide) in_MO W_349 rfl ?_
                          refine pw_iload_n C d_MO_look_187 rfl ?_
                          refine pw_dup2 C d_MO_look_188 rfl rfl ?_
                          refine pw_ialdK C d_MO_look_189 (hX 24 0 rfl) rfl (by omega) ?_
                          rw [hl1 (D0 + 1) (by omega) (Nat.le_refl _), hc0]
                          refine pw_iconst C d_MO_look_190 (v := 1) (by decide) ?_
                          refine pw_isub C d_MO_look_191 ?_
                          refine pw_iastK C d_MO_look_192 (hX 24 0 rfl) rfl (by omega) ?_
                          rw [nI_pred]
                          refine MW.world m_u24 ?_
                          have hnp2 : a + 2 = np_f wd (t + 1) := by
                            show _ = if wd (np_f wd t) = 0 ∨ wd (np_f wd t) = 7 then np_f wd t + 2 else np_f wd t + 1
                            rw [← hnp, if_pos hleaf]
                          have er : rt_f wd n lc (D0 + 1) (c0 + 1) a t = rt_f wd n (va_up lc (D0 + 1) c0) (D0 + 1) (va_up lc (D0 + 1) c0 (D0 + 1)) (a + 1 + 1) (t + 1) := by
                            rw [rt_ok hrl, vu_self]
                            exact rt_congr wd n _ _ (D0 + 1) c0 _ _ (fun j hj => (vu_ne (by omega)).symm)
                          rw [er]
                          refine MW.less (lv' := [some (.ref (pw_a X 20 0)), some (.int (nI (a + 1 + 1))), some (.int (nI (D0 + 1))), none]) (by intro i v h; rcases i with _ | _ | _ | _ | i <;> first | exact h | (simp at h)) ?_
                          refine HI (a + 1 + 1) (t + 1) (by omega) ?_ (D0 + 1) _ _ (va_up lc (D0 + 1) c0) hD13 (fun j h1 h2 => ?_) (fun j h1 h2 => ?_) (fun j h1 h2 => ?_) hst2
                          · intro D1 st1 lk1 lc1 g1 g2 g3 g7 g4 g5 g6
                            exact ihe (a + 1 + 1) (t + 1) (by omega) (by omega) (by omega) hnp2 D1 st1 lk1 lc1 g1 g2 g3 g7 g4 g5 g6
                          · by_cases q : j = D0 + 1
                            · subst q; rw [vu_self]; have := hc2 (D0 + 1) h1 (Nat.le_refl _); omega
                            · rw [vu_ne q]; exact hc2 j h1 h2
                          · by_cases q : j = D0 + 1
                            · subst q; rw [pk_us, vu_self]
                            · rw [pk_un q, vu_ne q]; exact hl1 j h1 h2
                          · rw [vu_ne (by omega)]; exact hl2 j h1 h2
                        · exact absurd (by rw [hch]; decide) h164
                      · refine pw_bipush C d_MO_look_152 (v := -100) (by decide) ?_
                        refine pw_iload_n C d_MO_look_154 rfl ?_
                        refine pw_isub C d_MO_look_155 ?_
                        refine pw_iret C zr zk d_MO_look_156 ?_
                        rw [hc0, rt_bad (hrl.trans (if_neg (fun q => h149 (by rw [← hlim]; exact q.2.2))))]
                        exact ⟨_, _, _, rfl, rfl, fun q => (by cases q)⟩
                  · refine pw_bipush C d_MO_look_114 (v := -100) (by decide) ?_
                    refine pw_aload_n C d_MO_look_116 rfl ?_
                    refine pw_get C d_MO_look_117 (hX 20 0 rfl) rfl 3 rfl rfl (by decide) in_MO W_346 rfl ?_
                    refine pw_isub C d_MO_look_120 ?_
                    refine pw_iret C zr zk d_MO_look_121 ?_
                    rw [hc0, rt_bad (hrl.trans (if_neg (fun q => by have := (nI_eq (a := a + 1) (b := n) (by omega) (by omega)).mp h111; omega)))]
                    exact ⟨_, _, _, rfl, by rw [show n = a + 1 from ((nI_eq (a := a + 1) (b := n) (by omega) (by omega)).mp h111).symm]; rfl, fun q => (by cases q)⟩
                · refine pw_iload_n C d_MO_look_100 rfl ?_
                  refine pw_bipush C d_MO_look_101 (v := 7) (by decide) ?_
                  refine pw_icmp_ne C 160 d_MO_look_103 (by decide) (fun h103 => ?_) (fun h103 => ?_)
                  · have hnl : ¬ (wd a = 0 ∨ wd a = 7) := fun q => q.elim h97 h103
                    have hch12 : ch_f (wd a) = 1 ∨ ch_f (wd a) = 2 := by
                      unfold ch_f
                      by_cases q : wd a = 2 ∨ wd a = 3
                      · rw [if_pos q]; exact Or.inr rfl
                      · rw [if_neg q, if_neg hnl]; exact Or.inl rfl
                    have hchp : 0 < ch_f (wd a) := by omega
                    refine pw_iload_n C d_MO_look_160 rfl ?_
                    refine pw_callSi C (k_MO_children l hI _ _) ⟨pw_cb C 1 W_410 W_6 W_408 ⟨rfl, rfl⟩ (by decide +kernel) ⟨(Nat.le_of_ble_eq_true rfl), (Nat.le_of_ble_eq_true rfl)⟩, pw_w C W_409⟩ rfl rfl (Nat.le_of_ble_eq_true rfl) d_MO_look_161 ⟨Nat.zero_le _, Nat.zero_le _⟩ (fun rc w9 hrc => ?_)
                    obtain ⟨e9, hrc⟩ := hrc
                    subst hrc
                    refine MW.world e9 ?_
                    refine pw_if_le C 183 d_MO_look_164 (by decide) (fun h164 => ?_) (fun h164 => ?_)
                    · exact absurd h164 (nI_nle hchp (by omega))
                    refine pw_iinc1 C d_MO_look_167 rfl (by decide) ?_
                    refine pw_aload_n C d_MO_look_170 rfl ?_
                    refine pw_get C d_MO_look_171 (hX 20 0 rfl) rfl 6 rfl rfl (by decide) in_MO W_349 rfl ?_
                    refine pw_iload_n C d_MO_look_174 rfl ?_
                    refine pw_iload_n C d_MO_look_175 rfl ?_
                    refine pw_callSi C (k_MO_children l hI _ _) ⟨pw_cb C 1 W_410 W_6 W_408 ⟨rfl, rfl⟩ (by decide +kernel) ⟨(Nat.le_of_ble_eq_true rfl), (Nat.le_of_ble_eq_true rfl)⟩, pw_w C W_409⟩ rfl rfl (Nat.le_of_ble_eq_true rfl) d_MO_look_176 ⟨Nat.zero_le _, Nat.zero_le _⟩ (fun rc2 w9 hrc2 => ?_)
                    obtain ⟨e9, hrc2⟩ := hrc2
                    subst hrc2
                    refine MW.world e9 ?_
                    refine pw_iastK C d_MO_look_179 (hX 24 0 rfl) rfl (by omega) ?_
                    refine pw_goto C 16 d_MO_look_180 (by decide) ?_
                    refine MW.world m_u24 ?_
                    have hnp2 : a + 1 = np_f wd (t + 1) := by
                      show _ = if wd (np_f wd t) = 0 ∨ wd (np_f wd t) = 7 then np_f wd t + 2 else np_f wd t + 1
                      rw [← hnp, if_neg hnl]
                    rw [rt_ch (by omega) hok hnl hc1]
                    refine MW.less (lv' := [some (.ref (pw_a X 20 0)), some (.int (nI (a + 1))), some (.int (nI (D0 + 1 + 1))), none]) (by intro i v h; rcases i with _ | _ | _ | _ | i <;> first | exact h | (simp at h)) ?_
                    have hself : va_up lc (D0 + 2) (ch_f (wd a)) (D0 + 2) = ch_f (wd a) := vu_self
                    have := ihe (a + 1) (t + 1) (by omega) (by omega) (by omega) hnp2 (D0 + 2) (upd st t (nI a)) (upd lk (D0 + 2) (nI (ch_f (wd a)))) (va_up lc (D0 + 2) (ch_f (wd a))) (by omega) (by omega) (by rw [hself]; omega) (fun j h1 h2 => ?_) (fun j h1 h2 => ?_) (fun j h1 h2 => ?_) hst2
                    · rw [hself] at this
                      exact this
                    · by_cases q : j = D0 + 2
                      · subst q; rw [vu_self]; omega
                      · rw [vu_ne q]; exact hc2 j h1 (by omega)
                    · by_cases q : j = D0 + 2
                      · subst q; rw [pk_us, vu_self]
                      · rw [pk_un q, vu_ne q]; exact hl1 j h1 (by omega)
                    · by_cases q : j = D0 + 1
                      · subst q; rw [vu_ne (by omega)]; exact hc1
                      · rw [vu_ne (by omega)]; exact hl2 j h1 (by omega)
                  · have hleaf : wd a = 0 ∨ wd a = 7 := Or.inr h103
                    have hlim : (if wd a = 0 then 7 else 255 : Int32) = 255 := if_neg h97
                    have hrl := rd_leaf (d := d) hok hleaf
                    rw [← hd] at hrl
                    refine pw_iload_n C d_MO_look_106 rfl ?_
                    refine pw_aload_n C d_MO_look_107 rfl ?_
                    refine pw_get C d_MO_look_108 (hX 20 0 rfl) rfl 3 rfl rfl (by decide) in_MO W_346 rfl ?_
                    refine pw_icmp_ne C 122 d_MO_look_111 (by decide) (fun h111 => ?_) (fun h111 => ?_)
                    · have hlt1 : a + 1 < n := by
                        rcases Nat.lt_or_ge (a + 1) n with q | q
                        · exact q
                        · exact absurd (by rw [show a + 1 = n by omega]) h111
                      refine pw_aload_n C d_MO_look_122 rfl ?_
                      refine pw_get C d_MO_look_123 (hX 20 0 rfl) rfl 2 rfl rfl (by decide) in_MO W_345 rfl ?_
                      refine pw_iload_n C d_MO_look_126 rfl ?_
                      refine pw_ialdK C d_MO_look_127 (hX 22 0 rfl) rfl (by omega) ?_
                      refine pw_if_lt C 152 d_MO_look_128 (by decide) (fun h128 => ?_) (fun h128 => ?_)
                      · refine pw_bipush C d_MO_look_152 (v := -100) (by decide) ?_
                        refine pw_iload_n C d_MO_look_154 rfl ?_
                        refine pw_isub C d_MO_look_155 ?_
                        refine pw_iret C zr zk d_MO_look_156 ?_
                        rw [hc0, rt_bad (hrl.trans (if_neg (fun q => Int32.not_lt.mpr q.2.1 h128)))]
                        exact ⟨_, _, _, rfl, rfl, fun q => (by cases q)⟩
                      · refine pw_aload_n C d_MO_look_131 rfl ?_
                        refine pw_get C d_MO_look_132 (hX 20 0 rfl) rfl 2 rfl rfl (by decide) in_MO W_345 rfl ?_
                        refine pw_iload_n C d_MO_look_135 rfl ?_
                        refine pw_ialdK C d_MO_look_136 (hX 22 0 rfl) rfl (by omega) ?_
                        refine pw_iload_n C d_MO_look_137 rfl ?_
                        refine pw_if_ne C 146 d_MO_look_138 (by decide) (fun h138 => ?_) (fun h138 => ?_)
                        · refine pw_sipush C d_MO_look_146 (v := 255) (by decide) ?_
                          refine pw_icmp_le C 157 d_MO_look_149 (by decide) (fun h149 => ?_) (fun h149 => ?_)
                          · refine pw_iinc1 C d_MO_look_157 rfl (by decide) ?_
                            have hch : ch_f (wd a) = 0 := (if_neg (fun q => by rcases hleaf with z | z <;> (rw [z] at q; exact absurd q (by decide)))).trans (if_pos hleaf)
                            have hgood : a + 1 < n ∧ 0 ≤ wd (a + 1) ∧ wd (a + 1) ≤ (if wd a = 0 then 7 else 255) := ⟨hlt1, Int32.not_lt.mp h128, by rw [hlim]; exact h149⟩
                            rw [if_pos hgood] at hrl
                            refine pw_iload_n C d_MO_look_160 rfl ?_
                            refine pw_callSi C (k_MO_children l hI _ _) ⟨pw_cb C 1 W_410 W_6 W_408 ⟨rfl, rfl⟩ (by decide +kernel) ⟨(Nat.le_of_ble_eq_true rfl), (Nat.le_of_ble_eq_true rfl)⟩, pw_w C W_409⟩ rfl rfl (Nat.le_of_ble_eq_true rfl) d_MO_look_161 ⟨Nat.zero_le _, Nat.zero_le _⟩ (fun rc w9 hrc => ?_)
                            obtain ⟨e9, hrc⟩ := hrc
                            subst hrc
                            refine MW.world e9 ?_
                            refine pw_if_le C 183 d_MO_look_164 (by decide) (fun h164 => ?_) (fun h164 => ?_)
                            · refine pw_aload_n C d_MO_look_183 rfl ?_
                              refine pw_get C d_MO_look_184 (hX 20 0 rfl) rfl 6 rfl rfl (by decide) in_MO W_349 rfl ?_
                              refine pw_iload_n C d_MO_look_187 rfl ?_
                              refine pw_dup2 C d_MO_look_188 rfl rfl ?_
                              refine pw_ialdK C d_MO_look_189 (hX 24 0 rfl) rfl (by omega) ?_
                              rw [hl1 (D0 + 1) (by omega) (Nat.le_refl _), hc0]
                              refine pw_iconst C d_MO_look_190 (v := 1) (by decide) ?_
                              refine pw_isub C d_MO_look_191 ?_
                              refine pw_iastK C d_MO_look_192 (hX 24 0 rfl) rfl (by omega) ?_
                              rw [nI_pred]
                              refine MW.world m_u24 ?_
                              have hnp2 : a + 2 = np_f wd (t + 1) := by
                                show _ = if wd (np_f wd t) = 0 ∨ wd (np_f wd t) = 7 then np_f wd t + 2 else np_f wd t + 1
                                rw [← hnp, if_pos hleaf]
                              have er : rt_f wd n lc (D0 + 1) (c0 + 1) a t = rt_f wd n (va_up lc (D0 + 1) c0) (D0 + 1) (va_up lc (D0 + 1) c0 (D0 + 1)) (a + 1 + 1) (t + 1) := by
                                rw [rt_ok hrl, vu_self]
                                exact rt_congr wd n _ _ (D0 + 1) c0 _ _ (fun j hj => (vu_ne (by omega)).symm)
                              rw [er]
                              refine MW.less (lv' := [some (.ref (pw_a X 20 0)), some (.int (nI (a + 1 + 1))), some (.int (nI (D0 + 1))), none]) (by intro i v h; rcases i with _ | _ | _ | _ | i <;> first | exact h | (simp at h)) ?_
                              refine HI (a + 1 + 1) (t + 1) (by omega) ?_ (D0 + 1) _ _ (va_up lc (D0 + 1) c0) hD13 (fun j h1 h2 => ?_) (fun j h1 h2 => ?_) (fun j h1 h2 => ?_) hst2
                              · intro D1 st1 lk1 lc1 g1 g2 g3 g7 g4 g5 g6
                                exact ihe (a + 1 + 1) (t + 1) (by omega) (by omega) (by omega) hnp2 D1 st1 lk1 lc1 g1 g2 g3 g7 g4 g5 g6
                              · by_cases q : j = D0 + 1
                                · subst q; rw [vu_self]; have := hc2 (D0 + 1) h1 (Nat.le_refl _); omega
                                · rw [vu_ne q]; exact hc2 j h1 h2
                              · by_cases q : j = D0 + 1
                                · subst q; rw [pk_us, vu_self]
                                · rw [pk_un q, vu_ne q]; exact hl1 j h1 h2
                              · rw [vu_ne (by omega)]; exact hl2 j h1 h2
                            · exact absurd (by rw [hch]; decide) h164
                          · refine pw_bipush C d_MO_look_152 (v := -100) (by decide) ?_
                            refine pw_iload_n C d_MO_look_154 rfl ?_
                            refine pw_isub C d_MO_look_155 ?_
                            refine pw_iret C zr zk d_MO_look_156 ?_
                            rw [hc0, rt_bad (hrl.trans (if_neg (fun q => h149 (by rw [← hlim]; exact q.2.2))))]
                            exact ⟨_, _, _, rfl, rfl, fun q => (by cases q)⟩
                        · exact absurd h138 h97
                    · refine pw_bipush C d_MO_look_114 (v := -100) (by decide) ?_
                      refine pw_aload_n C d_MO_look_116 rfl ?_
                      refine pw_get C d_MO_look_117 (hX 20 0 rfl) rfl 3 rfl rfl (by decide) in_MO W_346 rfl ?_
                      refine pw_isub C d_MO_look_120 ?_
                      refine pw_iret C zr zk d_MO_look_121 ?_
                      rw [hc0, rt_bad (hrl.trans (if_neg (fun q => by have := (nI_eq (a := a + 1) (b := n) (by omega) (by omega)).mp h111; omega)))]
                      exact ⟨_, _, _, rfl, by rw [show n = a + 1 from ((nI_eq (a := a + 1) (b := n) (by omega) (by omega)).mp h111).symm]; rfl, fun q => (by cases q)⟩
              · refine pw_bipush C d_MO_look_68 (v := -100) (by decide) ?_
                refine pw_iload_n C d_MO_look_70 rfl ?_
                refine pw_isub C d_MO_look_71 ?_
                refine pw_iret C zr zk d_MO_look_72 ?_
                rw [hc0, rt_bad (hbadw (Or.inr (by have := mt (nI_leI (a := D0 + 1) (b := 12) (by omega) (by decide)).mpr h65; omega)))]
                exact ⟨st, t, lk, rfl, rfl, fun q => (by cases q)⟩
      · refine pw_bipush C d_MO_look_28 (v := -100) (by decide) ?_
        refine pw_aload_n C d_MO_look_30 rfl ?_
        refine pw_get C d_MO_look_31 (hX 20 0 rfl) rfl 3 rfl rfl (by decide) in_MO W_346 rfl ?_
        refine pw_isub C d_MO_look_34 ?_
        refine pw_iret C zr zk d_MO_look_35 ?_
        have hae : a = n := (nI_eq (by omega) (by omega)).mp h25
        rw [hc0, rt_bad (hbadw (Or.inl (fun q => by omega)))]
        exact ⟨st, t, lk, rfl, by rw [hae]; rfl, fun q => (by cases q)⟩
  have e1 : rd_f wd n 12 0 0 = rt_f wd n (fun _ => 1) 1 1 0 0 := by
    show _ = (match (match rd_f wd n 12 0 0 with
      | (true, b, t1) => (true, b, t1)
      | (false, f, t1) => (false, f, t1)) with
      | (true, b, t1) => (true, b, t1)
      | (false, f, t1) => (false, f, t1))
    rcases rd_f wd n 12 0 0 with ⟨ok, b, t1⟩
    cases ok <;> rfl
  rw [e1]
  refine pw_iconst C d_MO_look_0 (v := 0) (by decide) ?_
  refine pw_istore_n C d_MO_look_1 (by decide) ?_
  refine pw_iconst C d_MO_look_2 (v := 1) (by decide) ?_
  refine pw_istore_n C d_MO_look_3 (by decide) ?_
  refine pw_aload_n C d_MO_look_4 rfl ?_
  refine pw_get C d_MO_look_5 (hX 20 0 rfl) rfl 6 rfl rfl (by decide) in_MO W_349 rfl ?_
  refine pw_iconst C d_MO_look_8 (v := 1) (by decide) ?_
  refine pw_iconst C d_MO_look_9 (v := 1) (by decide) ?_
  refine pw_iastK C d_MO_look_10 (k0 := 1) (hX 24 0 rfl) rfl (by decide) ?_
  refine MW.world m_u24 ?_
  refine pw_aload_n C d_MO_look_11 rfl ?_
  refine pw_iconst C d_MO_look_12 (v := 0) (by decide) ?_
  refine pw_put C d_MO_look_13 (hX 20 0 rfl) rfl 5 (Nat.le_of_ble_eq_true rfl) rfl (by decide) in_MO t_MO tk_MO n_MO W_348 rfl rfl (tk_MO 5 (by decide)) rfl rfl ?_
  refine MW.world (m_u20 (p1 := nI 0)) ?_
  exact HH n 0 0 (Nat.zero_le n) (by omega) (by omega) rfl 1 st _ (fun _ => 1) (Nat.le_refl 1) (by decide) (Nat.le_refl 1) (fun _ _ _ => by decide) (fun j h1 h2 => by rw [show j = 1 by omega]; exact pk_us) (fun j h1 h2 => Nat.le_refl 1) (fun p hp => absurd hp (Nat.not_lt_zero p))
end
section
/-! THE REFERENCE: products, and the loops over a table -/
theorem lc_gt (x y : Int64) : 0 < lg_cmp x y ↔ y < x := by
  unfold lg_cmp
  split
  · rename_i h; exact ⟨fun _ => h, fun _ => by decide⟩
  · rename_i h
    split
    · exact ⟨fun q => absurd q (by decide), fun q => absurd q h⟩
    · exact ⟨fun q => absurd q (by decide), fun q => absurd q h⟩
theorem lc_le (x y : Int64) : lg_cmp x y ≤ 0 ↔ ¬ y < x := by rw [← lc_gt, Int32.not_lt]
theorem ix3 (a x y : Nat) : nI a + 64 * nI x + nI y = nI (a + 64 * x + y) := by rw [show (64 : Int32) * nI x = nI (64 * x) from pk_mul 64 x, nI_add, nI_add]
theorem ix4 (l k : Nat) : 4096 * nI l + nI k = nI (4096 * l + k) := by rw [show (4096 : Int32) * nI l = nI (4096 * l) from pk_mul 4096 l, nI_add]
theorem c15_63 : C15 < 2 ^ 62 := by decide
theorem lN_z {a : Nat} (h : a ≤ C15) : lN a = 0 ↔ a = 0 := pk_lEQ (a := a) (b := 0) (Nat.lt_of_le_of_lt h (by decide)) (by decide)
theorem lN_p {a : Nat} (h : a ≤ C15) : 0 < lN a ↔ a ≠ 0 := by
  have := pk_lLT (a := 0) (b := a) (by decide) (Nat.lt_of_le_of_lt h (by decide))
  rw [show (0 : Int64) = lN 0 from rfl, this]
  omega
theorem pr_f {a b : Nat} (ha : a ≤ C15) (hb : b ≤ C15) (h0 : 0 < a) : (lN ((C15 : Nat)) / lN a < lN b ↔ C15 < a * b) := by
  rw [pk_lDiv (by decide) h0 (Nat.lt_of_le_of_lt ha (by decide))]
  rw [pk_lLT (Nat.lt_of_le_of_lt (Nat.div_le_self _ _) (by decide)) (Nat.lt_of_le_of_lt hb (by decide)), Nat.div_lt_iff_lt_mul h0, Nat.mul_comm]
set_option maxHeartbeats 4000000 in
set_option maxRecDepth 100000 in
theorem k_MO_product (l : Launch) {X : Lay} (hI : pw_I X) (w : Wd) {a b : Nat} (ha : a ≤ C15) (hb : b ≤ C15) : CtL l y_MO_product (pw_ws y_MO_product c_MO_product 4 (some .long)) { frames := 0, cells := 0, slots := 0, locals := 0 } X w [.long (lN a), .long (lN b)] (fun r w1 => w1 = w ∧ r = lN (cp_f (a * b))) := by
  refine pw_open (by decide) hI [some (.long (lN a)), none, some (.long (lN b)), none] rfl (Nat.le_of_ble_eq_true rfl) ?_
  intro zp ze zs zm za zb zt zc hargs C zr zk hnm
  refine pw_lload_n C d_MO_product_0 rfl ?_
  refine pw_lconst C d_MO_product_1 (v := 0) (by decide) ?_
  refine pw_lcmp C d_MO_product_2 ?_
  refine pw_if_eq C 12 d_MO_product_3 (by decide) (fun h3 => ?_) (fun h3 => ?_)
  · refine pw_lconst C d_MO_product_12 (v := 0) (by decide) ?_
    refine pw_goto C 35 d_MO_product_13 (by decide) ?_
    refine pw_lret C zr zk d_MO_product_35 ?_
    refine ⟨rfl, ?_⟩
    rw [(lN_z ha).mp ((lc_eq _ _).mp h3), Nat.zero_mul]
    rfl
  · refine pw_lload_n C d_MO_product_6 rfl ?_
    refine pw_lconst C d_MO_product_7 (v := 0) (by decide) ?_
    refine pw_lcmp C d_MO_product_8 ?_
    refine pw_if_ne C 16 d_MO_product_9 (by decide) (fun h9 => ?_) (fun h9 => ?_)
    · refine pw_lload_n C d_MO_product_16 rfl ?_
      refine pw_ldc2_w C d_MO_product_17 (v := 1000000000000000) W_436 ?_
      refine pw_lload_n C d_MO_product_20 rfl ?_
      refine pw_ldiv C d_MO_product_21 (fun q => h3 ((lc_eq _ _).mpr q)) ?_
      refine pw_lcmp C d_MO_product_22 ?_
      refine pw_if_le C 32 d_MO_product_23 (by decide) (fun h23 => ?_) (fun h23 => ?_)
      · refine pw_lload_n C d_MO_product_32 rfl ?_
        refine pw_lload_n C d_MO_product_33 rfl ?_
        refine pw_lmul C d_MO_product_34 ?_
        refine pw_lret C zr zk d_MO_product_35 ?_
        refine ⟨rfl, ?_⟩
        have h0 : 0 < a := Nat.pos_of_ne_zero (fun q => h3 ((lc_eq _ _).mpr ((lN_z ha).mpr q)))
        have := mt (pr_f ha hb h0).mpr ((lc_le _ _).mp h23)
        rw [cp_id (by omega), lN_mul]
      · refine pw_ldc2_w C d_MO_product_26 (v := 1000000000000000) W_436 ?_
        refine pw_goto C 35 d_MO_product_29 (by decide) ?_
        refine pw_lret C zr zk d_MO_product_35 ?_
        refine ⟨rfl, ?_⟩
        have h0 : 0 < a := Nat.pos_of_ne_zero (fun q => h3 ((lc_eq _ _).mpr ((lN_z ha).mpr q)))
        have h1 : lN ((C15 : Nat)) / lN a < lN b := Classical.byContradiction (fun q => h23 ((lc_le _ _).mpr q))
        have := (pr_f ha hb h0).mp h1
        rw [cp_big (by omega)]
        rfl
    · refine pw_lconst C d_MO_product_12 (v := 0) (by decide) ?_
      refine pw_goto C 35 d_MO_product_13 (by decide) ?_
      refine pw_lret C zr zk d_MO_product_35 ?_
      refine ⟨rfl, ?_⟩
      rw [(lN_z hb).mp ((lc_eq _ _).mp h9), Nat.mul_zero]
      rfl
set_option maxHeartbeats 4000000 in
set_option maxRecDepth 100000 in
theorem k_MO_fall (l : Launch) {X : Lay} (hI : pw_I X) (hX : Dm X) (w : Wd) {tE : Nat → Bool} {cnt sz pt rk : Int32} {wd st lk : Nat → Int32} {tb sp : Nat → Int64} {a : Nat} (ha : a + 8192 ≤ 61440) : CtV l y_MO_fall (pw_ws y_MO_fall c_MO_fall 3 none) { frames := 0, cells := 0, slots := 0, locals := 0 } X (m_w X w tE cnt wd sz st pt lk tb rk sp) [.ref (pw_a X 20 0), .int (nI (a + 4096))] (fun w1 => ∃ t1, w1 = m_w X w tE cnt wd sz st pt lk t1 rk sp ∧ (∀ i, i < 4096 → t1 (a + i) = tb (a + 4096 + i)) ∧ ∀ z, (z < a ∨ a + 4096 ≤ z) → t1 z = tb z) := by
  refine pw_open (by decide) hI [some (.ref (pw_a X 20 0)), some (.int (nI (a + 4096))), none] rfl (Nat.le_of_ble_eq_true rfl) ?_
  intro zp ze zs zm za zb zt zc hargs C zr zk hnm
  have L : ∀ d k : Nat, k + d = 4096 → ∀ t1 : Nat → Int64, (∀ i, i < k → t1 (a + i) = tb (a + 4096 + i)) → (∀ z, (z < a ∨ a + k ≤ z) → t1 z = tb z) → MW zp l ze ({ frames := 0, cells := 0, slots := 0, locals := 0 } : Room) zs zm za zb zt zc X 3 0 0 (MQ zb (va_Qv (fun w1 => ∃ t1, w1 = m_w X w tE cnt wd sz st pt lk t1 rk sp ∧ (∀ i, i < 4096 → t1 (a + i) = tb (a + 4096 + i)) ∧ ∀ z, (z < a ∨ a + 4096 ≤ z) → t1 z = tb z) (pw_B X) (pw_F X)) za zs 0 0 (pw_F X)) (m_w X w tE cnt wd sz st pt lk t1 rk sp) 2 [some (.ref (pw_a X 20 0)), some (.int (nI (a + 4096))), some (.int (nI k))] [] := by
    intro d
    induction d with
    | zero =>
      intro k hkd t1 h1 h2
      refine pw_iload_n C d_MO_fall_2 rfl ?_
      refine pw_sipush C d_MO_fall_3 (v := 4096) (by decide) ?_
      refine pw_icmp_ge C 35 d_MO_fall_6 (by decide) (fun h6 => ?_) (fun h6 => ?_)
      · refine pw_vret C zr zk d_MO_fall_35 ?_
        exact ⟨t1, rfl, fun i hi => h1 i (by omega), fun z hz => h2 z (by omega)⟩
      · exact absurd (nI_le (a := 4096) (b := k) (by omega) (by omega)) h6
    | succ d ih =>
      intro k hkd t1 h1 h2
      refine pw_iload_n C d_MO_fall_2 rfl ?_
      refine pw_sipush C d_MO_fall_3 (v := 4096) (by decide) ?_
      refine pw_icmp_ge C 35 d_MO_fall_6 (by decide) (fun h6 => ?_) (fun h6 => ?_)
      · exact absurd ((nI_leI (a := 4096) (by decide) (by omega)).mp h6) (by omega)
      refine pw_aload_n C d_MO_fall_9 rfl ?_
      refine pw_get C d_MO_fall_10 (hX 20 0 rfl) rfl 7 rfl rfl (by decide) in_MO W_350 rfl ?_
      refine pw_iload_n C d_MO_fall_13 rfl ?_
      refine pw_sipush C d_MO_fall_14 (v := 4096) (by decide) ?_
      refine pw_isub C d_MO_fall_17 ?_
      refine pw_iload_n C d_MO_fall_18 rfl ?_
      refine pw_iadd C d_MO_fall_19 ?_
      rw [show nI (a + 4096) - 4096 = nI a from by rw [show (4096 : Int32) = nI 4096 from rfl, pk_sub (by omega), Nat.add_sub_cancel], nI_add]
      refine pw_aload_n C d_MO_fall_20 rfl ?_
      refine pw_get C d_MO_fall_21 (hX 20 0 rfl) rfl 7 rfl rfl (by decide) in_MO W_350 rfl ?_
      refine pw_iload_n C d_MO_fall_24 rfl ?_
      refine pw_iload_n C d_MO_fall_25 rfl ?_
      refine pw_iadd C d_MO_fall_26 ?_
      rw [nI_add]
      refine pw_laldK C d_MO_fall_27 (hX 25 0 rfl) rfl (by omega) ?_
      refine pw_lastK C d_MO_fall_28 (hX 25 0 rfl) rfl (by omega) ?_
      refine MW.world m_u25 ?_
      refine pw_iinc1 C d_MO_fall_29 rfl (by decide) ?_
      refine pw_goto C 2 d_MO_fall_32 (by decide) ?_
      refine ih (k + 1) (by omega) _ (fun i hi => ?_) (fun z hz => ?_)
      · by_cases q : i = k
        · subst q; rw [pk_uLs, h2 _ (by omega)]
        · rw [pk_uLn (by omega)]; exact h1 i (by omega)
      · rw [pk_uLn (by omega)]; exact h2 z (by omega)
  refine pw_iconst C d_MO_fall_0 (v := 0) (by decide) ?_
  refine pw_istore_n C d_MO_fall_1 (by decide) ?_
  exact L 4096 0 rfl tb (fun i hi => absurd hi (Nat.not_lt_zero i)) (fun z _ => rfl)
set_option maxHeartbeats 4000000 in
set_option maxRecDepth 100000 in
theorem k_MO_mark (l : Launch) {X : Lay} (hI : pw_I X) (hX : Dm X) (w : Wd) {tE : Nat → Bool} {cnt sz pt rk : Int32} {wd st lk : Nat → Int32} {tb sp : Nat → Int64} {a : Nat} (ha : a + 4096 ≤ 61440) (b : Bool) : CtV l y_MO_mark (pw_ws y_MO_mark c_MO_mark 5 none) { frames := 0, cells := 0, slots := 0, locals := 0 } X (m_w X w tE cnt wd sz st pt lk tb rk sp) [.ref (pw_a X 20 0), .int (nI a), .int (bi_f b)] (fun w1 => ∃ t1, w1 = m_w X w tE cnt wd sz st pt lk t1 rk sp ∧ (∀ i, i < 4096 → t1 (a + i) = if 0 < tb (a + i) ∨ (b = true ∧ i / 64 = i % 64) then 1 else 0) ∧ ∀ z, (z < a ∨ a + 4096 ≤ z) → t1 z = tb z) := by
  refine pw_open (by decide) hI [some (.ref (pw_a X 20 0)), some (.int (nI a)), some (.int (bi_f b)), none, none] rfl (Nat.le_of_ble_eq_true rfl) ?_
  intro zp ze zs zm za zb zt zc hargs C zr zk hnm
  have L : ∀ d k : Nat, k + d = 4096 → ∀ t1 : Nat → Int64, (∀ i, i < k → t1 (a + i) = if 0 < tb (a + i) ∨ (b = true ∧ i / 64 = i % 64) then 1 else 0) → (∀ z, (z < a ∨ a + k ≤ z) → t1 z = tb z) → MW zp l ze ({ frames := 0, cells := 0, slots := 0, locals := 0 } : Room) zs zm za zb zt zc X 5 0 0 (MQ zb (va_Qv (fun w1 => ∃ t1, w1 = m_w X w tE cnt wd sz st pt lk t1 rk sp ∧ (∀ i, i < 4096 → t1 (a + i) = if 0 < tb (a + i) ∨ (b = true ∧ i / 64 = i % 64) then 1 else 0) ∧ ∀ z, (z < a ∨ a + 4096 ≤ z) → t1 z = tb z) (pw_B X) (pw_F X)) za zs 0 0 (pw_F X)) (m_w X w tE cnt wd sz st pt lk t1 rk sp) 2 [some (.ref (pw_a X 20 0)), some (.int (nI a)), some (.int (bi_f b)), some (.int (nI k)), none] [] := by
    intro d
    induction d with
    | zero =>
      intro k hkd t1 h1 h2
      refine pw_iload_n C d_MO_mark_2 rfl ?_
      refine pw_sipush C d_MO_mark_3 (v := 4096) (by decide) ?_
      refine pw_icmp_ge C 68 d_MO_mark_6 (by decide) (fun h6 => ?_) (fun h6 => ?_)
      · refine pw_vret C zr zk d_MO_mark_68 ?_
        exact ⟨t1, rfl, fun i hi => h1 i (by omega), fun z hz => h2 z (by omega)⟩
      · exact absurd (nI_le (a := 4096) (b := k) (by omega) (by omega)) h6
    | succ d ih =>
      intro k hkd t1 h1 h2
      have htk : t1 (a + k) = tb (a + k) := h2 _ (by omega)
      refine pw_iload_n C d_MO_mark_2 rfl ?_
      refine pw_sipush C d_MO_mark_3 (v := 4096) (by decide) ?_
      refine pw_icmp_ge C 68 d_MO_mark_6 (by decide) (fun h6 => ?_) (fun h6 => ?_)
      · exact absurd ((nI_leI (a := 4096) (by decide) (by omega)).mp h6) (by omega)
      refine pw_aload_n C d_MO_mark_9 rfl ?_
      refine pw_get C d_MO_mark_10 (hX 20 0 rfl) rfl 7 rfl rfl (by decide) in_MO W_350 rfl ?_
      refine pw_iload_n C d_MO_mark_13 rfl ?_
      refine pw_iload_n C d_MO_mark_14 rfl ?_
      refine pw_iadd C d_MO_mark_15 ?_
      rw [nI_add]
      refine pw_laldK C d_MO_mark_16 (hX 25 0 rfl) rfl (by omega) ?_
      refine pw_lconst C d_MO_mark_17 (v := 0) (by decide) ?_
      refine pw_lcmp C d_MO_mark_18 ?_
      refine pw_if_gt C 37 d_MO_mark_19 (by decide) (fun h19 => ?_) (fun h19 => ?_)
      · refine pw_iconst C d_MO_mark_37 (v := 1) (by decide) ?_
        refine pw_goto C 42 d_MO_mark_38 (by decide) ?_
        refine pw_istore C d_MO_mark_42 (by decide) ?_
        refine pw_aload_n C d_MO_mark_44 rfl ?_
        refine pw_get C d_MO_mark_45 (hX 20 0 rfl) rfl 7 rfl rfl (by decide) in_MO W_350 rfl ?_
        refine pw_iload_n C d_MO_mark_48 rfl ?_
        refine pw_iload_n C d_MO_mark_49 rfl ?_
        refine pw_iadd C d_MO_mark_50 ?_
        rw [nI_add]
        refine pw_iload C d_MO_mark_51 rfl ?_
        refine pw_if_eq C 60 d_MO_mark_53 (by decide) (fun h53 => ?_) (fun h53 => ?_)
        · exact absurd h53 (by decide)
        refine pw_lconst C d_MO_mark_56 (v := 1) (by decide) ?_
        refine pw_goto C 61 d_MO_mark_57 (by decide) ?_
        refine pw_lastK C d_MO_mark_61 (hX 25 0 rfl) rfl (by omega) ?_
        refine MW.world m_u25 ?_
        refine pw_iinc1 C d_MO_mark_62 rfl (by decide) ?_
        refine pw_goto C 2 d_MO_mark_65 (by decide) ?_
        refine MW.less (lv' := [some (.ref (pw_a X 20 0)), some (.int (nI a)), some (.int (bi_f b)), some (.int (nI (k + 1))), none]) (by intro i v h; rcases i with _ | _ | _ | _ | _ | i <;> first | exact h | (simp at h)) ?_
        refine ih (k + 1) (by omega) _ (fun i hi => ?_) (fun z hz => ?_)
        · by_cases q : i = k
          · subst q
            rw [pk_uLs]
            exact (if_pos (Or.inl (by rw [← htk]; exact (lc_gt _ _).mp h19))).symm
          · rw [pk_uLn (by omega)]; exact h1 i (by omega)
        · rw [pk_uLn (by omega)]; exact h2 z (by omega)
      · refine pw_iload_n C d_MO_mark_22 rfl ?_
        refine pw_if_eq C 41 d_MO_mark_23 (by decide) (fun h23 => ?_) (fun h23 => ?_)
        · refine pw_iconst C d_MO_mark_41 (v := 0) (by decide) ?_
          refine pw_istore C d_MO_mark_42 (by decide) ?_
          refine pw_aload_n C d_MO_mark_44 rfl ?_
          refine pw_get C d_MO_mark_45 (hX 20 0 rfl) rfl 7 rfl rfl (by decide) in_MO W_350 rfl ?_
          refine pw_iload_n C d_MO_mark_48 rfl ?_
          refine pw_iload_n C d_MO_mark_49 rfl ?_
          refine pw_iadd C d_MO_mark_50 ?_
          rw [nI_add]
          refine pw_iload C d_MO_mark_51 rfl ?_
          refine pw_if_eq C 60 d_MO_mark_53 (by decide) (fun h53 => ?_) (fun h53 => ?_)
          · refine pw_lconst C d_MO_mark_60 (v := 0) (by decide) ?_
            refine pw_lastK C d_MO_mark_61 (hX 25 0 rfl) rfl (by omega) ?_
            refine MW.world m_u25 ?_
            refine pw_iinc1 C d_MO_mark_62 rfl (by decide) ?_
            refine pw_goto C 2 d_MO_mark_65 (by decide) ?_
            refine MW.less (lv' := [some (.ref (pw_a X 20 0)), some (.int (nI a)), some (.int (bi_f b)), some (.int (nI (k + 1))), none]) (by intro i v h; rcases i with _ | _ | _ | _ | _ | i <;> first | exact h | (simp at h)) ?_
            refine ih (k + 1) (by omega) _ (fun i hi => ?_) (fun z hz => ?_)
            · by_cases q : i = k
              · subst q
                rw [pk_uLs]
                exact (if_neg (fun q => q.elim (fun q => h19 ((lc_gt _ _).mpr (by rw [htk]; exact q))) (fun q => by rw [q.1] at h23; exact absurd h23 (by decide)))).symm
              · rw [pk_uLn (by omega)]; exact h1 i (by omega)
            · rw [pk_uLn (by omega)]; exact h2 z (by omega)
          · exact absurd rfl h53
        · refine pw_iload_n C d_MO_mark_26 rfl ?_
          refine pw_bipush C d_MO_mark_27 (v := 64) (by decide) ?_
          refine pw_idiv C d_MO_mark_29 (by decide) ?_
          refine pw_iload_n C d_MO_mark_30 rfl ?_
          refine pw_bipush C d_MO_mark_31 (v := 64) (by decide) ?_
          refine pw_irem C d_MO_mark_33 (by decide) ?_
          rw [show (64 : Int32) = nI 64 from rfl, pk_rem (a := k) (d := 64) (by omega) (by decide) (by decide), pk_div (a := k) (d := 64) (by omega) (by decide) (by decide)]
          refine pw_icmp_ne C 41 d_MO_mark_34 (by decide) (fun h34 => ?_) (fun h34 => ?_)
          · refine pw_iconst C d_MO_mark_41 (v := 0) (by decide) ?_
            refine pw_istore C d_MO_mark_42 (by decide) ?_
            refine pw_aload_n C d_MO_mark_44 rfl ?_
            refine pw_get C d_MO_mark_45 (hX 20 0 rfl) rfl 7 rfl rfl (by decide) in_MO W_350 rfl ?_
            refine pw_iload_n C d_MO_mark_48 rfl ?_
            refine pw_iload_n C d_MO_mark_49 rfl ?_
            refine pw_iadd C d_MO_mark_50 ?_
            rw [nI_add]
            refine pw_iload C d_MO_mark_51 rfl ?_
            refine pw_if_eq C 60 d_MO_mark_53 (by decide) (fun h53 => ?_) (fun h53 => ?_)
            · refine pw_lconst C d_MO_mark_60 (v := 0) (by decide) ?_
              refine pw_lastK C d_MO_mark_61 (hX 25 0 rfl) rfl (by omega) ?_
              refine MW.world m_u25 ?_
              refine pw_iinc1 C d_MO_mark_62 rfl (by decide) ?_
              refine pw_goto C 2 d_MO_mark_65 (by decide) ?_
              refine MW.less (lv' := [some (.ref (pw_a X 20 0)), some (.int (nI a)), some (.int (bi_f b)), some (.int (nI (k + 1))), none]) (by intro i v h; rcases i with _ | _ | _ | _ | _ | i <;> first | exact h | (simp at h)) ?_
              refine ih (k + 1) (by omega) _ (fun i hi => ?_) (fun z hz => ?_)
              · by_cases q : i = k
                · subst q
                  rw [pk_uLs]
                  exact (if_neg (fun q => q.elim (fun q => h19 ((lc_gt _ _).mpr (by rw [htk]; exact q))) (fun q => h34 (by rw [q.2])))).symm
                · rw [pk_uLn (by omega)]; exact h1 i (by omega)
              · rw [pk_uLn (by omega)]; exact h2 z (by omega)
            · exact absurd rfl h53
          · refine pw_iconst C d_MO_mark_37 (v := 1) (by decide) ?_
            refine pw_goto C 42 d_MO_mark_38 (by decide) ?_
            refine pw_istore C d_MO_mark_42 (by decide) ?_
            refine pw_aload_n C d_MO_mark_44 rfl ?_
            refine pw_get C d_MO_mark_45 (hX 20 0 rfl) rfl 7 rfl rfl (by decide) in_MO W_350 rfl ?_
            refine pw_iload_n C d_MO_mark_48 rfl ?_
            refine pw_iload_n C d_MO_mark_49 rfl ?_
            refine pw_iadd C d_MO_mark_50 ?_
            rw [nI_add]
            refine pw_iload C d_MO_mark_51 rfl ?_
            refine pw_if_eq C 60 d_MO_mark_53 (by decide) (fun h53 => ?_) (fun h53 => ?_)
            · exact absurd h53 (by decide)
            refine pw_lconst C d_MO_mark_56 (v := 1) (by decide) ?_
            refine pw_goto C 61 d_MO_mark_57 (by decide) ?_
            refine pw_lastK C d_MO_mark_61 (hX 25 0 rfl) rfl (by omega) ?_
            refine MW.world m_u25 ?_
            refine pw_iinc1 C d_MO_mark_62 rfl (by decide) ?_
            refine pw_goto C 2 d_MO_mark_65 (by decide) ?_
            refine MW.less (lv' := [some (.ref (pw_a X 20 0)), some (.int (nI a)), some (.int (bi_f b)), some (.int (nI (k + 1))), none]) (by intro i v h; rcases i with _ | _ | _ | _ | _ | i <;> first | exact h | (simp at h)) ?_
            refine ih (k + 1) (by omega) _ (fun i hi => ?_) (fun z hz => ?_)
            · by_cases q : i = k
              · subst q
                rw [pk_uLs]
                exact (if_pos (Or.inr ⟨by cases b with
                  | true => rfl
                  | false => exact absurd rfl h23, (nI_eq (by omega) (by omega)).mp h34⟩)).symm
              · rw [pk_uLn (by omega)]; exact h1 i (by omega)
            · rw [pk_uLn (by omega)]; exact h2 z (by omega)
  refine pw_iconst C d_MO_mark_0 (v := 0) (by decide) ?_
  refine pw_istore_n C d_MO_mark_1 (by decide) ?_
  exact L 4096 0 rfl tb (fun i hi => absurd hi (Nat.not_lt_zero i)) (fun z _ => rfl)
set_option maxHeartbeats 4000000 in
set_option maxRecDepth 100000 in
theorem k_MO_edgesOf (l : Launch) {X : Lay} (hI : pw_I X) (hX : Dm X) (w : Wd) {tE : Nat → Bool} {cnt sz pt rk : Int32} {wd st lk : Nat → Int32} {tb sp : Nat → Int64} {a : Nat} (ha : a + 4096 ≤ 61440) (v : Int32) : CtV l y_MO_edgesOf (pw_ws y_MO_edgesOf c_MO_edgesOf 7 none) { frames := 0, cells := 0, slots := 0, locals := 0 } X (m_w X w tE cnt wd sz st pt lk tb rk sp) [.ref (pw_a X 20 0), .int (nI a), .int v] (fun w1 => ∃ t1, w1 = m_w X w tE cnt wd sz st pt lk t1 rk sp ∧ (∀ i, i < 4096 → t1 (a + i) = lN (sg_f (fun b => if (decide ((v >>> (nI b &&& 31)) &&& 1 = 1) && tE (4096 * b + i)) then 1 else 0) 8)) ∧ ∀ z, (z < a ∨ a + 4096 ≤ z) → t1 z = tb z) := by
  refine pw_open (by decide) hI [some (.ref (pw_a X 20 0)), some (.int (nI a)), some (.int v), none, none, none, none] rfl (Nat.le_of_ble_eq_true rfl) ?_
  intro zp ze zs zm za zb zt zc hargs C zr zk hnm
  have Li : ∀ k : Nat, k < 4096 → ∀ t1 : Nat → Int64, MW zp l ze ({ frames := 0, cells := 0, slots := 0, locals := 0 } : Room) zs zm za zb zt zc X 7 0 0 (MQ zb (va_Qv (fun w1 => ∃ t1, w1 = m_w X w tE cnt wd sz st pt lk t1 rk sp ∧ (∀ i, i < 4096 → t1 (a + i) = lN (sg_f (fun b => if (decide ((v >>> (nI b &&& 31)) &&& 1 = 1) && tE (4096 * b + i)) then 1 else 0) 8)) ∧ ∀ z, (z < a ∨ a + 4096 ≤ z) → t1 z = tb z) (pw_B X) (pw_F X)) za zs 0 0 (pw_F X)) (m_w X w tE cnt wd sz st pt lk t1 rk sp) 64 [some (.ref (pw_a X 20 0)), some (.int (nI a)), some (.int v), some (.int (nI k)), some (.long (lN (sg_f (fun b => if (decide ((v >>> (nI b &&& 31)) &&& 1 = 1) && tE (4096 * b + k)) then 1 else 0) 8))), none, none] [] → ∀ d q : Nat, q + d = 8 → MW zp l ze ({ frames := 0, cells := 0, slots := 0, locals := 0 } : Room) zs zm za zb zt zc X 7 0 0 (MQ zb (va_Qv (fun w1 => ∃ t1, w1 = m_w X w tE cnt wd sz st pt lk t1 rk sp ∧ (∀ i, i < 4096 → t1 (a + i) = lN (sg_f (fun b => if (decide ((v >>> (nI b &&& 31)) &&& 1 = 1) && tE (4096 * b + i)) then 1 else 0) 8)) ∧ ∀ z, (z < a ∨ a + 4096 ≤ z) → t1 z = tb z) (pw_B X) (pw_F X)) za zs 0 0 (pw_F X)) (m_w X w tE cnt wd sz st pt lk t1 rk sp) 15 [some (.ref (pw_a X 20 0)), some (.int (nI a)), some (.int v), some (.int (nI k)), some (.long (lN (sg_f (fun b => if (decide ((v >>> (nI b &&& 31)) &&& 1 = 1) && tE (4096 * b + k)) then 1 else 0) q))), none, some (.int (nI q))] [] := by
    intro k hk t1 hcont d
    induction d with
    | zero =>
      intro q hqd
      have hq8 : q = 8 := by omega
      subst hq8
      refine pw_iload C d_MO_edgesOf_15 rfl ?_
      refine pw_bipush C d_MO_edgesOf_17 (v := 8) (by decide) ?_
      refine pw_icmp_ge C 64 d_MO_edgesOf_19 (by decide) (fun h19 => ?_) (fun h19 => ?_)
      · exact MW.less (lv' := [some (.ref (pw_a X 20 0)), some (.int (nI a)), some (.int v), some (.int (nI k)), some (.long (lN (sg_f (fun b => if (decide ((v >>> (nI b &&& 31)) &&& 1 = 1) && tE (4096 * b + k)) then 1 else 0) 8))), none, none]) (by intro i v h; rcases i with _ | _ | _ | _ | _ | _ | _ | i <;> first | exact h | (simp at h)) hcont
      · exact absurd (nI_le (a := 8) (b := 8) (by omega) (by omega)) h19
    | succ d ih =>
      intro q hqd
      refine pw_iload C d_MO_edgesOf_15 rfl ?_
      refine pw_bipush C d_MO_edgesOf_17 (v := 8) (by decide) ?_
      refine pw_icmp_ge C 64 d_MO_edgesOf_19 (by decide) (fun h19 => ?_) (fun h19 => ?_)
      · exact absurd ((nI_leI (a := 8) (by decide) (by omega)).mp h19) (by omega)
      refine pw_lload C d_MO_edgesOf_22 rfl ?_
      refine pw_iload_n C d_MO_edgesOf_24 rfl ?_
      refine pw_iload C d_MO_edgesOf_25 rfl ?_
      refine pw_ishr C d_MO_edgesOf_27 ?_
      refine pw_iconst C d_MO_edgesOf_28 (v := 1) (by decide) ?_
      refine pw_iand C d_MO_edgesOf_29 ?_
      refine pw_iconst C d_MO_edgesOf_30 (v := 1) (by decide) ?_
      refine pw_icmp_ne C 54 d_MO_edgesOf_31 (by decide) (fun h31 => ?_) (fun h31 => ?_)
      · refine pw_lconst C d_MO_edgesOf_54 (v := 0) (by decide) ?_
        refine pw_ladd C d_MO_edgesOf_55 ?_
        rw [show lN (sg_f (fun b => if (decide ((v >>> (nI b &&& 31)) &&& 1 = 1) && tE (4096 * b + k)) then 1 else 0) q) + 0 = lN (sg_f (fun b => if (decide ((v >>> (nI b &&& 31)) &&& 1 = 1) && tE (4096 * b + k)) then 1 else 0) (q + 1)) from by
          show _ = lN (sg_f (fun b => if (decide ((v >>> (nI b &&& 31)) &&& 1 = 1) && tE (4096 * b + k)) then 1 else 0) q + (if (decide ((v >>> (nI q &&& 31)) &&& 1 = 1) && tE (4096 * q + k)) then 1 else 0))
          rw [if_neg (by simp [h31])]; exact Int64.add_zero _]
        refine pw_lstore C d_MO_edgesOf_56 (by decide) ?_
        refine pw_iinc1 C d_MO_edgesOf_58 rfl (by decide) ?_
        refine pw_goto C 15 d_MO_edgesOf_61 (by decide) ?_
        exact ih (q + 1) (by omega)
      · refine pw_aload_n C d_MO_edgesOf_34 rfl ?_
        refine pw_get C d_MO_edgesOf_35 (hX 20 0 rfl) rfl 0 rfl rfl (by decide) in_MO W_343 rfl ?_
        refine pw_sipush C d_MO_edgesOf_38 (v := 4096) (by decide) ?_
        refine pw_iload C d_MO_edgesOf_41 rfl ?_
        refine pw_imul C d_MO_edgesOf_43 ?_
        refine pw_iload_n C d_MO_edgesOf_44 rfl ?_
        refine pw_iadd C d_MO_edgesOf_45 ?_
        rw [ix4]
        refine pw_zald C d_MO_edgesOf_46 (hX 21 0 rfl) rfl (vp_in_nI (n := 4096 * q + k) (by omega) (by decide)) ?_
        rw [nI_clamp (by omega)]
        refine pw_if_eq C 54 d_MO_edgesOf_47 (by decide) (fun h47 => ?_) (fun h47 => ?_)
        · refine pw_lconst C d_MO_edgesOf_54 (v := 0) (by decide) ?_
          refine pw_ladd C d_MO_edgesOf_55 ?_
          rw [show lN (sg_f (fun b => if (decide ((v >>> (nI b &&& 31)) &&& 1 = 1) && tE (4096 * b + k)) then 1 else 0) q) + 0 = lN (sg_f (fun b => if (decide ((v >>> (nI b &&& 31)) &&& 1 = 1) && tE (4096 * b + k)) then 1 else 0) (q + 1)) from by
            show _ = lN (sg_f (fun b => if (decide ((v >>> (nI b &&& 31)) &&& 1 = 1) && tE (4096 * b + k)) then 1 else 0) q + (if (decide ((v >>> (nI q &&& 31)) &&& 1 = 1) && tE (4096 * q + k)) then 1 else 0))
            rw [if_neg (by simp [bi_0.mp h47])]; exact Int64.add_zero _]
          refine pw_lstore C d_MO_edgesOf_56 (by decide) ?_
          refine pw_iinc1 C d_MO_edgesOf_58 rfl (by decide) ?_
          refine pw_goto C 15 d_MO_edgesOf_61 (by decide) ?_
          exact ih (q + 1) (by omega)
        · refine pw_lconst C d_MO_edgesOf_50 (v := 1) (by decide) ?_
          refine pw_goto C 55 d_MO_edgesOf_51 (by decide) ?_
          refine pw_ladd C d_MO_edgesOf_55 ?_
          rw [show lN (sg_f (fun b => if (decide ((v >>> (nI b &&& 31)) &&& 1 = 1) && tE (4096 * b + k)) then 1 else 0) q) + 1 = lN (sg_f (fun b => if (decide ((v >>> (nI b &&& 31)) &&& 1 = 1) && tE (4096 * b + k)) then 1 else 0) (q + 1)) from by
            show _ = lN (sg_f (fun b => if (decide ((v >>> (nI b &&& 31)) &&& 1 = 1) && tE (4096 * b + k)) then 1 else 0) q + (if (decide ((v >>> (nI q &&& 31)) &&& 1 = 1) && tE (4096 * q + k)) then 1 else 0))
            rw [if_pos (by simp only [Bool.and_eq_true, decide_eq_true_eq]; exact ⟨h31, by cases hq : tE (4096 * q + k) with | true => rfl | false => exact absurd (bi_0.mpr hq) h47⟩)]; exact lN_1 _]
          refine pw_lstore C d_MO_edgesOf_56 (by decide) ?_
          refine pw_iinc1 C d_MO_edgesOf_58 rfl (by decide) ?_
          refine pw_goto C 15 d_MO_edgesOf_61 (by decide) ?_
          exact ih (q + 1) (by omega)
  have L : ∀ d k : Nat, k + d = 4096 → ∀ t1 : Nat → Int64, (∀ i, i < k → t1 (a + i) = lN (sg_f (fun b => if (decide ((v >>> (nI b &&& 31)) &&& 1 = 1) && tE (4096 * b + i)) then 1 else 0) 8)) → (∀ z, (z < a ∨ a + k ≤ z) → t1 z = tb z) → MW zp l ze ({ frames := 0, cells := 0, slots := 0, locals := 0 } : Room) zs zm za zb zt zc X 7 0 0 (MQ zb (va_Qv (fun w1 => ∃ t1, w1 = m_w X w tE cnt wd sz st pt lk t1 rk sp ∧ (∀ i, i < 4096 → t1 (a + i) = lN (sg_f (fun b => if (decide ((v >>> (nI b &&& 31)) &&& 1 = 1) && tE (4096 * b + i)) then 1 else 0) 8)) ∧ ∀ z, (z < a ∨ a + 4096 ≤ z) → t1 z = tb z) (pw_B X) (pw_F X)) za zs 0 0 (pw_F X)) (m_w X w tE cnt wd sz st pt lk t1 rk sp) 2 [some (.ref (pw_a X 20 0)), some (.int (nI a)), some (.int v), some (.int (nI k)), none, none, none] [] := by
    intro d
    induction d with
    | zero =>
      intro k hkd t1 h1 h2
      refine pw_iload_n C d_MO_edgesOf_2 rfl ?_
      refine pw_sipush C d_MO_edgesOf_3 (v := 4096) (by decide) ?_
      refine pw_icmp_ge C 80 d_MO_edgesOf_6 (by decide) (fun h6 => ?_) (fun h6 => ?_)
      · refine pw_vret C zr zk d_MO_edgesOf_80 ?_
        exact ⟨t1, rfl, fun i hi => h1 i (by omega), fun z hz => h2 z (by omega)⟩
      · exact absurd (nI_le (a := 4096) (b := k) (by omega) (by omega)) h6
    | succ d ih =>
      intro k hkd t1 h1 h2
      refine pw_iload_n C d_MO_edgesOf_2 rfl ?_
      refine pw_sipush C d_MO_edgesOf_3 (v := 4096) (by decide) ?_
      refine pw_icmp_ge C 80 d_MO_edgesOf_6 (by decide) (fun h6 => ?_) (fun h6 => ?_)
      · exact absurd ((nI_leI (a := 4096) (by decide) (by omega)).mp h6) (by omega)
      refine pw_lconst C d_MO_edgesOf_9 (v := 0) (by decide) ?_
      refine pw_lstore C d_MO_edgesOf_10 (by decide) ?_
      refine pw_iconst C d_MO_edgesOf_12 (v := 0) (by decide) ?_
      refine pw_istore C d_MO_edgesOf_13 (by decide) ?_
      refine Li k (by omega) t1 ?_ 8 0 rfl
      refine pw_aload_n C d_MO_edgesOf_64 rfl ?_
      refine pw_get C d_MO_edgesOf_65 (hX 20 0 rfl) rfl 7 rfl rfl (by decide) in_MO W_350 rfl ?_
      refine pw_iload_n C d_MO_edgesOf_68 rfl ?_
      refine pw_iload_n C d_MO_edgesOf_69 rfl ?_
      refine pw_iadd C d_MO_edgesOf_70 ?_
      rw [nI_add]
      refine pw_lload C d_MO_edgesOf_71 rfl ?_
      refine pw_lastK C d_MO_edgesOf_73 (hX 25 0 rfl) rfl (by omega) ?_
      refine MW.world m_u25 ?_
      refine pw_iinc1 C d_MO_edgesOf_74 rfl (by decide) ?_
      refine pw_goto C 2 d_MO_edgesOf_77 (by decide) ?_
      refine MW.less (lv' := [some (.ref (pw_a X 20 0)), some (.int (nI a)), some (.int v), some (.int (nI (k + 1))), none, none, none]) (by intro i v h; rcases i with _ | _ | _ | _ | _ | _ | _ | i <;> first | exact h | (simp at h)) ?_
      refine ih (k + 1) (by omega) _ (fun i hi => ?_) (fun z hz => ?_)
      · by_cases q : i = k
        · subst q; rw [pk_uLs]
        · rw [pk_uLn (by omega)]; exact h1 i (by omega)
      · rw [pk_uLn (by omega)]; exact h2 z (by omega)
  refine pw_iconst C d_MO_edgesOf_0 (v := 0) (by decide) ?_
  refine pw_istore_n C d_MO_edgesOf_1 (by decide) ?_
  exact L 4096 0 rfl tb (fun i hi => absurd hi (Nat.not_lt_zero i)) (fun z _ => rfl)
set_option maxHeartbeats 4000000 in
set_option maxRecDepth 100000 in
theorem k_MO_turn (l : Launch) {X : Lay} (hI : pw_I X) (hX : Dm X) (w : Wd) {tE : Nat → Bool} {cnt sz pt rk : Int32} {wd st lk : Nat → Int32} {tb sp : Nat → Int64} {a : Nat} (ha : a + 4096 ≤ 61440) : CtV l y_MO_turn (pw_ws y_MO_turn c_MO_turn 6 none) { frames := 0, cells := 0, slots := 0, locals := 0 } X (m_w X w tE cnt wd sz st pt lk tb rk sp) [.ref (pw_a X 20 0), .int (nI a)] (fun w1 => ∃ t1, w1 = m_w X w tE cnt wd sz st pt lk t1 rk sp ∧ (∀ x, x < 64 → ∀ y, y < 64 → t1 (a + 64 * x + y) = tb (a + 64 * y + x)) ∧ ∀ z, (z < a ∨ a + 4096 ≤ z) → t1 z = tb z) := by
  refine pw_open (by decide) hI [some (.ref (pw_a X 20 0)), some (.int (nI a)), none, none, none, none] rfl (Nat.le_of_ble_eq_true rfl) ?_
  intro zp ze zs zm za zb zt zc hargs C zr zk hnm
  have Li : ∀ k : Nat, k < 64 → (∀ t1 : Nat → Int64, (∀ x, x < 64 → ∀ y, y < 64 → t1 (a + 64 * x + y) = if x < k + 1 ∧ y < k + 1 then tb (a + 64 * y + x) else tb (a + 64 * x + y)) → (∀ z, (z < a ∨ a + 4096 ≤ z) → t1 z = tb z) → MW zp l ze ({ frames := 0, cells := 0, slots := 0, locals := 0 } : Room) zs zm za zb zt zc X 6 0 0 (MQ zb (va_Qv (fun w1 => ∃ t1, w1 = m_w X w tE cnt wd sz st pt lk t1 rk sp ∧ (∀ x, x < 64 → ∀ y, y < 64 → t1 (a + 64 * x + y) = tb (a + 64 * y + x)) ∧ ∀ z, (z < a ∨ a + 4096 ≤ z) → t1 z = tb z) (pw_B X) (pw_F X)) za zs 0 0 (pw_F X)) (m_w X w tE cnt wd sz st pt lk t1 rk sp) 77 [some (.ref (pw_a X 20 0)), some (.int (nI a)), some (.int (nI k)), none, none, none] []) → ∀ d q : Nat, q + d = k → ∀ t1 : Nat → Int64, (∀ x, x < 64 → ∀ y, y < 64 → t1 (a + 64 * x + y) = if (x < k ∧ y < k) ∨ (x = k ∧ y < q) ∨ (y = k ∧ x < q) then tb (a + 64 * y + x) else tb (a + 64 * x + y)) → (∀ z, (z < a ∨ a + 4096 ≤ z) → t1 z = tb z) → MW zp l ze ({ frames := 0, cells := 0, slots := 0, locals := 0 } : Room) zs zm za zb zt zc X 6 0 0 (MQ zb (va_Qv (fun w1 => ∃ t1, w1 = m_w X w tE cnt wd sz st pt lk t1 rk sp ∧ (∀ x, x < 64 → ∀ y, y < 64 → t1 (a + 64 * x + y) = tb (a + 64 * y + x)) ∧ ∀ z, (z < a ∨ a + 4096 ≤ z) → t1 z = tb z) (pw_B X) (pw_F X)) za zs 0 0 (pw_F X)) (m_w X w tE cnt wd sz st pt lk t1 rk sp) 10 [some (.ref (pw_a X 20 0)), some (.int (nI a)), some (.int (nI k)), some (.int (nI q)), none, none] [] := by
    intro k hk hcont d
    induction d with
    | zero =>
      intro q hqd t1 h1 h2
      have hqk : q = k := by omega
      subst hqk
      refine pw_iload_n C d_MO_turn_10 rfl ?_
      refine pw_iload_n C d_MO_turn_11 rfl ?_
      refine pw_icmp_ge C 77 d_MO_turn_12 (by decide) (fun h12 => ?_) (fun h12 => ?_)
      · refine MW.less (lv' := [some (.ref (pw_a X 20 0)), some (.int (nI a)), some (.int (nI q)), none, none, none]) (by intro i v h; rcases i with _ | _ | _ | _ | _ | _ | i <;> first | exact h | (simp at h)) (hcont t1 (fun x hx y hy => ?_) h2)
        rw [h1 x hx y hy]
        by_cases z : x = y
        · subst z; simp
        · by_cases c : x < q + 1 ∧ y < q + 1
          · rw [if_pos c, if_pos (by omega)]
          · rw [if_neg c, if_neg (by omega)]
      · exact absurd (nI_le (Nat.le_refl q) (by omega)) h12
    | succ d ih =>
      intro q hqd t1 h1 h2
      have hq64 : q < 64 := by omega
      refine pw_iload_n C d_MO_turn_10 rfl ?_
      refine pw_iload_n C d_MO_turn_11 rfl ?_
      refine pw_icmp_ge C 77 d_MO_turn_12 (by decide) (fun h12 => ?_) (fun h12 => ?_)
      · exact absurd ((nI_leI (by omega) (by omega)).mp h12) (by omega)
      refine pw_aload_n C d_MO_turn_15 rfl ?_
      refine pw_get C d_MO_turn_16 (hX 20 0 rfl) rfl 7 rfl rfl (by decide) in_MO W_350 rfl ?_
      refine pw_iload_n C d_MO_turn_19 rfl ?_
      refine pw_bipush C d_MO_turn_20 (v := 64) (by decide) ?_
      refine pw_iload_n C d_MO_turn_22 rfl ?_
      refine pw_imul C d_MO_turn_23 ?_
      refine pw_iadd C d_MO_turn_24 ?_
      refine pw_iload_n C d_MO_turn_25 rfl ?_
      refine pw_iadd C d_MO_turn_26 ?_
      rw [ix3]
      refine pw_laldK C d_MO_turn_27 (hX 25 0 rfl) rfl (by omega) ?_
      refine pw_lstore C d_MO_turn_28 (by decide) ?_
      refine pw_aload_n C d_MO_turn_30 rfl ?_
      refine pw_get C d_MO_turn_31 (hX 20 0 rfl) rfl 7 rfl rfl (by decide) in_MO W_350 rfl ?_
      refine pw_iload_n C d_MO_turn_34 rfl ?_
      refine pw_bipush C d_MO_turn_35 (v := 64) (by decide) ?_
      refine pw_iload_n C d_MO_turn_37 rfl ?_
      refine pw_imul C d_MO_turn_38 ?_
      refine pw_iadd C d_MO_turn_39 ?_
      refine pw_iload_n C d_MO_turn_40 rfl ?_
      refine pw_iadd C d_MO_turn_41 ?_
      rw [ix3]
      refine pw_aload_n C d_MO_turn_42 rfl ?_
      refine pw_get C d_MO_turn_43 (hX 20 0 rfl) rfl 7 rfl rfl (by decide) in_MO W_350 rfl ?_
      refine pw_iload_n C d_MO_turn_46 rfl ?_
      refine pw_bipush C d_MO_turn_47 (v := 64) (by decide) ?_
      refine pw_iload_n C d_MO_turn_49 rfl ?_
      refine pw_imul C d_MO_turn_50 ?_
      refine pw_iadd C d_MO_turn_51 ?_
      refine pw_iload_n C d_MO_turn_52 rfl ?_
      refine pw_iadd C d_MO_turn_53 ?_
      rw [ix3]
      refine pw_laldK C d_MO_turn_54 (hX 25 0 rfl) rfl (by omega) ?_
      refine pw_lastK C d_MO_turn_55 (hX 25 0 rfl) rfl (by omega) ?_
      refine MW.world m_u25 ?_
      refine pw_aload_n C d_MO_turn_56 rfl ?_
      refine pw_get C d_MO_turn_57 (hX 20 0 rfl) rfl 7 rfl rfl (by decide) in_MO W_350 rfl ?_
      refine pw_iload_n C d_MO_turn_60 rfl ?_
      refine pw_bipush C d_MO_turn_61 (v := 64) (by decide) ?_
      refine pw_iload_n C d_MO_turn_63 rfl ?_
      refine pw_imul C d_MO_turn_64 ?_
      refine pw_iadd C d_MO_turn_65 ?_
      refine pw_iload_n C d_MO_turn_66 rfl ?_
      refine pw_iadd C d_MO_turn_67 ?_
      rw [ix3]
      refine pw_lload C d_MO_turn_68 rfl ?_
      refine pw_lastK C d_MO_turn_70 (hX 25 0 rfl) rfl (by omega) ?_
      refine MW.world m_u25 ?_
      refine pw_iinc1 C d_MO_turn_71 rfl (by decide) ?_
      refine pw_goto C 10 d_MO_turn_74 (by decide) ?_
      refine MW.less (lv' := [some (.ref (pw_a X 20 0)), some (.int (nI a)), some (.int (nI k)), some (.int (nI (q + 1))), none, none]) (by intro i v h; rcases i with _ | _ | _ | _ | _ | _ | i <;> first | exact h | (simp at h)) ?_
      refine ih (q + 1) (by omega) _ (fun x hx y hy => ?_) (fun z hz => ?_)
      · have e1 : t1 (a + 64 * k + q) = tb (a + 64 * k + q) := by rw [h1 k hk q hq64, if_neg (by omega)]
        have e2 : t1 (a + 64 * q + k) = tb (a + 64 * q + k) := by rw [h1 q hq64 k hk, if_neg (by omega)]
        by_cases c1 : x = q ∧ y = k
        · obtain ⟨rfl, rfl⟩ := c1
          rw [pk_uLs, if_pos (by omega), e1]
        · rw [pk_uLn (by omega)]
          by_cases c2 : x = k ∧ y = q
          · obtain ⟨rfl, rfl⟩ := c2
            rw [pk_uLs, if_pos (by omega), e2]
          · rw [pk_uLn (by omega), h1 x hx y hy]
            by_cases c : (x < k ∧ y < k) ∨ (x = k ∧ y < q) ∨ (y = k ∧ x < q)
            · rw [if_pos c, if_pos (by omega)]
            · rw [if_neg c, if_neg (by omega)]
      · rw [pk_uLn (by omega), pk_uLn (by omega)]; exact h2 z hz
  have L : ∀ d k : Nat, k + d = 64 → ∀ t1 : Nat → Int64, (∀ x, x < 64 → ∀ y, y < 64 → t1 (a + 64 * x + y) = if x < k ∧ y < k then tb (a + 64 * y + x) else tb (a + 64 * x + y)) → (∀ z, (z < a ∨ a + 4096 ≤ z) → t1 z = tb z) → MW zp l ze ({ frames := 0, cells := 0, slots := 0, locals := 0 } : Room) zs zm za zb zt zc X 6 0 0 (MQ zb (va_Qv (fun w1 => ∃ t1, w1 = m_w X w tE cnt wd sz st pt lk t1 rk sp ∧ (∀ x, x < 64 → ∀ y, y < 64 → t1 (a + 64 * x + y) = tb (a + 64 * y + x)) ∧ ∀ z, (z < a ∨ a + 4096 ≤ z) → t1 z = tb z) (pw_B X) (pw_F X)) za zs 0 0 (pw_F X)) (m_w X w tE cnt wd sz st pt lk t1 rk sp) 2 [some (.ref (pw_a X 20 0)), some (.int (nI a)), some (.int (nI k)), none, none, none] [] := by
    intro d
    induction d with
    | zero =>
      intro k hkd t1 h1 h2
      refine pw_iload_n C d_MO_turn_2 rfl ?_
      refine pw_bipush C d_MO_turn_3 (v := 64) (by decide) ?_
      refine pw_icmp_ge C 83 d_MO_turn_5 (by decide) (fun h5 => ?_) (fun h5 => ?_)
      · refine pw_vret C zr zk d_MO_turn_83 ?_
        exact ⟨t1, rfl, fun x hx y hy => by rw [h1 x hx y hy, if_pos (by omega)], h2⟩
      · exact absurd (nI_le (a := 64) (b := k) (by omega) (by omega)) h5
    | succ d ih =>
      intro k hkd t1 h1 h2
      refine pw_iload_n C d_MO_turn_2 rfl ?_
      refine pw_bipush C d_MO_turn_3 (v := 64) (by decide) ?_
      refine pw_icmp_ge C 83 d_MO_turn_5 (by decide) (fun h5 => ?_) (fun h5 => ?_)
      · exact absurd ((nI_leI (a := 64) (by decide) (by omega)).mp h5) (by omega)
      refine pw_iconst C d_MO_turn_8 (v := 0) (by decide) ?_
      refine pw_istore_n C d_MO_turn_9 (by decide) ?_
      refine Li k (by omega) ?_ k 0 (by omega) t1 (fun x hx y hy => ?_) h2
      · intro t2 g1 g2
        refine pw_iinc1 C d_MO_turn_77 rfl (by decide) ?_
        refine pw_goto C 2 d_MO_turn_80 (by decide) ?_
        exact ih (k + 1) (by omega) t2 g1 g2
      · rw [h1 x hx y hy]
        by_cases c : x < k ∧ y < k
        · rw [if_pos c, if_pos (by omega)]
        · rw [if_neg c, if_neg (by omega)]
  refine pw_iconst C d_MO_turn_0 (v := 0) (by decide) ?_
  refine pw_istore_n C d_MO_turn_1 (by decide) ?_
  exact L 64 0 rfl tb (fun x hx y hy => by rw [if_neg (by omega)]) (fun z _ => rfl)
end
section
/-! THE REFERENCE: close, chain -/
def v1_f (c : Bool) : Int64 := if c then 1 else 0
theorem v1_or (a b : Bool) : v1_f a ||| v1_f b = v1_f (a || b) := by cases a <;> cases b <;> decide
theorem v1_0 {a : Bool} : v1_f a = 0 ↔ a = false := by cases a <;> simp [v1_f]
set_option maxHeartbeats 4000000 in
set_option maxRecDepth 100000 in
theorem k_MO_close (l : Launch) {X : Lay} (hI : pw_I X) (hX : Dm X) (w : Wd) {tE : Nat → Bool} {cnt sz pt rk : Int32} {wd st lk : Nat → Int32} {tb sp : Nat → Int64} {a : Nat} (ha : a + 4096 ≤ 61440) (b : Bool) : CtV l y_MO_close (pw_ws y_MO_close c_MO_close 6 none) { frames := 1, cells := 0, slots := 0, locals := 24 } X (m_w X w tE cnt wd sz st pt lk tb rk sp) [.ref (pw_a X 20 0), .int (nI a), .int (bi_f b)] (fun w1 => ∃ t1, w1 = m_w X w tE cnt wd sz st pt lk t1 rk sp ∧ (∀ x, x < 64 → ∀ y, y < 64 → t1 (a + 64 * x + y) = v1_f (wz_f (fun x y => decide (0 < tb (a + 64 * x + y)) || (b && decide (x = y))) 64 x y)) ∧ ∀ z, (z < a ∨ a + 4096 ≤ z) → t1 z = tb z) := by
  refine pw_open (by decide) hI [some (.ref (pw_a X 20 0)), some (.int (nI a)), some (.int (bi_f b)), none, none, none] rfl (Nat.le_of_ble_eq_true rfl) ?_
  intro zp ze zs zm za zb zt zc hargs C zr zk hnm
  generalize hrr : (fun x y => decide (0 < tb (a + 64 * x + y)) || (b && decide (x = y))) = rr
  have Ly : ∀ k q : Nat, k < 64 → q < 64 → wz_f rr k q k = true → (∀ t1 : Nat → Int64, (∀ x, x < 64 → ∀ y, y < 64 → t1 (a + 64 * x + y) = v1_f (wz_f rr (if x < q + 1 then k + 1 else k) x y)) → (∀ z, (z < a ∨ a + 4096 ≤ z) → t1 z = tb z) → MW zp l ze ({ frames := 1, cells := 0, slots := 0, locals := 24 } : Room) zs zm za zb zt zc X 6 0 0 (MQ zb (va_Qv (fun w1 => ∃ t1, w1 = m_w X w tE cnt wd sz st pt lk t1 rk sp ∧ (∀ x, x < 64 → ∀ y, y < 64 → t1 (a + 64 * x + y) = v1_f (wz_f rr 64 x y)) ∧ ∀ z, (z < a ∨ a + 4096 ≤ z) → t1 z = tb z) (pw_B X) (pw_F X)) za zs 0 0 (pw_F X)) (m_w X w tE cnt wd sz st pt lk t1 rk sp) 94 [some (.ref (pw_a X 20 0)), some (.int (nI a)), some (.int (bi_f b)), some (.int (nI k)), some (.int (nI q)), none] []) → ∀ d u : Nat, u + d = 64 → ∀ t1 : Nat → Int64, (∀ x, x < 64 → ∀ y, y < 64 → t1 (a + 64 * x + y) = v1_f (wz_f rr (if x < q ∨ (x = q ∧ y < u) then k + 1 else k) x y)) → (∀ z, (z < a ∨ a + 4096 ≤ z) → t1 z = tb z) → MW zp l ze ({ frames := 1, cells := 0, slots := 0, locals := 24 } : Room) zs zm za zb zt zc X 6 0 0 (MQ zb (va_Qv (fun w1 => ∃ t1, w1 = m_w X w tE cnt wd sz st pt lk t1 rk sp ∧ (∀ x, x < 64 → ∀ y, y < 64 → t1 (a + 64 * x + y) = v1_f (wz_f rr 64 x y)) ∧ ∀ z, (z < a ∨ a + 4096 ≤ z) → t1 z = tb z) (pw_B X) (pw_F X)) za zs 0 0 (pw_F X)) (m_w X w tE cnt wd sz st pt lk t1 rk sp) 49 [some (.ref (pw_a X 20 0)), some (.int (nI a)), some (.int (bi_f b)), some (.int (nI k)), some (.int (nI q)), some (.int (nI u))] [] := by
    intro k q hk hq hqk hcont d
    induction d with
    | zero =>
      intro u hud t1 h1 h2
      refine pw_iload C d_MO_close_49 rfl ?_
      refine pw_bipush C d_MO_close_51 (v := 64) (by decide) ?_
      refine pw_icmp_ge C 94 d_MO_close_53 (by decide) (fun h53 => ?_) (fun h53 => ?_)
      · refine MW.less (lv' := [some (.ref (pw_a X 20 0)), some (.int (nI a)), some (.int (bi_f b)), some (.int (nI k)), some (.int (nI q)), none]) (by intro i v h; rcases i with _ | _ | _ | _ | _ | _ | i <;> first | exact h | (simp at h)) (hcont t1 (fun x hx y hy => ?_) h2)
        rw [h1 x hx y hy]
        by_cases c : x < q + 1
        · rw [if_pos c, if_pos (by omega)]
        · rw [if_neg c, if_neg (by omega)]
      · exact absurd (nI_le (a := 64) (b := u) (by omega) (by omega)) h53
    | succ d ih =>
      intro u hud t1 h1 h2
      have hu : u < 64 := by omega
      have e1 : t1 (a + 64 * q + u) = v1_f (wz_f rr k q u) := by rw [h1 q hq u hu, if_neg (by omega)]
      have e2 : t1 (a + 64 * k + u) = v1_f (wz_f rr k k u) := by
        rw [h1 k hk u hu]
        by_cases c : k < q ∨ (k = q ∧ u < u)
        · rw [if_pos c, wz_row]
        · rw [if_neg c]
      refine pw_iload C d_MO_close_49 rfl ?_
      refine pw_bipush C d_MO_close_51 (v := 64) (by decide) ?_
      refine pw_icmp_ge C 94 d_MO_close_53 (by decide) (fun h53 => ?_) (fun h53 => ?_)
      · exact absurd ((nI_leI (a := 64) (by decide) (by omega)).mp h53) (by omega)
      refine pw_aload_n C d_MO_close_56 rfl ?_
      refine pw_get C d_MO_close_57 (hX 20 0 rfl) rfl 7 rfl rfl (by decide) in_MO W_350 rfl ?_
      refine pw_iload_n C d_MO_close_60 rfl ?_
      refine pw_bipush C d_MO_close_61 (v := 64) (by decide) ?_
      refine pw_iload C d_MO_close_63 rfl ?_
      refine pw_imul C d_MO_close_65 ?_
      refine pw_iadd C d_MO_close_66 ?_
      refine pw_iload C d_MO_close_67 rfl ?_
      refine pw_iadd C d_MO_close_69 ?_
      rw [ix3]
      refine pw_dup2 C d_MO_close_70 rfl rfl ?_
      refine pw_laldK C d_MO_close_71 (hX 25 0 rfl) rfl (by omega) ?_
      refine pw_aload_n C d_MO_close_72 rfl ?_
      refine pw_get C d_MO_close_73 (hX 20 0 rfl) rfl 7 rfl rfl (by decide) in_MO W_350 rfl ?_
      refine pw_iload_n C d_MO_close_76 rfl ?_
      refine pw_bipush C d_MO_close_77 (v := 64) (by decide) ?_
      refine pw_iload_n C d_MO_close_79 rfl ?_
      refine pw_imul C d_MO_close_80 ?_
      refine pw_iadd C d_MO_close_81 ?_
      refine pw_iload C d_MO_close_82 rfl ?_
      refine pw_iadd C d_MO_close_84 ?_
      rw [ix3]
      refine pw_laldK C d_MO_close_85 (hX 25 0 rfl) rfl (by omega) ?_
      refine pw_lor C d_MO_close_86 ?_
      refine pw_lastK C d_MO_close_87 (hX 25 0 rfl) rfl (by omega) ?_
      rw [e1, e2, v1_or]
      refine MW.world m_u25 ?_
      refine pw_iinc1 C d_MO_close_88 rfl (by decide) ?_
      refine pw_goto C 49 d_MO_close_91 (by decide) ?_
      refine ih (u + 1) (by omega) _ (fun x hx y hy => ?_) (fun z hz => ?_)
      · by_cases c : x = q ∧ y = u
        · obtain ⟨rfl, rfl⟩ := c
          rw [pk_uLs, if_pos (by omega)]
          show _ = v1_f (wz_f rr k x y || (wz_f rr k x k && wz_f rr k k y))
          rw [hqk, Bool.true_and]
        · rw [pk_uLn (by omega), h1 x hx y hy]
          by_cases c2 : x < q ∨ (x = q ∧ y < u)
          · rw [if_pos c2, if_pos (by omega)]
          · rw [if_neg c2, if_neg (by omega)]
      · rw [pk_uLn (by omega)]; exact h2 z hz
  have Lx : ∀ k : Nat, k < 64 → (∀ t1 : Nat → Int64, (∀ x, x < 64 → ∀ y, y < 64 → t1 (a + 64 * x + y) = v1_f (wz_f rr (k + 1) x y)) → (∀ z, (z < a ∨ a + 4096 ≤ z) → t1 z = tb z) → MW zp l ze ({ frames := 1, cells := 0, slots := 0, locals := 24 } : Room) zs zm za zb zt zc X 6 0 0 (MQ zb (va_Qv (fun w1 => ∃ t1, w1 = m_w X w tE cnt wd sz st pt lk t1 rk sp ∧ (∀ x, x < 64 → ∀ y, y < 64 → t1 (a + 64 * x + y) = v1_f (wz_f rr 64 x y)) ∧ ∀ z, (z < a ∨ a + 4096 ≤ z) → t1 z = tb z) (pw_B X) (pw_F X)) za zs 0 0 (pw_F X)) (m_w X w tE cnt wd sz st pt lk t1 rk sp) 100 [some (.ref (pw_a X 20 0)), some (.int (nI a)), some (.int (bi_f b)), some (.int (nI k)), none, none] []) → ∀ d q : Nat, q + d = 64 → ∀ t1 : Nat → Int64, (∀ x, x < 64 → ∀ y, y < 64 → t1 (a + 64 * x + y) = v1_f (wz_f rr (if x < q then k + 1 else k) x y)) → (∀ z, (z < a ∨ a + 4096 ≤ z) → t1 z = tb z) → MW zp l ze ({ frames := 1, cells := 0, slots := 0, locals := 24 } : Room) zs zm za zb zt zc X 6 0 0 (MQ zb (va_Qv (fun w1 => ∃ t1, w1 = m_w X w tE cnt wd sz st pt lk t1 rk sp ∧ (∀ x, x < 64 → ∀ y, y < 64 → t1 (a + 64 * x + y) = v1_f (wz_f rr 64 x y)) ∧ ∀ z, (z < a ∨ a + 4096 ≤ z) → t1 z = tb z) (pw_B X) (pw_F X)) za zs 0 0 (pw_F X)) (m_w X w tE cnt wd sz st pt lk t1 rk sp) 17 [some (.ref (pw_a X 20 0)), some (.int (nI a)), some (.int (bi_f b)), some (.int (nI k)), some (.int (nI q)), none] [] := by
    intro k hk hcont d
    induction d with
    | zero =>
      intro q hqd t1 h1 h2
      refine pw_iload C d_MO_close_17 rfl ?_
      refine pw_bipush C d_MO_close_19 (v := 64) (by decide) ?_
      refine pw_icmp_ge C 100 d_MO_close_21 (by decide) (fun h21 => ?_) (fun h21 => ?_)
      · refine MW.less (lv' := [some (.ref (pw_a X 20 0)), some (.int (nI a)), some (.int (bi_f b)), some (.int (nI k)), none, none]) (by intro i v h; rcases i with _ | _ | _ | _ | _ | _ | i <;> first | exact h | (simp at h)) (hcont t1 (fun x hx y hy => ?_) h2)
        rw [h1 x hx y hy, if_pos (by omega)]
      · exact absurd (nI_le (a := 64) (b := q) (by omega) (by omega)) h21
    | succ d ih =>
      intro q hqd t1 h1 h2
      have hq : q < 64 := by omega
      have e0 : t1 (a + 64 * q + k) = v1_f (wz_f rr k q k) := by rw [h1 q hq k hk, if_neg (by omega)]
      refine pw_iload C d_MO_close_17 rfl ?_
      refine pw_bipush C d_MO_close_19 (v := 64) (by decide) ?_
      refine pw_icmp_ge C 100 d_MO_close_21 (by decide) (fun h21 => ?_) (fun h21 => ?_)
      · exact absurd ((nI_leI (a := 64) (by decide) (by omega)).mp h21) (by omega)
      refine pw_aload_n C d_MO_close_24 rfl ?_
      refine pw_get C d_MO_close_25 (hX 20 0 rfl) rfl 7 rfl rfl (by decide) in_MO W_350 rfl ?_
      refine pw_iload_n C d_MO_close_28 rfl ?_
      refine pw_bipush C d_MO_close_29 (v := 64) (by decide) ?_
      refine pw_iload C d_MO_close_31 rfl ?_
      refine pw_imul C d_MO_close_33 ?_
      refine pw_iadd C d_MO_close_34 ?_
      refine pw_iload_n C d_MO_close_35 rfl ?_
      refine pw_iadd C d_MO_close_36 ?_
      rw [ix3]
      refine pw_laldK C d_MO_close_37 (hX 25 0 rfl) rfl (by omega) ?_
      rw [e0]
      refine pw_lconst C d_MO_close_38 (v := 0) (by decide) ?_
      refine pw_lcmp C d_MO_close_39 ?_
      refine pw_if_ne C 46 d_MO_close_40 (by decide) (fun h40 => ?_) (fun h40 => ?_)
      · refine pw_iconst C d_MO_close_46 (v := 0) (by decide) ?_
        refine pw_istore C d_MO_close_47 (by decide) ?_
        have hqk : wz_f rr k q k = true := by
          cases hb : wz_f rr k q k with
          | true => rfl
          | false => exact absurd ((lc_eq _ _).mpr (v1_0.mpr hb)) h40
        refine Ly k q hk hq hqk ?_ 64 0 rfl t1 (fun x hx y hy => ?_) h2
        · intro t2 g1 g2
          refine pw_iinc1 C d_MO_close_94 rfl (by decide) ?_
          refine pw_goto C 17 d_MO_close_97 (by decide) ?_
          exact ih (q + 1) (by omega) t2 g1 g2
        · rw [h1 x hx y hy]
          by_cases c2 : x < q
          · rw [if_pos c2, if_pos (by omega)]
          · rw [if_neg c2, if_neg (by omega)]
      · refine pw_goto C 94 d_MO_close_43 (by decide) ?_
        refine pw_iinc1 C d_MO_close_94 rfl (by decide) ?_
        refine pw_goto C 17 d_MO_close_97 (by decide) ?_
        refine ih (q + 1) (by omega) t1 (fun x hx y hy => ?_) h2
        rw [h1 x hx y hy]
        by_cases c : x = q
        · subst c
          rw [if_neg (by omega), if_pos (by omega)]
          show _ = v1_f (wz_f rr k x y || (wz_f rr k x k && wz_f rr k k y))
          rw [v1_0.mp ((lc_eq _ _).mp h40), Bool.false_and, Bool.or_false]
        · by_cases c2 : x < q
          · rw [if_pos c2, if_pos (by omega)]
          · rw [if_neg c2, if_neg (by omega)]
  have L : ∀ d k : Nat, k + d = 64 → ∀ t1 : Nat → Int64, (∀ x, x < 64 → ∀ y, y < 64 → t1 (a + 64 * x + y) = v1_f (wz_f rr k x y)) → (∀ z, (z < a ∨ a + 4096 ≤ z) → t1 z = tb z) → MW zp l ze ({ frames := 1, cells := 0, slots := 0, locals := 24 } : Room) zs zm za zb zt zc X 6 0 0 (MQ zb (va_Qv (fun w1 => ∃ t1, w1 = m_w X w tE cnt wd sz st pt lk t1 rk sp ∧ (∀ x, x < 64 → ∀ y, y < 64 → t1 (a + 64 * x + y) = v1_f (wz_f rr 64 x y)) ∧ ∀ z, (z < a ∨ a + 4096 ≤ z) → t1 z = tb z) (pw_B X) (pw_F X)) za zs 0 0 (pw_F X)) (m_w X w tE cnt wd sz st pt lk t1 rk sp) 8 [some (.ref (pw_a X 20 0)), some (.int (nI a)), some (.int (bi_f b)), some (.int (nI k)), none, none] [] := by
    intro d
    induction d with
    | zero =>
      intro k hkd t1 h1 h2
      refine pw_iload_n C d_MO_close_8 rfl ?_
      refine pw_bipush C d_MO_close_9 (v := 64) (by decide) ?_
      refine pw_icmp_ge C 106 d_MO_close_11 (by decide) (fun h11 => ?_) (fun h11 => ?_)
      · refine pw_vret C zr zk d_MO_close_106 ?_
        exact ⟨t1, rfl, fun x hx y hy => by rw [h1 x hx y hy, show k = 64 by omega], h2⟩
      · exact absurd (nI_le (a := 64) (b := k) (by omega) (by omega)) h11
    | succ d ih =>
      intro k hkd t1 h1 h2
      refine pw_iload_n C d_MO_close_8 rfl ?_
      refine pw_bipush C d_MO_close_9 (v := 64) (by decide) ?_
      refine pw_icmp_ge C 106 d_MO_close_11 (by decide) (fun h11 => ?_) (fun h11 => ?_)
      · exact absurd ((nI_leI (a := 64) (by decide) (by omega)).mp h11) (by omega)
      refine pw_iconst C d_MO_close_14 (v := 0) (by decide) ?_
      refine pw_istore C d_MO_close_15 (by decide) ?_
      refine Lx k (by omega) ?_ 64 0 rfl t1 (fun x hx y hy => ?_) h2
      · intro t2 g1 g2
        refine pw_iinc1 C d_MO_close_100 rfl (by decide) ?_
        refine pw_goto C 8 d_MO_close_103 (by decide) ?_
        exact ih (k + 1) (by omega) t2 g1 g2
      · rw [h1 x hx y hy, if_neg (by omega)]
  refine pw_aload_n C d_MO_close_0 rfl ?_
  refine pw_iload_n C d_MO_close_1 rfl ?_
  refine pw_iload_n C d_MO_close_2 rfl ?_
  refine pw_callVv C (k_MO_mark l hI hX w ha b) (hX 20 0 rfl) rfl rfl ⟨pw_cb C 2 W_447 W_6 W_444 ⟨rfl, rfl⟩ (by decide +kernel) ⟨(Nat.le_of_ble_eq_true rfl), (Nat.le_of_ble_eq_true rfl)⟩, pw_w C W_446, pw_w C V_22⟩ rfl rfl (Nat.le_of_ble_eq_true rfl) d_MO_close_3 ⟨Nat.zero_le _, Nat.zero_le _⟩ (fun w9 hp9 => ?_)
  obtain ⟨t0, rfl, hm1, hm2⟩ := hp9
  refine pw_iconst C d_MO_close_6 (v := 0) (by decide) ?_
  refine pw_istore_n C d_MO_close_7 (by decide) ?_
  refine L 64 0 rfl t0 (fun x hx y hy => ?_) hm2
  rw [show a + 64 * x + y = a + (64 * x + y) by omega, hm1 (64 * x + y) (by omega), ← hrr]
  show _ = v1_f (decide (0 < tb (a + 64 * x + y)) || (b && decide (x = y)))
  rw [show (64 * x + y) / 64 = x by omega, show (64 * x + y) % 64 = y by omega, show a + (64 * x + y) = a + 64 * x + y by omega]
  unfold v1_f
  by_cases c1 : 0 < tb (a + 64 * x + y)
  · simp [c1]
  · by_cases c2 : b = true
    · by_cases c3 : x = y
      · simp [c2, c3]
      · simp [c1, c2, c3]
    · simp [c1, c2]
set_option maxHeartbeats 4000000 in
set_option maxRecDepth 100000 in
theorem k_MO_chain (l : Launch) {X : Lay} (hI : pw_I X) (hX : Dm X) (w : Wd) {tE : Nat → Bool} {cnt sz pt rk : Int32} {wd st lk : Nat → Int32} {tb sp : Nat → Int64} {a b : Nat} (ha : a + 4096 ≤ 61440) (hb : b + 4096 ≤ a) {A Bm : Nat → Nat → Nat} (hA : ∀ x, x < 64 → ∀ y, y < 64 → tb (a + 64 * x + y) = lN (A x y) ∧ A x y ≤ C15) (hB : ∀ x, x < 64 → ∀ y, y < 64 → tb (b + 64 * x + y) = lN (Bm x y) ∧ Bm x y ≤ C15) : CtV l y_MO_chain (pw_ws y_MO_chain c_MO_chain 9 none) { frames := 1, cells := 0, slots := 0, locals := 23 } X (m_w X w tE cnt wd sz st pt lk tb rk sp) [.ref (pw_a X 20 0), .int (nI a), .int (nI b)] (fun w1 => ∃ t1 s1, w1 = m_w X w tE cnt wd sz st pt lk t1 rk s1 ∧ (∀ x, x < 64 → ∀ y, y < 64 → t1 (a + 64 * x + y) = lN (cp_f (sg_f (fun z => A x z * Bm z y) 64))) ∧ ∀ z, (z < a ∨ a + 4096 ≤ z) → t1 z = tb z) := by
  refine pw_open (by decide) hI [some (.ref (pw_a X 20 0)), some (.int (nI a)), some (.int (nI b)), none, none, none, none, none, none] rfl (Nat.le_of_ble_eq_true rfl) ?_
  intro zp ze zs zm za zb zt zc hargs C zr zk hnm
  have L4 : ∀ k : Nat, k < 64 → ∀ s1 : Nat → Int64, (∀ y, y < 64 → s1 y = lN (cp_f (sg_f (fun z => A k z * Bm z y) 64))) → (∀ t1 : Nat → Int64, (∀ x, x < 64 → ∀ y, y < 64 → t1 (a + 64 * x + y) = if x < k + 1 then lN (cp_f (sg_f (fun z => A x z * Bm z y) 64)) else lN (A x y)) → (∀ z, (z < a ∨ a + 4096 ≤ z) → t1 z = tb z) → MW zp l ze ({ frames := 1, cells := 0, slots := 0, locals := 23 } : Room) zs zm za zb zt zc X 9 0 0 (MQ zb (va_Qv (fun w1 => ∃ t1 s1, w1 = m_w X w tE cnt wd sz st pt lk t1 rk s1 ∧ (∀ x, x < 64 → ∀ y, y < 64 → t1 (a + 64 * x + y) = lN (cp_f (sg_f (fun z => A x z * Bm z y) 64))) ∧ ∀ z, (z < a ∨ a + 4096 ≤ z) → t1 z = tb z) (pw_B X) (pw_F X)) za zs 0 0 (pw_F X)) (m_w X w tE cnt wd sz st pt lk t1 rk s1) 162 [some (.ref (pw_a X 20 0)), some (.int (nI a)), some (.int (nI b)), some (.ref (pw_a X 26 0)), some (.int (nI k)), none, none, none, none] []) → ∀ d q : Nat, q + d = 64 → ∀ t1 : Nat → Int64, (∀ x, x < 64 → ∀ y, y < 64 → t1 (a + 64 * x + y) = if x < k ∨ (x = k ∧ y < q) then lN (cp_f (sg_f (fun z => A x z * Bm z y) 64)) else lN (A x y)) → (∀ z, (z < a ∨ a + 4096 ≤ z) → t1 z = tb z) → MW zp l ze ({ frames := 1, cells := 0, slots := 0, locals := 23 } : Room) zs zm za zb zt zc X 9 0 0 (MQ zb (va_Qv (fun w1 => ∃ t1 s1, w1 = m_w X w tE cnt wd sz st pt lk t1 rk s1 ∧ (∀ x, x < 64 → ∀ y, y < 64 → t1 (a + 64 * x + y) = lN (cp_f (sg_f (fun z => A x z * Bm z y) 64))) ∧ ∀ z, (z < a ∨ a + 4096 ≤ z) → t1 z = tb z) (pw_B X) (pw_F X)) za zs 0 0 (pw_F X)) (m_w X w tE cnt wd sz st pt lk t1 rk s1) 130 [some (.ref (pw_a X 20 0)), some (.int (nI a)), some (.int (nI b)), some (.ref (pw_a X 26 0)), some (.int (nI k)), some (.int (nI q)), none, none, none] [] := by
    intro k hk s1 hs hcont d
    induction d with
    | zero =>
      intro q hqd t1 h1 h2
      refine pw_iload C d_MO_chain_130 rfl ?_
      refine pw_bipush C d_MO_chain_132 (v := 64) (by decide) ?_
      refine pw_icmp_ge C 162 d_MO_chain_134 (by decide) (fun h134 => ?_) (fun h134 => ?_)
      · refine MW.less (lv' := [some (.ref (pw_a X 20 0)), some (.int (nI a)), some (.int (nI b)), some (.ref (pw_a X 26 0)), some (.int (nI k)), none, none, none, none]) (by intro i v h; rcases i with _ | _ | _ | _ | _ | _ | _ | _ | _ | i <;> first | exact h | (simp at h)) (hcont t1 (fun x hx y hy => ?_) h2)
        rw [h1 x hx y hy]
        by_cases c : x < k + 1
        · rw [if_pos c, if_pos (by omega)]
        · rw [if_neg c, if_neg (by omega)]
      · exact absurd (nI_le (a := 64) (b := q) (by omega) (by omega)) h134
    | succ d ih =>
      intro q hqd t1 h1 h2
      refine pw_iload C d_MO_chain_130 rfl ?_
      refine pw_bipush C d_MO_chain_132 (v := 64) (by decide) ?_
      refine pw_icmp_ge C 162 d_MO_chain_134 (by decide) (fun h134 => ?_) (fun h134 => ?_)
      · exact absurd ((nI_leI (a := 64) (by decide) (by omega)).mp h134) (by omega)
      refine pw_aload_n C d_MO_chain_137 rfl ?_
      refine pw_get C d_MO_chain_138 (hX 20 0 rfl) rfl 7 rfl rfl (by decide) in_MO W_350 rfl ?_
      refine pw_iload_n C d_MO_chain_141 rfl ?_
      refine pw_bipush C d_MO_chain_142 (v := 64) (by decide) ?_
      refine pw_iload C d_MO_chain_144 rfl ?_
      refine pw_imul C d_MO_chain_146 ?_
      refine pw_iadd C d_MO_chain_147 ?_
      refine pw_iload C d_MO_chain_148 rfl ?_
      refine pw_iadd C d_MO_chain_150 ?_
      rw [ix3]
      refine pw_aload_n C d_MO_chain_151 rfl ?_
      refine pw_iload C d_MO_chain_152 rfl ?_
      refine pw_laldK C d_MO_chain_154 (hX 26 0 rfl) rfl (by omega) ?_
      refine pw_lastK C d_MO_chain_155 (hX 25 0 rfl) rfl (by omega) ?_
      rw [hs q (by omega)]
      refine MW.world m_u25 ?_
      refine pw_iinc1 C d_MO_chain_156 rfl (by decide) ?_
      refine pw_goto C 130 d_MO_chain_159 (by decide) ?_
      refine ih (q + 1) (by omega) _ (fun x hx y hy => ?_) (fun z hz => ?_)
      · by_cases c : x = k ∧ y = q
        · obtain ⟨rfl, rfl⟩ := c
          rw [pk_uLs, if_pos (by omega)]
        · rw [pk_uLn (by omega), h1 x hx y hy]
          by_cases c2 : x < k ∨ (x = k ∧ y < q)
          · rw [if_pos c2, if_pos (by omega)]
          · rw [if_neg c2, if_neg (by omega)]
      · rw [pk_uLn (by omega)]; exact h2 z hz
  have L3 : ∀ k q : Nat, k < 64 → q < 64 → ∀ t1 : Nat → Int64, (∀ x, x < 64 → ∀ y, y < 64 → t1 (a + 64 * x + y) = if x < k then lN (cp_f (sg_f (fun z => A x z * Bm z y) 64)) else lN (A x y)) → (∀ z, (z < a ∨ a + 4096 ≤ z) → t1 z = tb z) → (∀ s1 : Nat → Int64, (∀ y, y < 64 → s1 y = lN (cp_f (sg_f (fun z => A k z * Bm z y) (q + 1)))) → MW zp l ze ({ frames := 1, cells := 0, slots := 0, locals := 23 } : Room) zs zm za zb zt zc X 9 0 0 (MQ zb (va_Qv (fun w1 => ∃ t1 s1, w1 = m_w X w tE cnt wd sz st pt lk t1 rk s1 ∧ (∀ x, x < 64 → ∀ y, y < 64 → t1 (a + 64 * x + y) = lN (cp_f (sg_f (fun z => A x z * Bm z y) 64))) ∧ ∀ z, (z < a ∨ a + 4096 ≤ z) → t1 z = tb z) (pw_B X) (pw_F X)) za zs 0 0 (pw_F X)) (m_w X w tE cnt wd sz st pt lk t1 rk s1) 121 [some (.ref (pw_a X 20 0)), some (.int (nI a)), some (.int (nI b)), some (.ref (pw_a X 26 0)), some (.int (nI k)), some (.int (nI q)), none, none, none] []) → ∀ d u : Nat, u + d = 64 → ∀ s1 : Nat → Int64, (∀ y, y < 64 → s1 y = if y < u then lN (cp_f (sg_f (fun z => A k z * Bm z y) (q + 1))) else lN (cp_f (sg_f (fun z => A k z * Bm z y) q))) → MW zp l ze ({ frames := 1, cells := 0, slots := 0, locals := 23 } : Room) zs zm za zb zt zc X 9 0 0 (MQ zb (va_Qv (fun w1 => ∃ t1 s1, w1 = m_w X w tE cnt wd sz st pt lk t1 rk s1 ∧ (∀ x, x < 64 → ∀ y, y < 64 → t1 (a + 64 * x + y) = lN (cp_f (sg_f (fun z => A x z * Bm z y) 64))) ∧ ∀ z, (z < a ∨ a + 4096 ≤ z) → t1 z = tb z) (pw_B X) (pw_F X)) za zs 0 0 (pw_F X)) (m_w X w tE cnt wd sz st pt lk t1 rk s1) 76 [some (.ref (pw_a X 20 0)), some (.int (nI a)), some (.int (nI b)), some (.ref (pw_a X 26 0)), some (.int (nI k)), some (.int (nI q)), some (.long (lN (A k q))), none, some (.int (nI u))] [] := by
    intro k q hk hq t1 h1 h2 hcont d
    induction d with
    | zero =>
      intro u hud s1 hs
      refine pw_iload C d_MO_chain_76 rfl ?_
      refine pw_bipush C d_MO_chain_78 (v := 64) (by decide) ?_
      refine pw_icmp_ge C 121 d_MO_chain_80 (by decide) (fun h80 => ?_) (fun h80 => ?_)
      · exact MW.less (lv' := [some (.ref (pw_a X 20 0)), some (.int (nI a)), some (.int (nI b)), some (.ref (pw_a X 26 0)), some (.int (nI k)), some (.int (nI q)), none, none, none]) (by intro i v h; rcases i with _ | _ | _ | _ | _ | _ | _ | _ | _ | i <;> first | exact h | (simp at h)) (hcont s1 (fun y hy => by rw [hs y hy, if_pos (by omega)]))
      · exact absurd (nI_le (a := 64) (b := u) (by omega) (by omega)) h80
    | succ d ih =>
      intro u hud s1 hs
      have hu : u < 64 := by omega
      refine pw_iload C d_MO_chain_76 rfl ?_
      refine pw_bipush C d_MO_chain_78 (v := 64) (by decide) ?_
      refine pw_icmp_ge C 121 d_MO_chain_80 (by decide) (fun h80 => ?_) (fun h80 => ?_)
      · exact absurd ((nI_leI (a := 64) (by decide) (by omega)).mp h80) (by omega)
      refine pw_aload_n C d_MO_chain_83 rfl ?_
      refine pw_iload C d_MO_chain_84 rfl ?_
      refine pw_aload_n C d_MO_chain_86 rfl ?_
      refine pw_iload C d_MO_chain_87 rfl ?_
      refine pw_laldK C d_MO_chain_89 (hX 26 0 rfl) rfl hu ?_
      refine pw_lload C d_MO_chain_90 rfl ?_
      refine pw_aload_n C d_MO_chain_92 rfl ?_
      refine pw_get C d_MO_chain_93 (hX 20 0 rfl) rfl 7 rfl rfl (by decide) in_MO W_350 rfl ?_
      refine pw_iload_n C d_MO_chain_96 rfl ?_
      refine pw_bipush C d_MO_chain_97 (v := 64) (by decide) ?_
      refine pw_iload C d_MO_chain_99 rfl ?_
      refine pw_imul C d_MO_chain_101 ?_
      refine pw_iadd C d_MO_chain_102 ?_
      refine pw_iload C d_MO_chain_103 rfl ?_
      refine pw_iadd C d_MO_chain_105 ?_
      rw [ix3]
      refine pw_laldK C d_MO_chain_106 (hX 25 0 rfl) rfl (by omega) ?_
      rw [h2 _ (by omega), (hB q hq u hu).1]
      refine pw_callSl C (k_MO_product l hI _ (hA k hk q hq).2 (hB q hq u hu).2) ⟨pw_cb C 2 W_435 W_6 W_433 ⟨rfl, rfl⟩ (by decide +kernel) ⟨(Nat.le_of_ble_eq_true rfl), (Nat.le_of_ble_eq_true rfl)⟩, pw_w C W_434⟩ rfl rfl (Nat.le_of_ble_eq_true rfl) d_MO_chain_107 ⟨Nat.zero_le _, Nat.zero_le _⟩ (fun rp w9 hp => ?_)
      obtain ⟨e9, hp⟩ := hp
      subst hp
      refine MW.world e9 ?_
      refine pw_ladd C d_MO_chain_110 ?_
      rw [hs u hu, if_neg (by omega), lN_add]
      refine pw_callSl C (k_MO_least l hI _ (a := cp_f (sg_f (fun z => A k z * Bm z u) q) + cp_f (A k q * Bm q u)) (by have := cp_le (sg_f (fun z => A k z * Bm z u) q); have := cp_le (A k q * Bm q u); have := c15_63; unfold C15 at *; omega)) ⟨pw_cb C 1 W_439 W_6 W_437 ⟨rfl, rfl⟩ (by decide +kernel) ⟨(Nat.le_of_ble_eq_true rfl), (Nat.le_of_ble_eq_true rfl)⟩, pw_w C W_438⟩ rfl rfl (Nat.le_of_ble_eq_true rfl) d_MO_chain_111 ⟨Nat.zero_le _, Nat.zero_le _⟩ (fun rl w9 hp => ?_)
      obtain ⟨e9, hp⟩ := hp
      subst hp
      refine MW.world e9 ?_
      refine pw_lastK C d_MO_chain_114 (hX 26 0 rfl) rfl hu ?_
      refine MW.world m_u26 ?_
      refine pw_iinc1 C d_MO_chain_115 rfl (by decide) ?_
      refine pw_goto C 76 d_MO_chain_118 (by decide) ?_
      refine ih (u + 1) (by omega) _ (fun y hy => ?_)
      by_cases c : y = u
      · subst c
        rw [pk_uLs, if_pos (by omega), cp_add, cp_add']
        rfl
      · rw [pk_uLn c, hs y hy]
        by_cases c2 : y < u
        · rw [if_pos c2, if_pos (by omega)]
        · rw [if_neg c2, if_neg (by omega)]
  have L2 : ∀ k : Nat, k < 64 → ∀ t1 : Nat → Int64, (∀ x, x < 64 → ∀ y, y < 64 → t1 (a + 64 * x + y) = if x < k then lN (cp_f (sg_f (fun z => A x z * Bm z y) 64)) else lN (A x y)) → (∀ z, (z < a ∨ a + 4096 ≤ z) → t1 z = tb z) → (∀ s1 : Nat → Int64, (∀ y, y < 64 → s1 y = lN (cp_f (sg_f (fun z => A k z * Bm z y) 64))) → MW zp l ze ({ frames := 1, cells := 0, slots := 0, locals := 23 } : Room) zs zm za zb zt zc X 9 0 0 (MQ zb (va_Qv (fun w1 => ∃ t1 s1, w1 = m_w X w tE cnt wd sz st pt lk t1 rk s1 ∧ (∀ x, x < 64 → ∀ y, y < 64 → t1 (a + 64 * x + y) = lN (cp_f (sg_f (fun z => A x z * Bm z y) 64))) ∧ ∀ z, (z < a ∨ a + 4096 ≤ z) → t1 z = tb z) (pw_B X) (pw_F X)) za zs 0 0 (pw_F X)) (m_w X w tE cnt wd sz st pt lk t1 rk s1) 127 [some (.ref (pw_a X 20 0)), some (.int (nI a)), some (.int (nI b)), some (.ref (pw_a X 26 0)), some (.int (nI k)), none, none, none, none] []) → ∀ d q : Nat, q + d = 64 → ∀ s1 : Nat → Int64, (∀ y, y < 64 → s1 y = lN (cp_f (sg_f (fun z => A k z * Bm z y) q))) → MW zp l ze ({ frames := 1, cells := 0, slots := 0, locals := 23 } : Room) zs zm za zb zt zc X 9 0 0 (MQ zb (va_Qv (fun w1 => ∃ t1 s1, w1 = m_w X w tE cnt wd sz st pt lk t1 rk s1 ∧ (∀ x, x < 64 → ∀ y, y < 64 → t1 (a + 64 * x + y) = lN (cp_f (sg_f (fun z => A x z * Bm z y) 64))) ∧ ∀ z, (z < a ∨ a + 4096 ≤ z) → t1 z = tb z) (pw_B X) (pw_F X)) za zs 0 0 (pw_F X)) (m_w X w tE cnt wd sz st pt lk t1 rk s1) 39 [some (.ref (pw_a X 20 0)), some (.int (nI a)), some (.int (nI b)), some (.ref (pw_a X 26 0)), some (.int (nI k)), some (.int (nI q)), none, none, none] [] := by
    intro k hk t1 h1 h2 hcont d
    induction d with
    | zero =>
      intro q hqd s1 hs
      have hq64 : q = 64 := by omega
      subst hq64
      refine pw_iload C d_MO_chain_39 rfl ?_
      refine pw_bipush C d_MO_chain_41 (v := 64) (by decide) ?_
      refine pw_icmp_ge C 127 d_MO_chain_43 (by decide) (fun h43 => ?_) (fun h43 => ?_)
      · exact MW.less (lv' := [some (.ref (pw_a X 20 0)), some (.int (nI a)), some (.int (nI b)), some (.ref (pw_a X 26 0)), some (.int (nI k)), none, none, none, none]) (by intro i v h; rcases i with _ | _ | _ | _ | _ | _ | _ | _ | _ | i <;> first | exact h | (simp at h)) (hcont s1 hs)
      · exact absurd (nI_le (a := 64) (b := 64) (by omega) (by omega)) h43
    | succ d ih =>
      intro q hqd s1 hs
      have hq : q < 64 := by omega
      have e0 : t1 (a + 64 * k + q) = lN (A k q) := by rw [h1 k hk q hq, if_neg (by omega)]
      refine pw_iload C d_MO_chain_39 rfl ?_
      refine pw_bipush C d_MO_chain_41 (v := 64) (by decide) ?_
      refine pw_icmp_ge C 127 d_MO_chain_43 (by decide) (fun h43 => ?_) (fun h43 => ?_)
      · exact absurd ((nI_leI (a := 64) (by decide) (by omega)).mp h43) (by omega)
      refine pw_aload_n C d_MO_chain_46 rfl ?_
      refine pw_get C d_MO_chain_47 (hX 20 0 rfl) rfl 7 rfl rfl (by decide) in_MO W_350 rfl ?_
      refine pw_iload_n C d_MO_chain_50 rfl ?_
      refine pw_bipush C d_MO_chain_51 (v := 64) (by decide) ?_
      refine pw_iload C d_MO_chain_53 rfl ?_
      refine pw_imul C d_MO_chain_55 ?_
      refine pw_iadd C d_MO_chain_56 ?_
      refine pw_iload C d_MO_chain_57 rfl ?_
      refine pw_iadd C d_MO_chain_59 ?_
      rw [ix3]
      refine pw_laldK C d_MO_chain_60 (hX 25 0 rfl) rfl (by omega) ?_
      rw [e0]
      refine pw_lstore C d_MO_chain_61 (by decide) ?_
      refine pw_lload C d_MO_chain_63 rfl ?_
      refine pw_lconst C d_MO_chain_65 (v := 0) (by decide) ?_
      refine pw_lcmp C d_MO_chain_66 ?_
      refine pw_if_ne C 73 d_MO_chain_67 (by decide) (fun h67 => ?_) (fun h67 => ?_)
      · refine pw_iconst C d_MO_chain_73 (v := 0) (by decide) ?_
        refine pw_istore C d_MO_chain_74 (by decide) ?_
        refine L3 k q hk hq t1 h1 h2 ?_ 64 0 rfl s1 (fun y hy => by rw [if_neg (by omega)]; exact hs y hy)
        intro s2 g1
        refine pw_iinc1 C d_MO_chain_121 rfl (by decide) ?_
        refine pw_goto C 39 d_MO_chain_124 (by decide) ?_
        exact ih (q + 1) (by omega) s2 g1
      · refine pw_goto C 121 d_MO_chain_70 (by decide) ?_
        refine pw_iinc1 C d_MO_chain_121 rfl (by decide) ?_
        refine pw_goto C 39 d_MO_chain_124 (by decide) ?_
        refine MW.less (lv' := [some (.ref (pw_a X 20 0)), some (.int (nI a)), some (.int (nI b)), some (.ref (pw_a X 26 0)), some (.int (nI k)), some (.int (nI (q + 1))), none, none, none]) (by intro i v h; rcases i with _ | _ | _ | _ | _ | _ | _ | _ | _ | i <;> first | exact h | (simp at h)) ?_
        refine ih (q + 1) (by omega) s1 (fun y hy => ?_)
        rw [hs y hy]
        show _ = lN (cp_f (sg_f (fun z => A k z * Bm z y) q + A k q * Bm q y))
        rw [(lN_z (hA k hk q hq).2).mp ((lc_eq _ _).mp h67), Nat.zero_mul, Nat.add_zero]
  have L1 : ∀ k : Nat, k < 64 → ∀ t1 : Nat → Int64, (∀ s1 : Nat → Int64, (∀ y, y < 64 → s1 y = 0) → MW zp l ze ({ frames := 1, cells := 0, slots := 0, locals := 23 } : Room) zs zm za zb zt zc X 9 0 0 (MQ zb (va_Qv (fun w1 => ∃ t1 s1, w1 = m_w X w tE cnt wd sz st pt lk t1 rk s1 ∧ (∀ x, x < 64 → ∀ y, y < 64 → t1 (a + 64 * x + y) = lN (cp_f (sg_f (fun z => A x z * Bm z y) 64))) ∧ ∀ z, (z < a ∨ a + 4096 ≤ z) → t1 z = tb z) (pw_B X) (pw_F X)) za zs 0 0 (pw_F X)) (m_w X w tE cnt wd sz st pt lk t1 rk s1) 36 [some (.ref (pw_a X 20 0)), some (.int (nI a)), some (.int (nI b)), some (.ref (pw_a X 26 0)), some (.int (nI k)), none, none, none, none] []) → ∀ d q : Nat, q + d = 64 → ∀ s1 : Nat → Int64, (∀ y, y < q → s1 y = 0) → MW zp l ze ({ frames := 1, cells := 0, slots := 0, locals := 23 } : Room) zs zm za zb zt zc X 9 0 0 (MQ zb (va_Qv (fun w1 => ∃ t1 s1, w1 = m_w X w tE cnt wd sz st pt lk t1 rk s1 ∧ (∀ x, x < 64 → ∀ y, y < 64 → t1 (a + 64 * x + y) = lN (cp_f (sg_f (fun z => A x z * Bm z y) 64))) ∧ ∀ z, (z < a ∨ a + 4096 ≤ z) → t1 z = tb z) (pw_B X) (pw_F X)) za zs 0 0 (pw_F X)) (m_w X w tE cnt wd sz st pt lk t1 rk s1) 18 [some (.ref (pw_a X 20 0)), some (.int (nI a)), some (.int (nI b)), some (.ref (pw_a X 26 0)), some (.int (nI k)), some (.int (nI q)), none, none, none] [] := by
    intro k hk t1 hcont d
    induction d with
    | zero =>
      intro q hqd s1 hs
      refine pw_iload C d_MO_chain_18 rfl ?_
      refine pw_bipush C d_MO_chain_20 (v := 64) (by decide) ?_
      refine pw_icmp_ge C 36 d_MO_chain_22 (by decide) (fun h22 => ?_) (fun h22 => ?_)
      · exact MW.less (lv' := [some (.ref (pw_a X 20 0)), some (.int (nI a)), some (.int (nI b)), some (.ref (pw_a X 26 0)), some (.int (nI k)), none, none, none, none]) (by intro i v h; rcases i with _ | _ | _ | _ | _ | _ | _ | _ | _ | i <;> first | exact h | (simp at h)) (hcont s1 (fun y hy => hs y (by omega)))
      · exact absurd (nI_le (a := 64) (b := q) (by omega) (by omega)) h22
    | succ d ih =>
      intro q hqd s1 hs
      refine pw_iload C d_MO_chain_18 rfl ?_
      refine pw_bipush C d_MO_chain_20 (v := 64) (by decide) ?_
      refine pw_icmp_ge C 36 d_MO_chain_22 (by decide) (fun h22 => ?_) (fun h22 => ?_)
      · exact absurd ((nI_leI (a := 64) (by decide) (by omega)).mp h22) (by omega)
      refine pw_aload_n C d_MO_chain_25 rfl ?_
      refine pw_iload C d_MO_chain_26 rfl ?_
      refine pw_lconst C d_MO_chain_28 (v := 0) (by decide) ?_
      refine pw_lastK C d_MO_chain_29 (hX 26 0 rfl) rfl (by omega) ?_
      refine MW.world m_u26 ?_
      refine pw_iinc1 C d_MO_chain_30 rfl (by decide) ?_
      refine pw_goto C 18 d_MO_chain_33 (by decide) ?_
      refine ih (q + 1) (by omega) _ (fun y hy => ?_)
      by_cases c : y = q
      · subst c; exact pk_uLs
      · rw [pk_uLn c]; exact hs y (by omega)
  have L : ∀ d k : Nat, k + d = 64 → ∀ t1 s1 : Nat → Int64, (∀ x, x < 64 → ∀ y, y < 64 → t1 (a + 64 * x + y) = if x < k then lN (cp_f (sg_f (fun z => A x z * Bm z y) 64)) else lN (A x y)) → (∀ z, (z < a ∨ a + 4096 ≤ z) → t1 z = tb z) → MW zp l ze ({ frames := 1, cells := 0, slots := 0, locals := 23 } : Room) zs zm za zb zt zc X 9 0 0 (MQ zb (va_Qv (fun w1 => ∃ t1 s1, w1 = m_w X w tE cnt wd sz st pt lk t1 rk s1 ∧ (∀ x, x < 64 → ∀ y, y < 64 → t1 (a + 64 * x + y) = lN (cp_f (sg_f (fun z => A x z * Bm z y) 64))) ∧ ∀ z, (z < a ∨ a + 4096 ≤ z) → t1 z = tb z) (pw_B X) (pw_F X)) za zs 0 0 (pw_F X)) (m_w X w tE cnt wd sz st pt lk t1 rk s1) 8 [some (.ref (pw_a X 20 0)), some (.int (nI a)), some (.int (nI b)), some (.ref (pw_a X 26 0)), some (.int (nI k)), none, none, none, none] [] := by
    intro d
    induction d with
    | zero =>
      intro k hkd t1 s1 h1 h2
      refine pw_iload C d_MO_chain_8 rfl ?_
      refine pw_bipush C d_MO_chain_10 (v := 64) (by decide) ?_
      refine pw_icmp_ge C 168 d_MO_chain_12 (by decide) (fun h12 => ?_) (fun h12 => ?_)
      · refine pw_vret C zr zk d_MO_chain_168 ?_
        exact ⟨t1, s1, rfl, fun x hx y hy => by rw [h1 x hx y hy, if_pos (by omega)], h2⟩
      · exact absurd (nI_le (a := 64) (b := k) (by omega) (by omega)) h12
    | succ d ih =>
      intro k hkd t1 s1 h1 h2
      have hk : k < 64 := by omega
      refine pw_iload C d_MO_chain_8 rfl ?_
      refine pw_bipush C d_MO_chain_10 (v := 64) (by decide) ?_
      refine pw_icmp_ge C 168 d_MO_chain_12 (by decide) (fun h12 => ?_) (fun h12 => ?_)
      · exact absurd ((nI_leI (a := 64) (by decide) (by omega)).mp h12) (by omega)
      refine pw_iconst C d_MO_chain_15 (v := 0) (by decide) ?_
      refine pw_istore C d_MO_chain_16 (by decide) ?_
      refine L1 k hk t1 ?_ 64 0 rfl s1 (fun y hy => absurd hy (Nat.not_lt_zero y))
      intro s2 hs2
      refine pw_iconst C d_MO_chain_36 (v := 0) (by decide) ?_
      refine pw_istore C d_MO_chain_37 (by decide) ?_
      refine L2 k hk t1 h1 h2 ?_ 64 0 rfl s2 (fun y hy => hs2 y hy)
      intro s3 hs3
      refine pw_iconst C d_MO_chain_127 (v := 0) (by decide) ?_
      refine pw_istore C d_MO_chain_128 (by decide) ?_
      refine L4 k hk s3 hs3 ?_ 64 0 rfl t1 (fun x hx y hy => ?_) h2
      · intro t2 g1 g2
        refine pw_iinc1 C d_MO_chain_162 rfl (by decide) ?_
        refine pw_goto C 8 d_MO_chain_165 (by decide) ?_
        exact ih (k + 1) (by omega) t2 s3 g1 g2
      · rw [h1 x hx y hy]
        by_cases c : x < k
        · rw [if_pos c, if_pos (by omega)]
        · rw [if_neg c, if_neg (by omega)]
  refine pw_aload_n C d_MO_chain_0 rfl ?_
  refine pw_get C d_MO_chain_1 (hX 20 0 rfl) rfl 9 rfl rfl (by decide) in_MO W_352 rfl ?_
  refine pw_astore_n C d_MO_chain_4 (by decide) ?_
  refine pw_iconst C d_MO_chain_5 (v := 0) (by decide) ?_
  refine pw_istore C d_MO_chain_6 (by decide) ?_
  exact L 64 0 rfl tb sp (fun x hx y hy => by rw [if_neg (by omega)]; exact (hA x hx y hy).1) (fun z _ => rfl)
end
