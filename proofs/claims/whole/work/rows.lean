section
/-- a private method of a class that the tables say can be made, by its rows of tables_1 -/
def lw_okq (q : MethodName × Nat) : Prop := (q.1.cls ≠ "java/lang/invoke/MethodHandle" ∧ q.1.cls ≠ "java/lang/invoke/VarHandle") ∧ Cond.instantiable q.1.cls q.2 ∈ tables_1 ∧ Cond.privateMethod q.1 ∈ tables_1 ∧ Cond.instanceMethod q.1 ∈ tables_1
theorem lw_p0 : lw_okq (⟨"FramingTrio", "appendToTape", "(I)V"⟩, 4) := ⟨⟨by decide +kernel, by decide +kernel⟩, List.mem_of_getElem? (i := 10) (by decide +kernel), List.mem_of_getElem? (i := 167) (by decide +kernel), List.mem_of_getElem? (i := 168) (by decide +kernel)⟩
theorem lw_p1 : lw_okq (⟨"FramingTrio", "wayOf", "(I)LFramingTrio$Way;"⟩, 4) := ⟨⟨by decide +kernel, by decide +kernel⟩, List.mem_of_getElem? (i := 10) (by decide +kernel), List.mem_of_getElem? (i := 191) (by decide +kernel), List.mem_of_getElem? (i := 192) (by decide +kernel)⟩
theorem lw_p2 : lw_okq (⟨"FramingTrio", "mayTell", "(LFramingTrio$Way;)Z"⟩, 4) := ⟨⟨by decide +kernel, by decide +kernel⟩, List.mem_of_getElem? (i := 10) (by decide +kernel), List.mem_of_getElem? (i := 195) (by decide +kernel), List.mem_of_getElem? (i := 196) (by decide +kernel)⟩
theorem lw_p3 : lw_okq (⟨"FramingTrio", "writeFrame", "(LFramingTrio$Way;)Z"⟩, 4) := ⟨⟨by decide +kernel, by decide +kernel⟩, List.mem_of_getElem? (i := 10) (by decide +kernel), List.mem_of_getElem? (i := 199) (by decide +kernel), List.mem_of_getElem? (i := 200) (by decide +kernel)⟩
theorem lw_p4 : lw_okq (⟨"FramingTrio$Row", "holds", "(I)Z"⟩, 3) := ⟨⟨by decide +kernel, by decide +kernel⟩, List.mem_of_getElem? (i := 18) (by decide +kernel), List.mem_of_getElem? (i := 213) (by decide +kernel), List.mem_of_getElem? (i := 214) (by decide +kernel)⟩
theorem lw_p5 : lw_okq (⟨"FramingTrio$CheckedWay", "hold", "(I)V"⟩, 13) := ⟨⟨by decide +kernel, by decide +kernel⟩, List.mem_of_getElem? (i := 119) (by decide +kernel), List.mem_of_getElem? (i := 315) (by decide +kernel), List.mem_of_getElem? (i := 316) (by decide +kernel)⟩
theorem lw_p6 : lw_okq (⟨"FramingTrio$EscapedWay", "decodeEscaped", "(I)V"⟩, 9) := ⟨⟨by decide +kernel, by decide +kernel⟩, List.mem_of_getElem? (i := 101) (by decide +kernel), List.mem_of_getElem? (i := 322) (by decide +kernel), List.mem_of_getElem? (i := 323) (by decide +kernel)⟩
theorem lw_p7 : lw_okq (⟨"FramingTrio$GroupedWay", "beginGroup", "(I)V"⟩, 10) := ⟨⟨by decide +kernel, by decide +kernel⟩, List.mem_of_getElem? (i := 47) (by decide +kernel), List.mem_of_getElem? (i := 329) (by decide +kernel), List.mem_of_getElem? (i := 330) (by decide +kernel)⟩
theorem lw_p8 : lw_okq (⟨"FramingTrio", "drain", "(LFramingTrio$Row;LFramingTrio$Way;)I"⟩, 4) := ⟨⟨by decide +kernel, by decide +kernel⟩, List.mem_of_getElem? (i := 10) (by decide +kernel), List.mem_of_getElem? (i := 337) (by decide +kernel), List.mem_of_getElem? (i := 338) (by decide +kernel)⟩
theorem lw_p9 : lw_okq (⟨"FramingTrioModel", "put", "(I)V"⟩, 21) := ⟨⟨by decide +kernel, by decide +kernel⟩, List.mem_of_getElem? (i := 371) (by decide +kernel), List.mem_of_getElem? (i := 446) (by decide +kernel), List.mem_of_getElem? (i := 447) (by decide +kernel)⟩
theorem lw_p10 : lw_okq (⟨"FramingTrioModel", "sayGroups", "(I)V"⟩, 21) := ⟨⟨by decide +kernel, by decide +kernel⟩, List.mem_of_getElem? (i := 371) (by decide +kernel), List.mem_of_getElem? (i := 465) (by decide +kernel), List.mem_of_getElem? (i := 466) (by decide +kernel)⟩
theorem lw_p11 : lw_okq (⟨"FramingTrioModel", "groupEnd", "(II)I"⟩, 21) := ⟨⟨by decide +kernel, by decide +kernel⟩, List.mem_of_getElem? (i := 371) (by decide +kernel), List.mem_of_getElem? (i := 469) (by decide +kernel), List.mem_of_getElem? (i := 470) (by decide +kernel)⟩
theorem lw_p12 : lw_okq (⟨"FramingTrioModel", "say", "(I)V"⟩, 21) := ⟨⟨by decide +kernel, by decide +kernel⟩, List.mem_of_getElem? (i := 371) (by decide +kernel), List.mem_of_getElem? (i := 473) (by decide +kernel), List.mem_of_getElem? (i := 474) (by decide +kernel)⟩
theorem lw_p13 : lw_okq (⟨"FramingTrioModel", "sayTurned", "(II)V"⟩, 21) := ⟨⟨by decide +kernel, by decide +kernel⟩, List.mem_of_getElem? (i := 371) (by decide +kernel), List.mem_of_getElem? (i := 478) (by decide +kernel), List.mem_of_getElem? (i := 479) (by decide +kernel)⟩
theorem lw_p14 : lw_okq (⟨"FramingTrioModel", "take", "(II)I"⟩, 21) := ⟨⟨by decide +kernel, by decide +kernel⟩, List.mem_of_getElem? (i := 371) (by decide +kernel), List.mem_of_getElem? (i := 502) (by decide +kernel), List.mem_of_getElem? (i := 503) (by decide +kernel)⟩
theorem lw_p15 : lw_okq (⟨"FramingTrioModel", "ends", "(I)I"⟩, 21) := ⟨⟨by decide +kernel, by decide +kernel⟩, List.mem_of_getElem? (i := 371) (by decide +kernel), List.mem_of_getElem? (i := 506) (by decide +kernel), List.mem_of_getElem? (i := 507) (by decide +kernel)⟩
def lw_privs_1 : List (MethodName × Nat) := [(⟨"FramingTrio", "appendToTape", "(I)V"⟩, 4), (⟨"FramingTrio", "wayOf", "(I)LFramingTrio$Way;"⟩, 4), (⟨"FramingTrio", "mayTell", "(LFramingTrio$Way;)Z"⟩, 4), (⟨"FramingTrio", "writeFrame", "(LFramingTrio$Way;)Z"⟩, 4), (⟨"FramingTrio$Row", "holds", "(I)Z"⟩, 3), (⟨"FramingTrio$CheckedWay", "hold", "(I)V"⟩, 13), (⟨"FramingTrio$EscapedWay", "decodeEscaped", "(I)V"⟩, 9), (⟨"FramingTrio$GroupedWay", "beginGroup", "(I)V"⟩, 10), (⟨"FramingTrio", "drain", "(LFramingTrio$Row;LFramingTrio$Way;)I"⟩, 4), (⟨"FramingTrioModel", "put", "(I)V"⟩, 21), (⟨"FramingTrioModel", "sayGroups", "(I)V"⟩, 21), (⟨"FramingTrioModel", "groupEnd", "(II)I"⟩, 21), (⟨"FramingTrioModel", "say", "(I)V"⟩, 21), (⟨"FramingTrioModel", "sayTurned", "(II)V"⟩, 21), (⟨"FramingTrioModel", "take", "(II)I"⟩, 21), (⟨"FramingTrioModel", "ends", "(I)I"⟩, 21)]
theorem lw_r1 : ∀ q ∈ lw_privs_1, lw_okq q := List.forall_mem_cons.mpr ⟨lw_p0, List.forall_mem_cons.mpr ⟨lw_p1, List.forall_mem_cons.mpr ⟨lw_p2, List.forall_mem_cons.mpr ⟨lw_p3, List.forall_mem_cons.mpr ⟨lw_p4, List.forall_mem_cons.mpr ⟨lw_p5, List.forall_mem_cons.mpr ⟨lw_p6, List.forall_mem_cons.mpr ⟨lw_p7, List.forall_mem_cons.mpr ⟨lw_p8, List.forall_mem_cons.mpr ⟨lw_p9, List.forall_mem_cons.mpr ⟨lw_p10, List.forall_mem_cons.mpr ⟨lw_p11, List.forall_mem_cons.mpr ⟨lw_p12, List.forall_mem_cons.mpr ⟨lw_p13, List.forall_mem_cons.mpr ⟨lw_p14, List.forall_mem_cons.mpr ⟨lw_p15, fun _ h => absurd h List.not_mem_nil⟩⟩⟩⟩⟩⟩⟩⟩⟩⟩⟩⟩⟩⟩⟩⟩
theorem lw_p16 : lw_okq (⟨"FramingTrioModel", "isSo", "(I)Z"⟩, 21) := ⟨⟨by decide +kernel, by decide +kernel⟩, List.mem_of_getElem? (i := 371) (by decide +kernel), List.mem_of_getElem? (i := 510) (by decide +kernel), List.mem_of_getElem? (i := 511) (by decide +kernel)⟩
theorem lw_p17 : lw_okq (⟨"FramingTrioModel", "begin", "(I)V"⟩, 21) := ⟨⟨by decide +kernel, by decide +kernel⟩, List.mem_of_getElem? (i := 371) (by decide +kernel), List.mem_of_getElem? (i := 514) (by decide +kernel), List.mem_of_getElem? (i := 515) (by decide +kernel)⟩
theorem lw_p18 : lw_okq (⟨"FramingTrioModel", "comeGroup", "(I)V"⟩, 21) := ⟨⟨by decide +kernel, by decide +kernel⟩, List.mem_of_getElem? (i := 371) (by decide +kernel), List.mem_of_getElem? (i := 518) (by decide +kernel), List.mem_of_getElem? (i := 519) (by decide +kernel)⟩
theorem lw_p19 : lw_okq (⟨"FramingTrioModel", "keep", "(II)V"⟩, 21) := ⟨⟨by decide +kernel, by decide +kernel⟩, List.mem_of_getElem? (i := 371) (by decide +kernel), List.mem_of_getElem? (i := 522) (by decide +kernel), List.mem_of_getElem? (i := 523) (by decide +kernel)⟩
theorem lw_p20 : lw_okq (⟨"FramingTrioModel", "comeTurned", "(II)V"⟩, 21) := ⟨⟨by decide +kernel, by decide +kernel⟩, List.mem_of_getElem? (i := 371) (by decide +kernel), List.mem_of_getElem? (i := 526) (by decide +kernel), List.mem_of_getElem? (i := 527) (by decide +kernel)⟩
theorem lw_p21 : lw_okq (⟨"FramingTrioModel", "isTurned", "(II)Z"⟩, 21) := ⟨⟨by decide +kernel, by decide +kernel⟩, List.mem_of_getElem? (i := 371) (by decide +kernel), List.mem_of_getElem? (i := 530) (by decide +kernel), List.mem_of_getElem? (i := 531) (by decide +kernel)⟩
def lw_privs_2 : List (MethodName × Nat) := [(⟨"FramingTrioModel", "isSo", "(I)Z"⟩, 21), (⟨"FramingTrioModel", "begin", "(I)V"⟩, 21), (⟨"FramingTrioModel", "comeGroup", "(I)V"⟩, 21), (⟨"FramingTrioModel", "keep", "(II)V"⟩, 21), (⟨"FramingTrioModel", "comeTurned", "(II)V"⟩, 21), (⟨"FramingTrioModel", "isTurned", "(II)Z"⟩, 21)]
theorem lw_r2 : ∀ q ∈ lw_privs_2, lw_okq q := List.forall_mem_cons.mpr ⟨lw_p16, List.forall_mem_cons.mpr ⟨lw_p17, List.forall_mem_cons.mpr ⟨lw_p18, List.forall_mem_cons.mpr ⟨lw_p19, List.forall_mem_cons.mpr ⟨lw_p20, List.forall_mem_cons.mpr ⟨lw_p21, fun _ h => absurd h List.not_mem_nil⟩⟩⟩⟩⟩⟩
def lw_privs : List (MethodName × Nat) := lw_privs_1 ++ (lw_privs_2)
def lw_tbl : List Cond := k2_sels lw_privs ++ tables_1
theorem lw_privs_ok : ∀ q ∈ lw_privs, lw_okq q := by
  show ∀ q ∈ lw_privs_1 ++ (lw_privs_2), lw_okq q
  exact List.forall_mem_append.mpr ⟨lw_r1, lw_r2⟩
def R_law : String := "FramingTrioLaw"
def R_CW : String := "FramingTrio$CheckedWay"
def R_EW : String := "FramingTrio$EscapedWay"
def R_FT : String := "FramingTrio"
def R_GW : String := "FramingTrio$GroupedWay"
def R_L : String := "FramingTrioLaw"
def R_M : String := "FramingTrioModel"
def R_Row : String := "FramingTrio$Row"
def R_Way : String := "FramingTrio$Way"
def F_CW : u_T := fun k => match k with
  | 0 => ("FramingTrio$Way", "mark", "I", true)
  | 1 => ("FramingTrio$Way", "hasEmptyFrames", "Z", true)
  | 2 => ("FramingTrio$Way", "payload", "LFramingTrio$Row;", false)
  | 3 => ("FramingTrio$Way", "kept", "LFramingTrio$Row;", false)
  | 4 => ("FramingTrio$Way", "broken", "Z", false)
  | 5 => ("FramingTrio$Way", "begun", "Z", false)
  | 6 => ("FramingTrio$Way", "hasKept", "Z", false)
  | 7 => ("FramingTrio$Way", "tallies", "[I", true)
  | 8 => ("FramingTrio$CheckedWay", "escaping", "Z", false)
  | 9 => ("FramingTrio$CheckedWay", "check", "I", false)
  | 10 => ("FramingTrio$CheckedWay", "held", "I", false)
  | 11 => ("FramingTrio$CheckedWay", "older", "I", false)
  | _ => ("FramingTrio$CheckedWay", "newer", "I", false)
def t_CW : Nat → FieldType := fun k => match k with
  | 0 => .int
  | 1 => .boolean
  | 2 => .object "FramingTrio$Row"
  | 3 => .object "FramingTrio$Row"
  | 4 => .boolean
  | 5 => .boolean
  | 6 => .boolean
  | 7 => .array .int
  | 8 => .boolean
  | 9 => .int
  | 10 => .int
  | 11 => .int
  | _ => .int
abbrev w_CW : List Cond := u_ws R_CW F_CW 13
theorem n_CW : ∀ a, a < 13 → ∀ b, b < 13 → a ≠ b → (F_CW a).2.1 ≠ (F_CW b).2.1 := by decide +kernel
theorem t_CW_ok : ∀ k, k < 13 → parseFieldDescriptor (F_CW k).2.2.1 = some (t_CW k) := by decide +kernel
def F_EW : u_T := fun k => match k with
  | 0 => ("FramingTrio$Way", "mark", "I", true)
  | 1 => ("FramingTrio$Way", "hasEmptyFrames", "Z", true)
  | 2 => ("FramingTrio$Way", "payload", "LFramingTrio$Row;", false)
  | 3 => ("FramingTrio$Way", "kept", "LFramingTrio$Row;", false)
  | 4 => ("FramingTrio$Way", "broken", "Z", false)
  | 5 => ("FramingTrio$Way", "begun", "Z", false)
  | 6 => ("FramingTrio$Way", "hasKept", "Z", false)
  | 7 => ("FramingTrio$Way", "tallies", "[I", true)
  | _ => ("FramingTrio$EscapedWay", "escaping", "Z", false)
def t_EW : Nat → FieldType := fun k => match k with
  | 0 => .int
  | 1 => .boolean
  | 2 => .object "FramingTrio$Row"
  | 3 => .object "FramingTrio$Row"
  | 4 => .boolean
  | 5 => .boolean
  | 6 => .boolean
  | 7 => .array .int
  | _ => .boolean
abbrev w_EW : List Cond := u_ws R_EW F_EW 9
theorem n_EW : ∀ a, a < 9 → ∀ b, b < 9 → a ≠ b → (F_EW a).2.1 ≠ (F_EW b).2.1 := by decide +kernel
theorem t_EW_ok : ∀ k, k < 9 → parseFieldDescriptor (F_EW k).2.2.1 = some (t_EW k) := by decide +kernel
def F_GW : u_T := fun k => match k with
  | 0 => ("FramingTrio$Way", "mark", "I", true)
  | 1 => ("FramingTrio$Way", "hasEmptyFrames", "Z", true)
  | 2 => ("FramingTrio$Way", "payload", "LFramingTrio$Row;", false)
  | 3 => ("FramingTrio$Way", "kept", "LFramingTrio$Row;", false)
  | 4 => ("FramingTrio$Way", "broken", "Z", false)
  | 5 => ("FramingTrio$Way", "begun", "Z", false)
  | 6 => ("FramingTrio$Way", "hasKept", "Z", false)
  | 7 => ("FramingTrio$Way", "tallies", "[I", true)
  | 8 => ("FramingTrio$GroupedWay", "header", "I", false)
  | _ => ("FramingTrio$GroupedWay", "missing", "I", false)
def t_GW : Nat → FieldType := fun k => match k with
  | 0 => .int
  | 1 => .boolean
  | 2 => .object "FramingTrio$Row"
  | 3 => .object "FramingTrio$Row"
  | 4 => .boolean
  | 5 => .boolean
  | 6 => .boolean
  | 7 => .array .int
  | 8 => .int
  | _ => .int
abbrev w_GW : List Cond := u_ws R_GW F_GW 10
theorem n_GW : ∀ a, a < 10 → ∀ b, b < 10 → a ≠ b → (F_GW a).2.1 ≠ (F_GW b).2.1 := by decide +kernel
theorem t_GW_ok : ∀ k, k < 10 → parseFieldDescriptor (F_GW k).2.2.1 = some (t_GW k) := by decide +kernel
def F_Row : u_T := fun k => match k with
  | 0 => ("FramingTrio$Row", "bytes", "[I", true)
  | 1 => ("FramingTrio$Row", "size", "I", false)
  | _ => ("FramingTrio$Row", "spilt", "Z", false)
def t_Row : Nat → FieldType := fun k => match k with
  | 0 => .array .int
  | 1 => .int
  | _ => .boolean
abbrev w_Row : List Cond := u_ws R_Row F_Row 3
theorem n_Row : ∀ a, a < 3 → ∀ b, b < 3 → a ≠ b → (F_Row a).2.1 ≠ (F_Row b).2.1 := by decide +kernel
theorem t_Row_ok : ∀ k, k < 3 → parseFieldDescriptor (F_Row k).2.2.1 = some (t_Row k) := by decide +kernel
def F_FT : u_T := fun k => match k with
  | 0 => ("FramingTrio", "tape", "LFramingTrio$Row;", true)
  | 1 => ("FramingTrio", "stream", "LFramingTrio$Row;", true)
  | 2 => ("FramingTrio", "ways", "[LFramingTrio$Way;", true)
  | _ => ("FramingTrio", "most", "I", false)
def t_FT : Nat → FieldType := fun k => match k with
  | 0 => .object "FramingTrio$Row"
  | 1 => .object "FramingTrio$Row"
  | 2 => .array (.object "FramingTrio$Way")
  | _ => .int
abbrev w_FT : List Cond := u_ws R_FT F_FT 4
theorem n_FT : ∀ a, a < 4 → ∀ b, b < 4 → a ≠ b → (F_FT a).2.1 ≠ (F_FT b).2.1 := by decide +kernel
theorem t_FT_ok : ∀ k, k < 4 → parseFieldDescriptor (F_FT k).2.2.1 = some (t_FT k) := by decide +kernel
def F_M : u_T := fun k => match k with
  | 0 => ("FramingTrioModel", "thrown", "I", false)
  | 1 => ("FramingTrioModel", "tape", "[I", true)
  | 2 => ("FramingTrioModel", "taped", "I", false)
  | 3 => ("FramingTrioModel", "limit", "I", false)
  | 4 => ("FramingTrioModel", "out", "[I", true)
  | 5 => ("FramingTrioModel", "size", "I", false)
  | 6 => ("FramingTrioModel", "frame", "[I", true)
  | 7 => ("FramingTrioModel", "framed", "I", false)
  | 8 => ("FramingTrioModel", "came", "[I", true)
  | 9 => ("FramingTrioModel", "many", "[I", true)
  | 10 => ("FramingTrioModel", "kept", "[I", true)
  | 11 => ("FramingTrioModel", "bad", "[Z", true)
  | 12 => ("FramingTrioModel", "left", "I", false)
  | 13 => ("FramingTrioModel", "full", "Z", false)
  | 14 => ("FramingTrioModel", "turns", "[Z", true)
  | 15 => ("FramingTrioModel", "first", "I", false)
  | 16 => ("FramingTrioModel", "second", "I", false)
  | 17 => ("FramingTrioModel", "check", "I", false)
  | 18 => ("FramingTrioModel", "latest", "[I", true)
  | 19 => ("FramingTrioModel", "good", "[I", true)
  | _ => ("FramingTrioModel", "counts", "[I", true)
def t_M : Nat → FieldType := fun k => match k with
  | 0 => .int
  | 1 => .array .int
  | 2 => .int
  | 3 => .int
  | 4 => .array .int
  | 5 => .int
  | 6 => .array .int
  | 7 => .int
  | 8 => .array .int
  | 9 => .array .int
  | 10 => .array .int
  | 11 => .array .boolean
  | 12 => .int
  | 13 => .boolean
  | 14 => .array .boolean
  | 15 => .int
  | 16 => .int
  | 17 => .int
  | 18 => .array .int
  | 19 => .array .int
  | _ => .array .int
abbrev w_M : List Cond := u_ws R_M F_M 21
theorem n_M : ∀ a, a < 21 → ∀ b, b < 21 → a ≠ b → (F_M a).2.1 ≠ (F_M b).2.1 := by decide +kernel
theorem t_M_ok : ∀ k, k < 21 → parseFieldDescriptor (F_M k).2.2.1 = some (t_M k) := by decide +kernel
abbrev vwCl : List vw_C := [(R_CW, F_CW, 13), (R_EW, F_EW, 9), (R_GW, F_GW, 10), (R_Row, F_Row, 3), (R_FT, F_FT, 4), (R_M, F_M, 21)]
abbrev b_CW_init : ByteArray := prog_2_method_1_code
def y_CW_init : MethodName := ⟨R_CW, "<init>", "()V"⟩
abbrev b_CW_frame : ByteArray := prog_2_method_2_code
def y_CW_frame : MethodName := ⟨R_CW, "frame", "(LFramingTrio$Row;LFramingTrio$Row;)V"⟩
abbrev b_CW_writeByte : ByteArray := prog_2_method_3_code
def y_CW_writeByte : MethodName := ⟨R_CW, "writeByte", "(ILFramingTrio$Row;)V"⟩
abbrev b_CW_addToCheck : ByteArray := prog_2_method_4_code
def y_CW_addToCheck : MethodName := ⟨R_CW, "addToCheck", "(II)I"⟩
abbrev b_CW_finishedCheck : ByteArray := prog_2_method_5_code
def y_CW_finishedCheck : MethodName := ⟨R_CW, "finishedCheck", "(I)I"⟩
abbrev b_CW_decode : ByteArray := prog_2_method_6_code
def y_CW_decode : MethodName := ⟨R_CW, "decode", "(I)V"⟩
abbrev b_CW_hold : ByteArray := prog_2_method_7_code
def y_CW_hold : MethodName := ⟨R_CW, "hold", "(I)V"⟩
abbrev b_CW_isWhole : ByteArray := prog_2_method_8_code
def y_CW_isWhole : MethodName := ⟨R_CW, "isWhole", "()Z"⟩
abbrev b_CW_forgetChunk : ByteArray := prog_2_method_9_code
def y_CW_forgetChunk : MethodName := ⟨R_CW, "forgetChunk", "()V"⟩
abbrev b_EW_init : ByteArray := prog_3_method_1_code
def y_EW_init : MethodName := ⟨R_EW, "<init>", "()V"⟩
abbrev b_EW_frame : ByteArray := prog_3_method_2_code
def y_EW_frame : MethodName := ⟨R_EW, "frame", "(LFramingTrio$Row;LFramingTrio$Row;)V"⟩
abbrev b_EW_writeByte : ByteArray := prog_3_method_3_code
def y_EW_writeByte : MethodName := ⟨R_EW, "writeByte", "(ILFramingTrio$Row;)V"⟩
abbrev b_EW_decode : ByteArray := prog_3_method_4_code
def y_EW_decode : MethodName := ⟨R_EW, "decode", "(I)V"⟩
abbrev b_EW_decodeEscaped : ByteArray := prog_3_method_5_code
def y_EW_decodeEscaped : MethodName := ⟨R_EW, "decodeEscaped", "(I)V"⟩
abbrev b_EW_isWhole : ByteArray := prog_3_method_6_code
def y_EW_isWhole : MethodName := ⟨R_EW, "isWhole", "()Z"⟩
abbrev b_EW_forgetChunk : ByteArray := prog_3_method_7_code
def y_EW_forgetChunk : MethodName := ⟨R_EW, "forgetChunk", "()V"⟩
abbrev b_FT_init : ByteArray := prog_1_method_1_code
def y_FT_init : MethodName := ⟨R_FT, "<init>", "()V"⟩
abbrev b_FT_feed : ByteArray := prog_1_method_2_code
def y_FT_feed : MethodName := ⟨R_FT, "feed", "(IIIII)Z"⟩
abbrev b_FT_end : ByteArray := prog_1_method_3_code
def y_FT_end : MethodName := ⟨R_FT, "end", "(I)Z"⟩
abbrev b_FT_limit : ByteArray := prog_1_method_4_code
def y_FT_limit : MethodName := ⟨R_FT, "limit", "(I)Z"⟩
abbrev b_FT_tell : ByteArray := prog_1_method_5_code
def y_FT_tell : MethodName := ⟨R_FT, "tell", "(I)I"⟩
abbrev b_FT_written : ByteArray := prog_1_method_6_code
def y_FT_written : MethodName := ⟨R_FT, "written", "()I"⟩
abbrev b_FT_writtenAt : ByteArray := prog_1_method_7_code
def y_FT_writtenAt : MethodName := ⟨R_FT, "writtenAt", "(I)I"⟩
abbrev b_FT_spoil : ByteArray := prog_1_method_8_code
def y_FT_spoil : MethodName := ⟨R_FT, "spoil", "(II)Z"⟩
abbrev b_FT_come : ByteArray := prog_1_method_9_code
def y_FT_come : MethodName := ⟨R_FT, "come", "(II)I"⟩
abbrev b_FT_all : ByteArray := prog_1_method_10_code
def y_FT_all : MethodName := ⟨R_FT, "all", "(I)I"⟩
abbrev b_FT_raw : ByteArray := prog_1_method_11_code
def y_FT_raw : MethodName := ⟨R_FT, "raw", "(I)I"⟩
abbrev b_FT_latest : ByteArray := prog_1_method_12_code
def y_FT_latest : MethodName := ⟨R_FT, "latest", "(I)I"⟩
abbrev b_FT_latestAt : ByteArray := prog_1_method_13_code
def y_FT_latestAt : MethodName := ⟨R_FT, "latestAt", "(II)I"⟩
abbrev b_FT_count : ByteArray := prog_1_method_14_code
def y_FT_count : MethodName := ⟨R_FT, "count", "(II)I"⟩
abbrev b_FT_wayOf : ByteArray := prog_1_method_15_code
def y_FT_wayOf : MethodName := ⟨R_FT, "wayOf", "(I)LFramingTrio$Way;"⟩
abbrev b_FT_appendToTape : ByteArray := prog_1_method_16_code
def y_FT_appendToTape : MethodName := ⟨R_FT, "appendToTape", "(I)V"⟩
abbrev b_FT_mayTell : ByteArray := prog_1_method_17_code
def y_FT_mayTell : MethodName := ⟨R_FT, "mayTell", "(LFramingTrio$Way;)Z"⟩
abbrev b_FT_writeFrame : ByteArray := prog_1_method_18_code
def y_FT_writeFrame : MethodName := ⟨R_FT, "writeFrame", "(LFramingTrio$Way;)Z"⟩
abbrev b_FT_drain : ByteArray := prog_1_method_19_code
def y_FT_drain : MethodName := ⟨R_FT, "drain", "(LFramingTrio$Row;LFramingTrio$Way;)I"⟩
abbrev b_GW_init : ByteArray := prog_4_method_1_code
def y_GW_init : MethodName := ⟨R_GW, "<init>", "()V"⟩
abbrev b_GW_frame : ByteArray := prog_4_method_2_code
def y_GW_frame : MethodName := ⟨R_GW, "frame", "(LFramingTrio$Row;LFramingTrio$Row;)V"⟩
abbrev b_GW_writeGroup : ByteArray := prog_4_method_3_code
def y_GW_writeGroup : MethodName := ⟨R_GW, "writeGroup", "(LFramingTrio$Row;IILFramingTrio$Row;)V"⟩
abbrev b_GW_decode : ByteArray := prog_4_method_4_code
def y_GW_decode : MethodName := ⟨R_GW, "decode", "(I)V"⟩
abbrev b_GW_beginGroup : ByteArray := prog_4_method_5_code
def y_GW_beginGroup : MethodName := ⟨R_GW, "beginGroup", "(I)V"⟩
abbrev b_GW_isWhole : ByteArray := prog_4_method_6_code
def y_GW_isWhole : MethodName := ⟨R_GW, "isWhole", "()Z"⟩
abbrev b_GW_forgetChunk : ByteArray := prog_4_method_7_code
def y_GW_forgetChunk : MethodName := ⟨R_GW, "forgetChunk", "()V"⟩
abbrev b_M_init : ByteArray := prog_8_method_1_code
def y_M_init : MethodName := ⟨R_M, "<init>", "()V"⟩
abbrev b_M_isWay : ByteArray := prog_8_method_3_code
def y_M_isWay : MethodName := ⟨R_M, "isWay", "(I)Z"⟩
abbrev b_M_put : ByteArray := prog_8_method_4_code
def y_M_put : MethodName := ⟨R_M, "put", "(I)V"⟩
abbrev b_M_feed : ByteArray := prog_8_method_5_code
def y_M_feed : MethodName := ⟨R_M, "feed", "(IIIII)Z"⟩
abbrev b_M_end : ByteArray := prog_8_method_6_code
def y_M_end : MethodName := ⟨R_M, "end", "(I)Z"⟩
abbrev b_M_limit : ByteArray := prog_8_method_7_code
def y_M_limit : MethodName := ⟨R_M, "limit", "(I)Z"⟩
abbrev b_M_checked : ByteArray := prog_8_method_8_code
def y_M_checked : MethodName := ⟨R_M, "checked", "(II)I"⟩
abbrev b_M_say : ByteArray := prog_8_method_9_code
def y_M_say : MethodName := ⟨R_M, "say", "(I)V"⟩
abbrev b_M_sayTurned : ByteArray := prog_8_method_10_code
def y_M_sayTurned : MethodName := ⟨R_M, "sayTurned", "(II)V"⟩
abbrev b_M_groupEnd : ByteArray := prog_8_method_11_code
def y_M_groupEnd : MethodName := ⟨R_M, "groupEnd", "(II)I"⟩
abbrev b_M_sayGroups : ByteArray := prog_8_method_12_code
def y_M_sayGroups : MethodName := ⟨R_M, "sayGroups", "(I)V"⟩
abbrev b_M_tell : ByteArray := prog_8_method_13_code
def y_M_tell : MethodName := ⟨R_M, "tell", "(I)I"⟩
abbrev b_M_written : ByteArray := prog_8_method_14_code
def y_M_written : MethodName := ⟨R_M, "written", "()I"⟩
abbrev b_M_writtenAt : ByteArray := prog_8_method_15_code
def y_M_writtenAt : MethodName := ⟨R_M, "writtenAt", "(I)I"⟩
abbrev b_M_spoil : ByteArray := prog_8_method_16_code
def y_M_spoil : MethodName := ⟨R_M, "spoil", "(II)Z"⟩
abbrev b_M_keep : ByteArray := prog_8_method_17_code
def y_M_keep : MethodName := ⟨R_M, "keep", "(II)V"⟩
abbrev b_M_comeGroup : ByteArray := prog_8_method_18_code
def y_M_comeGroup : MethodName := ⟨R_M, "comeGroup", "(I)V"⟩
abbrev b_M_isTurned : ByteArray := prog_8_method_19_code
def y_M_isTurned : MethodName := ⟨R_M, "isTurned", "(II)Z"⟩
abbrev b_M_comeTurned : ByteArray := prog_8_method_20_code
def y_M_comeTurned : MethodName := ⟨R_M, "comeTurned", "(II)V"⟩
abbrev b_M_isSo : ByteArray := prog_8_method_21_code
def y_M_isSo : MethodName := ⟨R_M, "isSo", "(I)Z"⟩
abbrev b_M_begin : ByteArray := prog_8_method_22_code
def y_M_begin : MethodName := ⟨R_M, "begin", "(I)V"⟩
abbrev b_M_ends : ByteArray := prog_8_method_23_code
def y_M_ends : MethodName := ⟨R_M, "ends", "(I)I"⟩
abbrev b_M_take : ByteArray := prog_8_method_24_code
def y_M_take : MethodName := ⟨R_M, "take", "(II)I"⟩
abbrev b_M_come : ByteArray := prog_8_method_25_code
def y_M_come : MethodName := ⟨R_M, "come", "(II)I"⟩
abbrev b_M_all : ByteArray := prog_8_method_26_code
def y_M_all : MethodName := ⟨R_M, "all", "(I)I"⟩
abbrev b_M_raw : ByteArray := prog_8_method_27_code
def y_M_raw : MethodName := ⟨R_M, "raw", "(I)I"⟩
abbrev b_M_latest : ByteArray := prog_8_method_28_code
def y_M_latest : MethodName := ⟨R_M, "latest", "(I)I"⟩
abbrev b_M_latestAt : ByteArray := prog_8_method_29_code
def y_M_latestAt : MethodName := ⟨R_M, "latestAt", "(II)I"⟩
abbrev b_M_count : ByteArray := prog_8_method_30_code
def y_M_count : MethodName := ⟨R_M, "count", "(II)I"⟩
abbrev b_Row_init : ByteArray := prog_5_method_1_code
def y_Row_init : MethodName := ⟨R_Row, "<init>", "(I)V"⟩
abbrev b_Row_put : ByteArray := prog_5_method_2_code
def y_Row_put : MethodName := ⟨R_Row, "put", "(I)V"⟩
abbrev b_Row_byteAt : ByteArray := prog_5_method_3_code
def y_Row_byteAt : MethodName := ⟨R_Row, "byteAt", "(I)I"⟩
abbrev b_Row_turn : ByteArray := prog_5_method_4_code
def y_Row_turn : MethodName := ⟨R_Row, "turn", "(II)Z"⟩
abbrev b_Row_cutTo : ByteArray := prog_5_method_5_code
def y_Row_cutTo : MethodName := ⟨R_Row, "cutTo", "(I)V"⟩
abbrev b_Row_holds : ByteArray := prog_5_method_6_code
def y_Row_holds : MethodName := ⟨R_Row, "holds", "(I)Z"⟩
abbrev b_Way_init : ByteArray := prog_6_method_1_code
def y_Way_init : MethodName := ⟨R_Way, "<init>", "(IZ)V"⟩
abbrev b_Way_take : ByteArray := prog_6_method_6_code
def y_Way_take : MethodName := ⟨R_Way, "take", "(II)I"⟩
abbrev b_Way_keptSize : ByteArray := prog_6_method_7_code
def y_Way_keptSize : MethodName := ⟨R_Way, "keptSize", "()I"⟩
abbrev b_Way_tally : ByteArray := prog_6_method_8_code
def y_Way_tally : MethodName := ⟨R_Way, "tally", "(I)I"⟩
abbrev b_Way_finishChunk : ByteArray := prog_6_method_9_code
def y_Way_finishChunk : MethodName := ⟨R_Way, "finishChunk", "(I)I"⟩
abbrev b_Way_judge : ByteArray := prog_6_method_10_code
def y_Way_judge : MethodName := ⟨R_Way, "judge", "(I)I"⟩
abbrev b_Way_keepPayload : ByteArray := prog_6_method_11_code
def y_Way_keepPayload : MethodName := ⟨R_Way, "keepPayload", "()V"⟩
end
section
theorem d_FT_init_0 : decode b_FT_init 0 = .ok (.aload_n 0, 1) := by decide +kernel
theorem d_FT_init_1 : decode b_FT_init 1 = .ok (.invokespecial 1, 3) := by decide +kernel
theorem d_FT_init_4 : decode b_FT_init 4 = .ok (.aload_n 0, 1) := by decide +kernel
theorem d_FT_init_5 : decode b_FT_init 5 = .ok (.new 7, 3) := by decide +kernel
theorem d_FT_init_8 : decode b_FT_init 8 = .ok (.dup, 1) := by decide +kernel
theorem d_FT_init_9 : decode b_FT_init 9 = .ok (.sipush 400, 3) := by decide +kernel
theorem d_FT_init_12 : decode b_FT_init 12 = .ok (.invokespecial 11, 3) := by decide +kernel
theorem d_FT_init_15 : decode b_FT_init 15 = .ok (.putfield 14, 3) := by decide +kernel
theorem d_FT_init_18 : decode b_FT_init 18 = .ok (.aload_n 0, 1) := by decide +kernel
theorem d_FT_init_19 : decode b_FT_init 19 = .ok (.new 7, 3) := by decide +kernel
theorem d_FT_init_22 : decode b_FT_init 22 = .ok (.dup, 1) := by decide +kernel
theorem d_FT_init_23 : decode b_FT_init 23 = .ok (.sipush 2000, 3) := by decide +kernel
theorem d_FT_init_26 : decode b_FT_init 26 = .ok (.invokespecial 11, 3) := by decide +kernel
theorem d_FT_init_29 : decode b_FT_init 29 = .ok (.putfield 18, 3) := by decide +kernel
theorem d_FT_init_32 : decode b_FT_init 32 = .ok (.aload_n 0, 1) := by decide +kernel
theorem d_FT_init_33 : decode b_FT_init 33 = .ok (.iconst 3, 1) := by decide +kernel
theorem d_FT_init_34 : decode b_FT_init 34 = .ok (.anewarray 21, 3) := by decide +kernel
theorem d_FT_init_37 : decode b_FT_init 37 = .ok (.dup, 1) := by decide +kernel
theorem d_FT_init_38 : decode b_FT_init 38 = .ok (.iconst 0, 1) := by decide +kernel
theorem d_FT_init_39 : decode b_FT_init 39 = .ok (.new 23, 3) := by decide +kernel
theorem d_FT_init_42 : decode b_FT_init 42 = .ok (.dup, 1) := by decide +kernel
theorem d_FT_init_43 : decode b_FT_init 43 = .ok (.invokespecial 25, 3) := by decide +kernel
theorem d_FT_init_46 : decode b_FT_init 46 = .ok (.aastore, 1) := by decide +kernel
theorem d_FT_init_47 : decode b_FT_init 47 = .ok (.dup, 1) := by decide +kernel
theorem d_FT_init_48 : decode b_FT_init 48 = .ok (.iconst 1, 1) := by decide +kernel
theorem d_FT_init_49 : decode b_FT_init 49 = .ok (.new 26, 3) := by decide +kernel
theorem d_FT_init_52 : decode b_FT_init 52 = .ok (.dup, 1) := by decide +kernel
theorem d_FT_init_53 : decode b_FT_init 53 = .ok (.invokespecial 28, 3) := by decide +kernel
theorem d_FT_init_56 : decode b_FT_init 56 = .ok (.aastore, 1) := by decide +kernel
theorem d_FT_init_57 : decode b_FT_init 57 = .ok (.dup, 1) := by decide +kernel
theorem d_FT_init_58 : decode b_FT_init 58 = .ok (.iconst 2, 1) := by decide +kernel
theorem d_FT_init_59 : decode b_FT_init 59 = .ok (.new 29, 3) := by decide +kernel
theorem d_FT_init_62 : decode b_FT_init 62 = .ok (.dup, 1) := by decide +kernel
theorem d_FT_init_63 : decode b_FT_init 63 = .ok (.invokespecial 31, 3) := by decide +kernel
theorem d_FT_init_66 : decode b_FT_init 66 = .ok (.aastore, 1) := by decide +kernel
theorem d_FT_init_67 : decode b_FT_init 67 = .ok (.putfield 32, 3) := by decide +kernel
theorem d_FT_init_70 : decode b_FT_init 70 = .ok (.aload_n 0, 1) := by decide +kernel
theorem d_FT_init_71 : decode b_FT_init 71 = .ok (.sipush 400, 3) := by decide +kernel
theorem d_FT_init_74 : decode b_FT_init 74 = .ok (.putfield 36, 3) := by decide +kernel
theorem d_FT_init_77 : decode b_FT_init 77 = .ok (.return_, 1) := by decide +kernel
theorem d_FT_feed_0 : decode b_FT_feed 0 = .ok (.aload_n 0, 1) := by decide +kernel
theorem d_FT_feed_1 : decode b_FT_feed 1 = .ok (.getfield 14, 3) := by decide +kernel
theorem d_FT_feed_4 : decode b_FT_feed 4 = .ok (.getfield 40, 3) := by decide +kernel
theorem d_FT_feed_7 : decode b_FT_feed 7 = .ok (.sipush 380, 3) := by decide +kernel
theorem d_FT_feed_10 : decode b_FT_feed 10 = .ok (.if_icmp .le 5, 3) := by decide +kernel
theorem d_FT_feed_13 : decode b_FT_feed 13 = .ok (.iconst 0, 1) := by decide +kernel
theorem d_FT_feed_14 : decode b_FT_feed 14 = .ok (.ireturn, 1) := by decide +kernel
theorem d_FT_feed_15 : decode b_FT_feed 15 = .ok (.aload_n 0, 1) := by decide +kernel
theorem d_FT_feed_16 : decode b_FT_feed 16 = .ok (.iload_n 1, 1) := by decide +kernel
theorem d_FT_feed_17 : decode b_FT_feed 17 = .ok (.invokevirtual 43, 3) := by decide +kernel
theorem d_FT_feed_20 : decode b_FT_feed 20 = .ok (.aload_n 0, 1) := by decide +kernel
theorem d_FT_feed_21 : decode b_FT_feed 21 = .ok (.iload_n 2, 1) := by decide +kernel
theorem d_FT_feed_22 : decode b_FT_feed 22 = .ok (.invokevirtual 43, 3) := by decide +kernel
theorem d_FT_feed_25 : decode b_FT_feed 25 = .ok (.aload_n 0, 1) := by decide +kernel
theorem d_FT_feed_26 : decode b_FT_feed 26 = .ok (.iload_n 3, 1) := by decide +kernel
theorem d_FT_feed_27 : decode b_FT_feed 27 = .ok (.invokevirtual 43, 3) := by decide +kernel
theorem d_FT_feed_30 : decode b_FT_feed 30 = .ok (.aload_n 0, 1) := by decide +kernel
theorem d_FT_feed_31 : decode b_FT_feed 31 = .ok (.iload 4, 2) := by decide +kernel
theorem d_FT_feed_33 : decode b_FT_feed 33 = .ok (.invokevirtual 43, 3) := by decide +kernel
theorem d_FT_feed_36 : decode b_FT_feed 36 = .ok (.aload_n 0, 1) := by decide +kernel
theorem d_FT_feed_37 : decode b_FT_feed 37 = .ok (.iload 5, 2) := by decide +kernel
theorem d_FT_feed_39 : decode b_FT_feed 39 = .ok (.invokevirtual 43, 3) := by decide +kernel
theorem d_FT_feed_42 : decode b_FT_feed 42 = .ok (.iconst 1, 1) := by decide +kernel
theorem d_FT_feed_43 : decode b_FT_feed 43 = .ok (.ireturn, 1) := by decide +kernel
theorem d_FT_end_0 : decode b_FT_end 0 = .ok (.iload_n 1, 1) := by decide +kernel
theorem d_FT_end_1 : decode b_FT_end 1 = .ok (.ifCond .lt 14, 3) := by decide +kernel
theorem d_FT_end_4 : decode b_FT_end 4 = .ok (.iload_n 1, 1) := by decide +kernel
theorem d_FT_end_5 : decode b_FT_end 5 = .ok (.aload_n 0, 1) := by decide +kernel
theorem d_FT_end_6 : decode b_FT_end 6 = .ok (.getfield 14, 3) := by decide +kernel
theorem d_FT_end_9 : decode b_FT_end 9 = .ok (.getfield 40, 3) := by decide +kernel
theorem d_FT_end_12 : decode b_FT_end 12 = .ok (.if_icmp .le 5, 3) := by decide +kernel
theorem d_FT_end_15 : decode b_FT_end 15 = .ok (.iconst 0, 1) := by decide +kernel
theorem d_FT_end_16 : decode b_FT_end 16 = .ok (.ireturn, 1) := by decide +kernel
theorem d_FT_end_17 : decode b_FT_end 17 = .ok (.aload_n 0, 1) := by decide +kernel
theorem d_FT_end_18 : decode b_FT_end 18 = .ok (.getfield 14, 3) := by decide +kernel
theorem d_FT_end_21 : decode b_FT_end 21 = .ok (.iload_n 1, 1) := by decide +kernel
theorem d_FT_end_22 : decode b_FT_end 22 = .ok (.invokevirtual 46, 3) := by decide +kernel
theorem d_FT_end_25 : decode b_FT_end 25 = .ok (.iconst 1, 1) := by decide +kernel
theorem d_FT_end_26 : decode b_FT_end 26 = .ok (.ireturn, 1) := by decide +kernel
theorem d_FT_limit_0 : decode b_FT_limit 0 = .ok (.iload_n 1, 1) := by decide +kernel
theorem d_FT_limit_1 : decode b_FT_limit 1 = .ok (.iconst 1, 1) := by decide +kernel
theorem d_FT_limit_2 : decode b_FT_limit 2 = .ok (.if_icmp .lt 10, 3) := by decide +kernel
theorem d_FT_limit_5 : decode b_FT_limit 5 = .ok (.iload_n 1, 1) := by decide +kernel
theorem d_FT_limit_6 : decode b_FT_limit 6 = .ok (.sipush 400, 3) := by decide +kernel
theorem d_FT_limit_9 : decode b_FT_limit 9 = .ok (.if_icmp .le 5, 3) := by decide +kernel
theorem d_FT_limit_12 : decode b_FT_limit 12 = .ok (.iconst 0, 1) := by decide +kernel
theorem d_FT_limit_13 : decode b_FT_limit 13 = .ok (.ireturn, 1) := by decide +kernel
theorem d_FT_limit_14 : decode b_FT_limit 14 = .ok (.aload_n 0, 1) := by decide +kernel
theorem d_FT_limit_15 : decode b_FT_limit 15 = .ok (.iload_n 1, 1) := by decide +kernel
theorem d_FT_limit_16 : decode b_FT_limit 16 = .ok (.putfield 36, 3) := by decide +kernel
theorem d_FT_limit_19 : decode b_FT_limit 19 = .ok (.iconst 1, 1) := by decide +kernel
theorem d_FT_limit_20 : decode b_FT_limit 20 = .ok (.ireturn, 1) := by decide +kernel
theorem d_FT_tell_0 : decode b_FT_tell 0 = .ok (.aload_n 0, 1) := by decide +kernel
theorem d_FT_tell_1 : decode b_FT_tell 1 = .ok (.iload_n 1, 1) := by decide +kernel
theorem d_FT_tell_2 : decode b_FT_tell 2 = .ok (.invokevirtual 49, 3) := by decide +kernel
theorem d_FT_tell_5 : decode b_FT_tell 5 = .ok (.astore_n 2, 1) := by decide +kernel
theorem d_FT_tell_6 : decode b_FT_tell 6 = .ok (.aload_n 2, 1) := by decide +kernel
theorem d_FT_tell_7 : decode b_FT_tell 7 = .ok (.ifnull 23, 3) := by decide +kernel
theorem d_FT_tell_10 : decode b_FT_tell 10 = .ok (.aload_n 0, 1) := by decide +kernel
theorem d_FT_tell_11 : decode b_FT_tell 11 = .ok (.aload_n 2, 1) := by decide +kernel
theorem d_FT_tell_12 : decode b_FT_tell 12 = .ok (.invokevirtual 53, 3) := by decide +kernel
theorem d_FT_tell_15 : decode b_FT_tell 15 = .ok (.ifCond .eq 15, 3) := by decide +kernel
theorem d_FT_tell_18 : decode b_FT_tell 18 = .ok (.aload_n 0, 1) := by decide +kernel
theorem d_FT_tell_19 : decode b_FT_tell 19 = .ok (.aload_n 2, 1) := by decide +kernel
theorem d_FT_tell_20 : decode b_FT_tell 20 = .ok (.invokevirtual 57, 3) := by decide +kernel
theorem d_FT_tell_23 : decode b_FT_tell 23 = .ok (.ifCond .eq 7, 3) := by decide +kernel
theorem d_FT_tell_26 : decode b_FT_tell 26 = .ok (.iconst 1, 1) := by decide +kernel
theorem d_FT_tell_27 : decode b_FT_tell 27 = .ok (.goto 4, 3) := by decide +kernel
theorem d_FT_tell_30 : decode b_FT_tell 30 = .ok (.iconst 0, 1) := by decide +kernel
theorem d_FT_tell_31 : decode b_FT_tell 31 = .ok (.istore_n 3, 1) := by decide +kernel
theorem d_FT_tell_32 : decode b_FT_tell 32 = .ok (.aload_n 0, 1) := by decide +kernel
theorem d_FT_tell_33 : decode b_FT_tell 33 = .ok (.getfield 14, 3) := by decide +kernel
theorem d_FT_tell_36 : decode b_FT_tell 36 = .ok (.iconst 0, 1) := by decide +kernel
theorem d_FT_tell_37 : decode b_FT_tell 37 = .ok (.invokevirtual 46, 3) := by decide +kernel
theorem d_FT_tell_40 : decode b_FT_tell 40 = .ok (.iload_n 3, 1) := by decide +kernel
theorem d_FT_tell_41 : decode b_FT_tell 41 = .ok (.ifCond .eq 13, 3) := by decide +kernel
theorem d_FT_tell_44 : decode b_FT_tell 44 = .ok (.aload_n 0, 1) := by decide +kernel
theorem d_FT_tell_45 : decode b_FT_tell 45 = .ok (.getfield 18, 3) := by decide +kernel
theorem d_FT_tell_48 : decode b_FT_tell 48 = .ok (.getfield 40, 3) := by decide +kernel
theorem d_FT_tell_51 : decode b_FT_tell 51 = .ok (.goto 4, 3) := by decide +kernel
theorem d_FT_tell_54 : decode b_FT_tell 54 = .ok (.iconst (-1), 1) := by decide +kernel
theorem d_FT_tell_55 : decode b_FT_tell 55 = .ok (.ireturn, 1) := by decide +kernel
theorem d_FT_written_0 : decode b_FT_written 0 = .ok (.aload_n 0, 1) := by decide +kernel
theorem d_FT_written_1 : decode b_FT_written 1 = .ok (.getfield 18, 3) := by decide +kernel
theorem d_FT_written_4 : decode b_FT_written 4 = .ok (.getfield 40, 3) := by decide +kernel
theorem d_FT_written_7 : decode b_FT_written 7 = .ok (.ireturn, 1) := by decide +kernel
theorem d_FT_writtenAt_0 : decode b_FT_writtenAt 0 = .ok (.aload_n 0, 1) := by decide +kernel
theorem d_FT_writtenAt_1 : decode b_FT_writtenAt 1 = .ok (.getfield 18, 3) := by decide +kernel
theorem d_FT_writtenAt_4 : decode b_FT_writtenAt 4 = .ok (.iload_n 1, 1) := by decide +kernel
theorem d_FT_writtenAt_5 : decode b_FT_writtenAt 5 = .ok (.invokevirtual 60, 3) := by decide +kernel
theorem d_FT_writtenAt_8 : decode b_FT_writtenAt 8 = .ok (.ireturn, 1) := by decide +kernel
theorem d_FT_spoil_0 : decode b_FT_spoil 0 = .ok (.aload_n 0, 1) := by decide +kernel
theorem d_FT_spoil_1 : decode b_FT_spoil 1 = .ok (.getfield 18, 3) := by decide +kernel
theorem d_FT_spoil_4 : decode b_FT_spoil 4 = .ok (.iload_n 1, 1) := by decide +kernel
theorem d_FT_spoil_5 : decode b_FT_spoil 5 = .ok (.iload_n 2, 1) := by decide +kernel
theorem d_FT_spoil_6 : decode b_FT_spoil 6 = .ok (.sipush 255, 3) := by decide +kernel
theorem d_FT_spoil_9 : decode b_FT_spoil 9 = .ok (.iand, 1) := by decide +kernel
theorem d_FT_spoil_10 : decode b_FT_spoil 10 = .ok (.invokevirtual 64, 3) := by decide +kernel
theorem d_FT_spoil_13 : decode b_FT_spoil 13 = .ok (.ireturn, 1) := by decide +kernel
theorem d_FT_come_0 : decode b_FT_come 0 = .ok (.aload_n 0, 1) := by decide +kernel
theorem d_FT_come_1 : decode b_FT_come 1 = .ok (.iload_n 1, 1) := by decide +kernel
theorem d_FT_come_2 : decode b_FT_come 2 = .ok (.invokevirtual 49, 3) := by decide +kernel
theorem d_FT_come_5 : decode b_FT_come 5 = .ok (.astore_n 3, 1) := by decide +kernel
theorem d_FT_come_6 : decode b_FT_come 6 = .ok (.aload_n 3, 1) := by decide +kernel
theorem d_FT_come_7 : decode b_FT_come 7 = .ok (.ifnonnull 7, 3) := by decide +kernel
theorem d_FT_come_10 : decode b_FT_come 10 = .ok (.iconst (-1), 1) := by decide +kernel
theorem d_FT_come_11 : decode b_FT_come 11 = .ok (.goto 16, 3) := by decide +kernel
theorem d_FT_come_14 : decode b_FT_come 14 = .ok (.aload_n 3, 1) := by decide +kernel
theorem d_FT_come_15 : decode b_FT_come 15 = .ok (.iload_n 2, 1) := by decide +kernel
theorem d_FT_come_16 : decode b_FT_come 16 = .ok (.sipush 255, 3) := by decide +kernel
theorem d_FT_come_19 : decode b_FT_come 19 = .ok (.iand, 1) := by decide +kernel
theorem d_FT_come_20 : decode b_FT_come 20 = .ok (.aload_n 0, 1) := by decide +kernel
theorem d_FT_come_21 : decode b_FT_come 21 = .ok (.getfield 36, 3) := by decide +kernel
theorem d_FT_come_24 : decode b_FT_come 24 = .ok (.invokevirtual 68, 3) := by decide +kernel
theorem d_FT_come_27 : decode b_FT_come 27 = .ok (.ireturn, 1) := by decide +kernel
theorem d_FT_all_0 : decode b_FT_all 0 = .ok (.aload_n 0, 1) := by decide +kernel
theorem d_FT_all_1 : decode b_FT_all 1 = .ok (.iload_n 1, 1) := by decide +kernel
theorem d_FT_all_2 : decode b_FT_all 2 = .ok (.invokevirtual 49, 3) := by decide +kernel
theorem d_FT_all_5 : decode b_FT_all 5 = .ok (.astore_n 2, 1) := by decide +kernel
theorem d_FT_all_6 : decode b_FT_all 6 = .ok (.aload_n 2, 1) := by decide +kernel
theorem d_FT_all_7 : decode b_FT_all 7 = .ok (.ifnonnull 7, 3) := by decide +kernel
theorem d_FT_all_10 : decode b_FT_all 10 = .ok (.iconst (-1), 1) := by decide +kernel
theorem d_FT_all_11 : decode b_FT_all 11 = .ok (.goto 12, 3) := by decide +kernel
theorem d_FT_all_14 : decode b_FT_all 14 = .ok (.aload_n 0, 1) := by decide +kernel
theorem d_FT_all_15 : decode b_FT_all 15 = .ok (.aload_n 0, 1) := by decide +kernel
theorem d_FT_all_16 : decode b_FT_all 16 = .ok (.getfield 18, 3) := by decide +kernel
theorem d_FT_all_19 : decode b_FT_all 19 = .ok (.aload_n 2, 1) := by decide +kernel
theorem d_FT_all_20 : decode b_FT_all 20 = .ok (.invokevirtual 72, 3) := by decide +kernel
theorem d_FT_all_23 : decode b_FT_all 23 = .ok (.ireturn, 1) := by decide +kernel
theorem d_FT_raw_0 : decode b_FT_raw 0 = .ok (.aload_n 0, 1) := by decide +kernel
theorem d_FT_raw_1 : decode b_FT_raw 1 = .ok (.iload_n 1, 1) := by decide +kernel
theorem d_FT_raw_2 : decode b_FT_raw 2 = .ok (.invokevirtual 49, 3) := by decide +kernel
theorem d_FT_raw_5 : decode b_FT_raw 5 = .ok (.astore_n 2, 1) := by decide +kernel
theorem d_FT_raw_6 : decode b_FT_raw 6 = .ok (.aload_n 2, 1) := by decide +kernel
theorem d_FT_raw_7 : decode b_FT_raw 7 = .ok (.ifnonnull 13, 3) := by decide +kernel
theorem d_FT_raw_10 : decode b_FT_raw 10 = .ok (.aload_n 0, 1) := by decide +kernel
theorem d_FT_raw_11 : decode b_FT_raw 11 = .ok (.getfield 14, 3) := by decide +kernel
theorem d_FT_raw_14 : decode b_FT_raw 14 = .ok (.iconst 0, 1) := by decide +kernel
theorem d_FT_raw_15 : decode b_FT_raw 15 = .ok (.invokevirtual 46, 3) := by decide +kernel
theorem d_FT_raw_18 : decode b_FT_raw 18 = .ok (.iconst (-1), 1) := by decide +kernel
theorem d_FT_raw_19 : decode b_FT_raw 19 = .ok (.ireturn, 1) := by decide +kernel
theorem d_FT_raw_20 : decode b_FT_raw 20 = .ok (.aload_n 0, 1) := by decide +kernel
theorem d_FT_raw_21 : decode b_FT_raw 21 = .ok (.aload_n 0, 1) := by decide +kernel
theorem d_FT_raw_22 : decode b_FT_raw 22 = .ok (.getfield 14, 3) := by decide +kernel
theorem d_FT_raw_25 : decode b_FT_raw 25 = .ok (.aload_n 2, 1) := by decide +kernel
theorem d_FT_raw_26 : decode b_FT_raw 26 = .ok (.invokevirtual 72, 3) := by decide +kernel
theorem d_FT_raw_29 : decode b_FT_raw 29 = .ok (.ireturn, 1) := by decide +kernel
theorem d_FT_latest_0 : decode b_FT_latest 0 = .ok (.aload_n 0, 1) := by decide +kernel
theorem d_FT_latest_1 : decode b_FT_latest 1 = .ok (.iload_n 1, 1) := by decide +kernel
theorem d_FT_latest_2 : decode b_FT_latest 2 = .ok (.invokevirtual 49, 3) := by decide +kernel
theorem d_FT_latest_5 : decode b_FT_latest 5 = .ok (.astore_n 2, 1) := by decide +kernel
theorem d_FT_latest_6 : decode b_FT_latest 6 = .ok (.aload_n 2, 1) := by decide +kernel
theorem d_FT_latest_7 : decode b_FT_latest 7 = .ok (.ifnonnull 7, 3) := by decide +kernel
theorem d_FT_latest_10 : decode b_FT_latest 10 = .ok (.iconst (-1), 1) := by decide +kernel
theorem d_FT_latest_11 : decode b_FT_latest 11 = .ok (.goto 7, 3) := by decide +kernel
theorem d_FT_latest_14 : decode b_FT_latest 14 = .ok (.aload_n 2, 1) := by decide +kernel
theorem d_FT_latest_15 : decode b_FT_latest 15 = .ok (.invokevirtual 76, 3) := by decide +kernel
theorem d_FT_latest_18 : decode b_FT_latest 18 = .ok (.ireturn, 1) := by decide +kernel
theorem d_FT_latestAt_0 : decode b_FT_latestAt 0 = .ok (.aload_n 0, 1) := by decide +kernel
theorem d_FT_latestAt_1 : decode b_FT_latestAt 1 = .ok (.iload_n 1, 1) := by decide +kernel
theorem d_FT_latestAt_2 : decode b_FT_latestAt 2 = .ok (.invokevirtual 49, 3) := by decide +kernel
theorem d_FT_latestAt_5 : decode b_FT_latestAt 5 = .ok (.astore_n 3, 1) := by decide +kernel
theorem d_FT_latestAt_6 : decode b_FT_latestAt 6 = .ok (.aload_n 3, 1) := by decide +kernel
theorem d_FT_latestAt_7 : decode b_FT_latestAt 7 = .ok (.ifnonnull 7, 3) := by decide +kernel
theorem d_FT_latestAt_10 : decode b_FT_latestAt 10 = .ok (.iconst (-1), 1) := by decide +kernel
theorem d_FT_latestAt_11 : decode b_FT_latestAt 11 = .ok (.goto 11, 3) := by decide +kernel
theorem d_FT_latestAt_14 : decode b_FT_latestAt 14 = .ok (.aload_n 3, 1) := by decide +kernel
theorem d_FT_latestAt_15 : decode b_FT_latestAt 15 = .ok (.getfield 80, 3) := by decide +kernel
theorem d_FT_latestAt_18 : decode b_FT_latestAt 18 = .ok (.iload_n 2, 1) := by decide +kernel
theorem d_FT_latestAt_19 : decode b_FT_latestAt 19 = .ok (.invokevirtual 60, 3) := by decide +kernel
theorem d_FT_latestAt_22 : decode b_FT_latestAt 22 = .ok (.ireturn, 1) := by decide +kernel
theorem d_FT_count_0 : decode b_FT_count 0 = .ok (.aload_n 0, 1) := by decide +kernel
theorem d_FT_count_1 : decode b_FT_count 1 = .ok (.iload_n 1, 1) := by decide +kernel
theorem d_FT_count_2 : decode b_FT_count 2 = .ok (.invokevirtual 49, 3) := by decide +kernel
theorem d_FT_count_5 : decode b_FT_count 5 = .ok (.astore_n 3, 1) := by decide +kernel
theorem d_FT_count_6 : decode b_FT_count 6 = .ok (.aload_n 3, 1) := by decide +kernel
theorem d_FT_count_7 : decode b_FT_count 7 = .ok (.ifnonnull 7, 3) := by decide +kernel
theorem d_FT_count_10 : decode b_FT_count 10 = .ok (.iconst (-1), 1) := by decide +kernel
theorem d_FT_count_11 : decode b_FT_count 11 = .ok (.goto 8, 3) := by decide +kernel
theorem d_FT_count_14 : decode b_FT_count 14 = .ok (.aload_n 3, 1) := by decide +kernel
theorem d_FT_count_15 : decode b_FT_count 15 = .ok (.iload_n 2, 1) := by decide +kernel
theorem d_FT_count_16 : decode b_FT_count 16 = .ok (.invokevirtual 83, 3) := by decide +kernel
theorem d_FT_count_19 : decode b_FT_count 19 = .ok (.ireturn, 1) := by decide +kernel
theorem d_FT_wayOf_0 : decode b_FT_wayOf 0 = .ok (.iload_n 1, 1) := by decide +kernel
theorem d_FT_wayOf_1 : decode b_FT_wayOf 1 = .ok (.ifCond .lt 21, 3) := by decide +kernel
theorem d_FT_wayOf_4 : decode b_FT_wayOf 4 = .ok (.iload_n 1, 1) := by decide +kernel
theorem d_FT_wayOf_5 : decode b_FT_wayOf 5 = .ok (.aload_n 0, 1) := by decide +kernel
theorem d_FT_wayOf_6 : decode b_FT_wayOf 6 = .ok (.getfield 32, 3) := by decide +kernel
theorem d_FT_wayOf_9 : decode b_FT_wayOf 9 = .ok (.arraylength, 1) := by decide +kernel
theorem d_FT_wayOf_10 : decode b_FT_wayOf 10 = .ok (.if_icmp .ge 12, 3) := by decide +kernel
theorem d_FT_wayOf_13 : decode b_FT_wayOf 13 = .ok (.aload_n 0, 1) := by decide +kernel
theorem d_FT_wayOf_14 : decode b_FT_wayOf 14 = .ok (.getfield 32, 3) := by decide +kernel
theorem d_FT_wayOf_17 : decode b_FT_wayOf 17 = .ok (.iload_n 1, 1) := by decide +kernel
theorem d_FT_wayOf_18 : decode b_FT_wayOf 18 = .ok (.aaload, 1) := by decide +kernel
theorem d_FT_wayOf_19 : decode b_FT_wayOf 19 = .ok (.goto 4, 3) := by decide +kernel
theorem d_FT_wayOf_22 : decode b_FT_wayOf 22 = .ok (.aconst_null, 1) := by decide +kernel
theorem d_FT_wayOf_23 : decode b_FT_wayOf 23 = .ok (.areturn, 1) := by decide +kernel
theorem d_FT_appendToTape_0 : decode b_FT_appendToTape 0 = .ok (.bipush 24, 2) := by decide +kernel
theorem d_FT_appendToTape_2 : decode b_FT_appendToTape 2 = .ok (.istore_n 2, 1) := by decide +kernel
theorem d_FT_appendToTape_3 : decode b_FT_appendToTape 3 = .ok (.iload_n 2, 1) := by decide +kernel
theorem d_FT_appendToTape_4 : decode b_FT_appendToTape 4 = .ok (.ifCond .lt 23, 3) := by decide +kernel
theorem d_FT_appendToTape_7 : decode b_FT_appendToTape 7 = .ok (.aload_n 0, 1) := by decide +kernel
theorem d_FT_appendToTape_8 : decode b_FT_appendToTape 8 = .ok (.getfield 14, 3) := by decide +kernel
theorem d_FT_appendToTape_11 : decode b_FT_appendToTape 11 = .ok (.iload_n 1, 1) := by decide +kernel
theorem d_FT_appendToTape_12 : decode b_FT_appendToTape 12 = .ok (.iload_n 2, 1) := by decide +kernel
theorem d_FT_appendToTape_13 : decode b_FT_appendToTape 13 = .ok (.iushr, 1) := by decide +kernel
theorem d_FT_appendToTape_14 : decode b_FT_appendToTape 14 = .ok (.sipush 255, 3) := by decide +kernel
theorem d_FT_appendToTape_17 : decode b_FT_appendToTape 17 = .ok (.iand, 1) := by decide +kernel
theorem d_FT_appendToTape_18 : decode b_FT_appendToTape 18 = .ok (.invokevirtual 86, 3) := by decide +kernel
theorem d_FT_appendToTape_21 : decode b_FT_appendToTape 21 = .ok (.iinc 2 (-8), 3) := by decide +kernel
theorem d_FT_appendToTape_24 : decode b_FT_appendToTape 24 = .ok (.goto (-21), 3) := by decide +kernel
theorem d_FT_appendToTape_27 : decode b_FT_appendToTape 27 = .ok (.return_, 1) := by decide +kernel
theorem d_FT_mayTell_0 : decode b_FT_mayTell 0 = .ok (.aload_n 0, 1) := by decide +kernel
theorem d_FT_mayTell_1 : decode b_FT_mayTell 1 = .ok (.getfield 14, 3) := by decide +kernel
theorem d_FT_mayTell_4 : decode b_FT_mayTell 4 = .ok (.getfield 40, 3) := by decide +kernel
theorem d_FT_mayTell_7 : decode b_FT_mayTell 7 = .ok (.aload_n 0, 1) := by decide +kernel
theorem d_FT_mayTell_8 : decode b_FT_mayTell 8 = .ok (.getfield 36, 3) := by decide +kernel
theorem d_FT_mayTell_11 : decode b_FT_mayTell 11 = .ok (.if_icmp .gt 24, 3) := by decide +kernel
theorem d_FT_mayTell_14 : decode b_FT_mayTell 14 = .ok (.aload_n 0, 1) := by decide +kernel
theorem d_FT_mayTell_15 : decode b_FT_mayTell 15 = .ok (.getfield 14, 3) := by decide +kernel
theorem d_FT_mayTell_18 : decode b_FT_mayTell 18 = .ok (.getfield 40, 3) := by decide +kernel
theorem d_FT_mayTell_21 : decode b_FT_mayTell 21 = .ok (.ifCond .gt 10, 3) := by decide +kernel
theorem d_FT_mayTell_24 : decode b_FT_mayTell 24 = .ok (.aload_n 1, 1) := by decide +kernel
theorem d_FT_mayTell_25 : decode b_FT_mayTell 25 = .ok (.getfield 89, 3) := by decide +kernel
theorem d_FT_mayTell_28 : decode b_FT_mayTell 28 = .ok (.ifCond .eq 7, 3) := by decide +kernel
theorem d_FT_mayTell_31 : decode b_FT_mayTell 31 = .ok (.iconst 1, 1) := by decide +kernel
theorem d_FT_mayTell_32 : decode b_FT_mayTell 32 = .ok (.goto 4, 3) := by decide +kernel
theorem d_FT_mayTell_35 : decode b_FT_mayTell 35 = .ok (.iconst 0, 1) := by decide +kernel
theorem d_FT_mayTell_36 : decode b_FT_mayTell 36 = .ok (.ireturn, 1) := by decide +kernel
theorem d_FT_writeFrame_0 : decode b_FT_writeFrame 0 = .ok (.aload_n 0, 1) := by decide +kernel
theorem d_FT_writeFrame_1 : decode b_FT_writeFrame 1 = .ok (.getfield 18, 3) := by decide +kernel
theorem d_FT_writeFrame_4 : decode b_FT_writeFrame 4 = .ok (.getfield 40, 3) := by decide +kernel
theorem d_FT_writeFrame_7 : decode b_FT_writeFrame 7 = .ok (.istore_n 2, 1) := by decide +kernel
theorem d_FT_writeFrame_8 : decode b_FT_writeFrame 8 = .ok (.aload_n 1, 1) := by decide +kernel
theorem d_FT_writeFrame_9 : decode b_FT_writeFrame 9 = .ok (.aload_n 0, 1) := by decide +kernel
theorem d_FT_writeFrame_10 : decode b_FT_writeFrame 10 = .ok (.getfield 14, 3) := by decide +kernel
theorem d_FT_writeFrame_13 : decode b_FT_writeFrame 13 = .ok (.aload_n 0, 1) := by decide +kernel
theorem d_FT_writeFrame_14 : decode b_FT_writeFrame 14 = .ok (.getfield 18, 3) := by decide +kernel
theorem d_FT_writeFrame_17 : decode b_FT_writeFrame 17 = .ok (.invokevirtual 93, 3) := by decide +kernel
theorem d_FT_writeFrame_20 : decode b_FT_writeFrame 20 = .ok (.aload_n 0, 1) := by decide +kernel
theorem d_FT_writeFrame_21 : decode b_FT_writeFrame 21 = .ok (.getfield 18, 3) := by decide +kernel
theorem d_FT_writeFrame_24 : decode b_FT_writeFrame 24 = .ok (.getfield 97, 3) := by decide +kernel
theorem d_FT_writeFrame_27 : decode b_FT_writeFrame 27 = .ok (.ifCond .ne 7, 3) := by decide +kernel
theorem d_FT_writeFrame_30 : decode b_FT_writeFrame 30 = .ok (.iconst 1, 1) := by decide +kernel
theorem d_FT_writeFrame_31 : decode b_FT_writeFrame 31 = .ok (.goto 4, 3) := by decide +kernel
theorem d_FT_writeFrame_34 : decode b_FT_writeFrame 34 = .ok (.iconst 0, 1) := by decide +kernel
theorem d_FT_writeFrame_35 : decode b_FT_writeFrame 35 = .ok (.istore_n 3, 1) := by decide +kernel
theorem d_FT_writeFrame_36 : decode b_FT_writeFrame 36 = .ok (.iload_n 3, 1) := by decide +kernel
theorem d_FT_writeFrame_37 : decode b_FT_writeFrame 37 = .ok (.ifCond .ne 11, 3) := by decide +kernel
theorem d_FT_writeFrame_40 : decode b_FT_writeFrame 40 = .ok (.aload_n 0, 1) := by decide +kernel
theorem d_FT_writeFrame_41 : decode b_FT_writeFrame 41 = .ok (.getfield 18, 3) := by decide +kernel
theorem d_FT_writeFrame_44 : decode b_FT_writeFrame 44 = .ok (.iload_n 2, 1) := by decide +kernel
theorem d_FT_writeFrame_45 : decode b_FT_writeFrame 45 = .ok (.invokevirtual 46, 3) := by decide +kernel
theorem d_FT_writeFrame_48 : decode b_FT_writeFrame 48 = .ok (.iload_n 3, 1) := by decide +kernel
theorem d_FT_writeFrame_49 : decode b_FT_writeFrame 49 = .ok (.ireturn, 1) := by decide +kernel
theorem d_FT_drain_0 : decode b_FT_drain 0 = .ok (.iconst 0, 1) := by decide +kernel
theorem d_FT_drain_1 : decode b_FT_drain 1 = .ok (.istore_n 3, 1) := by decide +kernel
theorem d_FT_drain_2 : decode b_FT_drain 2 = .ok (.aload_n 1, 1) := by decide +kernel
theorem d_FT_drain_3 : decode b_FT_drain 3 = .ok (.getfield 40, 3) := by decide +kernel
theorem d_FT_drain_6 : decode b_FT_drain 6 = .ok (.istore 4, 2) := by decide +kernel
theorem d_FT_drain_8 : decode b_FT_drain 8 = .ok (.iconst 0, 1) := by decide +kernel
theorem d_FT_drain_9 : decode b_FT_drain 9 = .ok (.istore 5, 2) := by decide +kernel
theorem d_FT_drain_11 : decode b_FT_drain 11 = .ok (.iload 5, 2) := by decide +kernel
theorem d_FT_drain_13 : decode b_FT_drain 13 = .ok (.iload 4, 2) := by decide +kernel
theorem d_FT_drain_15 : decode b_FT_drain 15 = .ok (.if_icmp .ge 30, 3) := by decide +kernel
theorem d_FT_drain_18 : decode b_FT_drain 18 = .ok (.aload_n 2, 1) := by decide +kernel
theorem d_FT_drain_19 : decode b_FT_drain 19 = .ok (.aload_n 1, 1) := by decide +kernel
theorem d_FT_drain_20 : decode b_FT_drain 20 = .ok (.iload 5, 2) := by decide +kernel
theorem d_FT_drain_22 : decode b_FT_drain 22 = .ok (.invokevirtual 60, 3) := by decide +kernel
theorem d_FT_drain_25 : decode b_FT_drain 25 = .ok (.aload_n 0, 1) := by decide +kernel
theorem d_FT_drain_26 : decode b_FT_drain 26 = .ok (.getfield 36, 3) := by decide +kernel
theorem d_FT_drain_29 : decode b_FT_drain 29 = .ok (.invokevirtual 68, 3) := by decide +kernel
theorem d_FT_drain_32 : decode b_FT_drain 32 = .ok (.iconst 1, 1) := by decide +kernel
theorem d_FT_drain_33 : decode b_FT_drain 33 = .ok (.if_icmp .ne 6, 3) := by decide +kernel
theorem d_FT_drain_36 : decode b_FT_drain 36 = .ok (.iinc 3 1, 3) := by decide +kernel
theorem d_FT_drain_39 : decode b_FT_drain 39 = .ok (.iinc 5 1, 3) := by decide +kernel
theorem d_FT_drain_42 : decode b_FT_drain 42 = .ok (.goto (-31), 3) := by decide +kernel
theorem d_FT_drain_45 : decode b_FT_drain 45 = .ok (.aload_n 1, 1) := by decide +kernel
theorem d_FT_drain_46 : decode b_FT_drain 46 = .ok (.iconst 0, 1) := by decide +kernel
theorem d_FT_drain_47 : decode b_FT_drain 47 = .ok (.invokevirtual 46, 3) := by decide +kernel
theorem d_FT_drain_50 : decode b_FT_drain 50 = .ok (.iload_n 3, 1) := by decide +kernel
theorem d_FT_drain_51 : decode b_FT_drain 51 = .ok (.ireturn, 1) := by decide +kernel
theorem d_CW_init_0 : decode b_CW_init 0 = .ok (.aload_n 0, 1) := by decide +kernel
theorem d_CW_init_1 : decode b_CW_init 1 = .ok (.bipush 126, 2) := by decide +kernel
theorem d_CW_init_3 : decode b_CW_init 3 = .ok (.iconst 0, 1) := by decide +kernel
theorem d_CW_init_4 : decode b_CW_init 4 = .ok (.invokespecial 5, 3) := by decide +kernel
theorem d_CW_init_7 : decode b_CW_init 7 = .ok (.aload_n 0, 1) := by decide +kernel
theorem d_CW_init_8 : decode b_CW_init 8 = .ok (.iconst 0, 1) := by decide +kernel
theorem d_CW_init_9 : decode b_CW_init 9 = .ok (.putfield 11, 3) := by decide +kernel
theorem d_CW_init_12 : decode b_CW_init 12 = .ok (.aload_n 0, 1) := by decide +kernel
theorem d_CW_init_13 : decode b_CW_init 13 = .ok (.ldc 15, 2) := by decide +kernel
theorem d_CW_init_15 : decode b_CW_init 15 = .ok (.putfield 16, 3) := by decide +kernel
theorem d_CW_init_18 : decode b_CW_init 18 = .ok (.aload_n 0, 1) := by decide +kernel
theorem d_CW_init_19 : decode b_CW_init 19 = .ok (.iconst 0, 1) := by decide +kernel
theorem d_CW_init_20 : decode b_CW_init 20 = .ok (.putfield 20, 3) := by decide +kernel
theorem d_CW_init_23 : decode b_CW_init 23 = .ok (.aload_n 0, 1) := by decide +kernel
theorem d_CW_init_24 : decode b_CW_init 24 = .ok (.iconst 0, 1) := by decide +kernel
theorem d_CW_init_25 : decode b_CW_init 25 = .ok (.putfield 23, 3) := by decide +kernel
theorem d_CW_init_28 : decode b_CW_init 28 = .ok (.aload_n 0, 1) := by decide +kernel
theorem d_CW_init_29 : decode b_CW_init 29 = .ok (.iconst 0, 1) := by decide +kernel
theorem d_CW_init_30 : decode b_CW_init 30 = .ok (.putfield 26, 3) := by decide +kernel
theorem d_CW_init_33 : decode b_CW_init 33 = .ok (.return_, 1) := by decide +kernel
theorem d_CW_frame_0 : decode b_CW_frame 0 = .ok (.aload_n 1, 1) := by decide +kernel
theorem d_CW_frame_1 : decode b_CW_frame 1 = .ok (.getfield 29, 3) := by decide +kernel
theorem d_CW_frame_4 : decode b_CW_frame 4 = .ok (.istore_n 3, 1) := by decide +kernel
theorem d_CW_frame_5 : decode b_CW_frame 5 = .ok (.ldc 15, 2) := by decide +kernel
theorem d_CW_frame_7 : decode b_CW_frame 7 = .ok (.istore 4, 2) := by decide +kernel
theorem d_CW_frame_9 : decode b_CW_frame 9 = .ok (.iconst 0, 1) := by decide +kernel
theorem d_CW_frame_10 : decode b_CW_frame 10 = .ok (.istore 5, 2) := by decide +kernel
theorem d_CW_frame_12 : decode b_CW_frame 12 = .ok (.iload 5, 2) := by decide +kernel
theorem d_CW_frame_14 : decode b_CW_frame 14 = .ok (.iload_n 3, 1) := by decide +kernel
theorem d_CW_frame_15 : decode b_CW_frame 15 = .ok (.if_icmp .ge 32, 3) := by decide +kernel
theorem d_CW_frame_18 : decode b_CW_frame 18 = .ok (.aload_n 1, 1) := by decide +kernel
theorem d_CW_frame_19 : decode b_CW_frame 19 = .ok (.iload 5, 2) := by decide +kernel
theorem d_CW_frame_21 : decode b_CW_frame 21 = .ok (.invokevirtual 34, 3) := by decide +kernel
theorem d_CW_frame_24 : decode b_CW_frame 24 = .ok (.istore 6, 2) := by decide +kernel
theorem d_CW_frame_26 : decode b_CW_frame 26 = .ok (.iload 4, 2) := by decide +kernel
theorem d_CW_frame_28 : decode b_CW_frame 28 = .ok (.iload 6, 2) := by decide +kernel
theorem d_CW_frame_30 : decode b_CW_frame 30 = .ok (.invokestatic 38, 3) := by decide +kernel
theorem d_CW_frame_33 : decode b_CW_frame 33 = .ok (.istore 4, 2) := by decide +kernel
theorem d_CW_frame_35 : decode b_CW_frame 35 = .ok (.iload 6, 2) := by decide +kernel
theorem d_CW_frame_37 : decode b_CW_frame 37 = .ok (.aload_n 2, 1) := by decide +kernel
theorem d_CW_frame_38 : decode b_CW_frame 38 = .ok (.invokestatic 42, 3) := by decide +kernel
theorem d_CW_frame_41 : decode b_CW_frame 41 = .ok (.iinc 5 1, 3) := by decide +kernel
theorem d_CW_frame_44 : decode b_CW_frame 44 = .ok (.goto (-32), 3) := by decide +kernel
theorem d_CW_frame_47 : decode b_CW_frame 47 = .ok (.iload 4, 2) := by decide +kernel
theorem d_CW_frame_49 : decode b_CW_frame 49 = .ok (.invokestatic 46, 3) := by decide +kernel
theorem d_CW_frame_52 : decode b_CW_frame 52 = .ok (.istore 5, 2) := by decide +kernel
theorem d_CW_frame_54 : decode b_CW_frame 54 = .ok (.iload 5, 2) := by decide +kernel
theorem d_CW_frame_56 : decode b_CW_frame 56 = .ok (.sipush 255, 3) := by decide +kernel
theorem d_CW_frame_59 : decode b_CW_frame 59 = .ok (.iand, 1) := by decide +kernel
theorem d_CW_frame_60 : decode b_CW_frame 60 = .ok (.aload_n 2, 1) := by decide +kernel
theorem d_CW_frame_61 : decode b_CW_frame 61 = .ok (.invokestatic 42, 3) := by decide +kernel
theorem d_CW_frame_64 : decode b_CW_frame 64 = .ok (.iload 5, 2) := by decide +kernel
theorem d_CW_frame_66 : decode b_CW_frame 66 = .ok (.bipush 8, 2) := by decide +kernel
theorem d_CW_frame_68 : decode b_CW_frame 68 = .ok (.iushr, 1) := by decide +kernel
theorem d_CW_frame_69 : decode b_CW_frame 69 = .ok (.aload_n 2, 1) := by decide +kernel
theorem d_CW_frame_70 : decode b_CW_frame 70 = .ok (.invokestatic 42, 3) := by decide +kernel
theorem d_CW_frame_73 : decode b_CW_frame 73 = .ok (.aload_n 2, 1) := by decide +kernel
theorem d_CW_frame_74 : decode b_CW_frame 74 = .ok (.bipush 126, 2) := by decide +kernel
theorem d_CW_frame_76 : decode b_CW_frame 76 = .ok (.invokevirtual 49, 3) := by decide +kernel
theorem d_CW_frame_79 : decode b_CW_frame 79 = .ok (.return_, 1) := by decide +kernel
theorem d_CW_writeByte_0 : decode b_CW_writeByte 0 = .ok (.iload_n 0, 1) := by decide +kernel
theorem d_CW_writeByte_1 : decode b_CW_writeByte 1 = .ok (.bipush 125, 2) := by decide +kernel
theorem d_CW_writeByte_3 : decode b_CW_writeByte 3 = .ok (.if_icmp .eq 9, 3) := by decide +kernel
theorem d_CW_writeByte_6 : decode b_CW_writeByte 6 = .ok (.iload_n 0, 1) := by decide +kernel
theorem d_CW_writeByte_7 : decode b_CW_writeByte 7 = .ok (.bipush 126, 2) := by decide +kernel
theorem d_CW_writeByte_9 : decode b_CW_writeByte 9 = .ok (.if_icmp .ne 20, 3) := by decide +kernel
theorem d_CW_writeByte_12 : decode b_CW_writeByte 12 = .ok (.aload_n 1, 1) := by decide +kernel
theorem d_CW_writeByte_13 : decode b_CW_writeByte 13 = .ok (.bipush 125, 2) := by decide +kernel
theorem d_CW_writeByte_15 : decode b_CW_writeByte 15 = .ok (.invokevirtual 49, 3) := by decide +kernel
theorem d_CW_writeByte_18 : decode b_CW_writeByte 18 = .ok (.aload_n 1, 1) := by decide +kernel
theorem d_CW_writeByte_19 : decode b_CW_writeByte 19 = .ok (.iload_n 0, 1) := by decide +kernel
theorem d_CW_writeByte_20 : decode b_CW_writeByte 20 = .ok (.bipush 32, 2) := by decide +kernel
theorem d_CW_writeByte_22 : decode b_CW_writeByte 22 = .ok (.ixor, 1) := by decide +kernel
theorem d_CW_writeByte_23 : decode b_CW_writeByte 23 = .ok (.invokevirtual 49, 3) := by decide +kernel
theorem d_CW_writeByte_26 : decode b_CW_writeByte 26 = .ok (.goto 8, 3) := by decide +kernel
theorem d_CW_writeByte_29 : decode b_CW_writeByte 29 = .ok (.aload_n 1, 1) := by decide +kernel
theorem d_CW_writeByte_30 : decode b_CW_writeByte 30 = .ok (.iload_n 0, 1) := by decide +kernel
theorem d_CW_writeByte_31 : decode b_CW_writeByte 31 = .ok (.invokevirtual 49, 3) := by decide +kernel
theorem d_CW_writeByte_34 : decode b_CW_writeByte 34 = .ok (.return_, 1) := by decide +kernel
theorem d_CW_addToCheck_0 : decode b_CW_addToCheck 0 = .ok (.iload_n 0, 1) := by decide +kernel
theorem d_CW_addToCheck_1 : decode b_CW_addToCheck 1 = .ok (.iload_n 1, 1) := by decide +kernel
theorem d_CW_addToCheck_2 : decode b_CW_addToCheck 2 = .ok (.ixor, 1) := by decide +kernel
theorem d_CW_addToCheck_3 : decode b_CW_addToCheck 3 = .ok (.istore_n 2, 1) := by decide +kernel
theorem d_CW_addToCheck_4 : decode b_CW_addToCheck 4 = .ok (.iconst 0, 1) := by decide +kernel
theorem d_CW_addToCheck_5 : decode b_CW_addToCheck 5 = .ok (.istore_n 3, 1) := by decide +kernel
theorem d_CW_addToCheck_6 : decode b_CW_addToCheck 6 = .ok (.iload_n 3, 1) := by decide +kernel
theorem d_CW_addToCheck_7 : decode b_CW_addToCheck 7 = .ok (.bipush 8, 2) := by decide +kernel
theorem d_CW_addToCheck_9 : decode b_CW_addToCheck 9 = .ok (.if_icmp .ge 28, 3) := by decide +kernel
theorem d_CW_addToCheck_12 : decode b_CW_addToCheck 12 = .ok (.iload_n 2, 1) := by decide +kernel
theorem d_CW_addToCheck_13 : decode b_CW_addToCheck 13 = .ok (.iconst 1, 1) := by decide +kernel
theorem d_CW_addToCheck_14 : decode b_CW_addToCheck 14 = .ok (.iand, 1) := by decide +kernel
theorem d_CW_addToCheck_15 : decode b_CW_addToCheck 15 = .ok (.ifCond .eq 12, 3) := by decide +kernel
theorem d_CW_addToCheck_18 : decode b_CW_addToCheck 18 = .ok (.iload_n 2, 1) := by decide +kernel
theorem d_CW_addToCheck_19 : decode b_CW_addToCheck 19 = .ok (.iconst 1, 1) := by decide +kernel
theorem d_CW_addToCheck_20 : decode b_CW_addToCheck 20 = .ok (.iushr, 1) := by decide +kernel
theorem d_CW_addToCheck_21 : decode b_CW_addToCheck 21 = .ok (.ldc 53, 2) := by decide +kernel
theorem d_CW_addToCheck_23 : decode b_CW_addToCheck 23 = .ok (.ixor, 1) := by decide +kernel
theorem d_CW_addToCheck_24 : decode b_CW_addToCheck 24 = .ok (.goto 6, 3) := by decide +kernel
theorem d_CW_addToCheck_27 : decode b_CW_addToCheck 27 = .ok (.iload_n 2, 1) := by decide +kernel
theorem d_CW_addToCheck_28 : decode b_CW_addToCheck 28 = .ok (.iconst 1, 1) := by decide +kernel
theorem d_CW_addToCheck_29 : decode b_CW_addToCheck 29 = .ok (.iushr, 1) := by decide +kernel
theorem d_CW_addToCheck_30 : decode b_CW_addToCheck 30 = .ok (.istore_n 2, 1) := by decide +kernel
theorem d_CW_addToCheck_31 : decode b_CW_addToCheck 31 = .ok (.iinc 3 1, 3) := by decide +kernel
theorem d_CW_addToCheck_34 : decode b_CW_addToCheck 34 = .ok (.goto (-28), 3) := by decide +kernel
theorem d_CW_addToCheck_37 : decode b_CW_addToCheck 37 = .ok (.iload_n 2, 1) := by decide +kernel
theorem d_CW_addToCheck_38 : decode b_CW_addToCheck 38 = .ok (.ireturn, 1) := by decide +kernel
theorem d_CW_finishedCheck_0 : decode b_CW_finishedCheck 0 = .ok (.iload_n 0, 1) := by decide +kernel
theorem d_CW_finishedCheck_1 : decode b_CW_finishedCheck 1 = .ok (.ldc 15, 2) := by decide +kernel
theorem d_CW_finishedCheck_3 : decode b_CW_finishedCheck 3 = .ok (.ixor, 1) := by decide +kernel
theorem d_CW_finishedCheck_4 : decode b_CW_finishedCheck 4 = .ok (.ireturn, 1) := by decide +kernel
theorem d_CW_decode_0 : decode b_CW_decode 0 = .ok (.aload_n 0, 1) := by decide +kernel
theorem d_CW_decode_1 : decode b_CW_decode 1 = .ok (.getfield 11, 3) := by decide +kernel
theorem d_CW_decode_4 : decode b_CW_decode 4 = .ok (.ifCond .eq 33, 3) := by decide +kernel
theorem d_CW_decode_7 : decode b_CW_decode 7 = .ok (.aload_n 0, 1) := by decide +kernel
theorem d_CW_decode_8 : decode b_CW_decode 8 = .ok (.iconst 0, 1) := by decide +kernel
theorem d_CW_decode_9 : decode b_CW_decode 9 = .ok (.putfield 11, 3) := by decide +kernel
theorem d_CW_decode_12 : decode b_CW_decode 12 = .ok (.iload_n 1, 1) := by decide +kernel
theorem d_CW_decode_13 : decode b_CW_decode 13 = .ok (.bipush 125, 2) := by decide +kernel
theorem d_CW_decode_15 : decode b_CW_decode 15 = .ok (.if_icmp .ne 11, 3) := by decide +kernel
theorem d_CW_decode_18 : decode b_CW_decode 18 = .ok (.aload_n 0, 1) := by decide +kernel
theorem d_CW_decode_19 : decode b_CW_decode 19 = .ok (.iconst 1, 1) := by decide +kernel
theorem d_CW_decode_20 : decode b_CW_decode 20 = .ok (.putfield 54, 3) := by decide +kernel
theorem d_CW_decode_23 : decode b_CW_decode 23 = .ok (.goto 33, 3) := by decide +kernel
theorem d_CW_decode_26 : decode b_CW_decode 26 = .ok (.aload_n 0, 1) := by decide +kernel
theorem d_CW_decode_27 : decode b_CW_decode 27 = .ok (.iload_n 1, 1) := by decide +kernel
theorem d_CW_decode_28 : decode b_CW_decode 28 = .ok (.bipush 32, 2) := by decide +kernel
theorem d_CW_decode_30 : decode b_CW_decode 30 = .ok (.ixor, 1) := by decide +kernel
theorem d_CW_decode_31 : decode b_CW_decode 31 = .ok (.invokevirtual 57, 3) := by decide +kernel
theorem d_CW_decode_34 : decode b_CW_decode 34 = .ok (.goto 22, 3) := by decide +kernel
theorem d_CW_decode_37 : decode b_CW_decode 37 = .ok (.iload_n 1, 1) := by decide +kernel
theorem d_CW_decode_38 : decode b_CW_decode 38 = .ok (.bipush 125, 2) := by decide +kernel
theorem d_CW_decode_40 : decode b_CW_decode 40 = .ok (.if_icmp .ne 11, 3) := by decide +kernel
theorem d_CW_decode_43 : decode b_CW_decode 43 = .ok (.aload_n 0, 1) := by decide +kernel
theorem d_CW_decode_44 : decode b_CW_decode 44 = .ok (.iconst 1, 1) := by decide +kernel
theorem d_CW_decode_45 : decode b_CW_decode 45 = .ok (.putfield 11, 3) := by decide +kernel
theorem d_CW_decode_48 : decode b_CW_decode 48 = .ok (.goto 8, 3) := by decide +kernel
theorem d_CW_decode_51 : decode b_CW_decode 51 = .ok (.aload_n 0, 1) := by decide +kernel
theorem d_CW_decode_52 : decode b_CW_decode 52 = .ok (.iload_n 1, 1) := by decide +kernel
theorem d_CW_decode_53 : decode b_CW_decode 53 = .ok (.invokevirtual 57, 3) := by decide +kernel
theorem d_CW_decode_56 : decode b_CW_decode 56 = .ok (.return_, 1) := by decide +kernel
theorem d_CW_hold_0 : decode b_CW_hold 0 = .ok (.aload_n 0, 1) := by decide +kernel
theorem d_CW_hold_1 : decode b_CW_hold 1 = .ok (.getfield 20, 3) := by decide +kernel
theorem d_CW_hold_4 : decode b_CW_hold 4 = .ok (.iconst 2, 1) := by decide +kernel
theorem d_CW_hold_5 : decode b_CW_hold 5 = .ok (.if_icmp .ne 32, 3) := by decide +kernel
theorem d_CW_hold_8 : decode b_CW_hold 8 = .ok (.aload_n 0, 1) := by decide +kernel
theorem d_CW_hold_9 : decode b_CW_hold 9 = .ok (.getfield 60, 3) := by decide +kernel
theorem d_CW_hold_12 : decode b_CW_hold 12 = .ok (.aload_n 0, 1) := by decide +kernel
theorem d_CW_hold_13 : decode b_CW_hold 13 = .ok (.getfield 23, 3) := by decide +kernel
theorem d_CW_hold_16 : decode b_CW_hold 16 = .ok (.invokevirtual 49, 3) := by decide +kernel
theorem d_CW_hold_19 : decode b_CW_hold 19 = .ok (.aload_n 0, 1) := by decide +kernel
theorem d_CW_hold_20 : decode b_CW_hold 20 = .ok (.aload_n 0, 1) := by decide +kernel
theorem d_CW_hold_21 : decode b_CW_hold 21 = .ok (.getfield 16, 3) := by decide +kernel
theorem d_CW_hold_24 : decode b_CW_hold 24 = .ok (.aload_n 0, 1) := by decide +kernel
theorem d_CW_hold_25 : decode b_CW_hold 25 = .ok (.getfield 23, 3) := by decide +kernel
theorem d_CW_hold_28 : decode b_CW_hold 28 = .ok (.invokestatic 38, 3) := by decide +kernel
theorem d_CW_hold_31 : decode b_CW_hold 31 = .ok (.putfield 16, 3) := by decide +kernel
theorem d_CW_hold_34 : decode b_CW_hold 34 = .ok (.goto 13, 3) := by decide +kernel
theorem d_CW_hold_37 : decode b_CW_hold 37 = .ok (.aload_n 0, 1) := by decide +kernel
theorem d_CW_hold_38 : decode b_CW_hold 38 = .ok (.dup, 1) := by decide +kernel
theorem d_CW_hold_39 : decode b_CW_hold 39 = .ok (.getfield 20, 3) := by decide +kernel
theorem d_CW_hold_42 : decode b_CW_hold 42 = .ok (.iconst 1, 1) := by decide +kernel
theorem d_CW_hold_43 : decode b_CW_hold 43 = .ok (.iadd, 1) := by decide +kernel
theorem d_CW_hold_44 : decode b_CW_hold 44 = .ok (.putfield 20, 3) := by decide +kernel
theorem d_CW_hold_47 : decode b_CW_hold 47 = .ok (.aload_n 0, 1) := by decide +kernel
theorem d_CW_hold_48 : decode b_CW_hold 48 = .ok (.aload_n 0, 1) := by decide +kernel
theorem d_CW_hold_49 : decode b_CW_hold 49 = .ok (.getfield 26, 3) := by decide +kernel
theorem d_CW_hold_52 : decode b_CW_hold 52 = .ok (.putfield 23, 3) := by decide +kernel
theorem d_CW_hold_55 : decode b_CW_hold 55 = .ok (.aload_n 0, 1) := by decide +kernel
theorem d_CW_hold_56 : decode b_CW_hold 56 = .ok (.iload_n 1, 1) := by decide +kernel
theorem d_CW_hold_57 : decode b_CW_hold 57 = .ok (.putfield 26, 3) := by decide +kernel
theorem d_CW_hold_60 : decode b_CW_hold 60 = .ok (.return_, 1) := by decide +kernel
theorem d_CW_isWhole_0 : decode b_CW_isWhole 0 = .ok (.aload_n 0, 1) := by decide +kernel
theorem d_CW_isWhole_1 : decode b_CW_isWhole 1 = .ok (.getfield 11, 3) := by decide +kernel
theorem d_CW_isWhole_4 : decode b_CW_isWhole 4 = .ok (.ifCond .ne 39, 3) := by decide +kernel
theorem d_CW_isWhole_7 : decode b_CW_isWhole 7 = .ok (.aload_n 0, 1) := by decide +kernel
theorem d_CW_isWhole_8 : decode b_CW_isWhole 8 = .ok (.getfield 60, 3) := by decide +kernel
theorem d_CW_isWhole_11 : decode b_CW_isWhole 11 = .ok (.getfield 29, 3) := by decide +kernel
theorem d_CW_isWhole_14 : decode b_CW_isWhole 14 = .ok (.ifCond .le 29, 3) := by decide +kernel
theorem d_CW_isWhole_17 : decode b_CW_isWhole 17 = .ok (.aload_n 0, 1) := by decide +kernel
theorem d_CW_isWhole_18 : decode b_CW_isWhole 18 = .ok (.getfield 16, 3) := by decide +kernel
theorem d_CW_isWhole_21 : decode b_CW_isWhole 21 = .ok (.invokestatic 46, 3) := by decide +kernel
theorem d_CW_isWhole_24 : decode b_CW_isWhole 24 = .ok (.aload_n 0, 1) := by decide +kernel
theorem d_CW_isWhole_25 : decode b_CW_isWhole 25 = .ok (.getfield 23, 3) := by decide +kernel
theorem d_CW_isWhole_28 : decode b_CW_isWhole 28 = .ok (.aload_n 0, 1) := by decide +kernel
theorem d_CW_isWhole_29 : decode b_CW_isWhole 29 = .ok (.getfield 26, 3) := by decide +kernel
theorem d_CW_isWhole_32 : decode b_CW_isWhole 32 = .ok (.bipush 8, 2) := by decide +kernel
theorem d_CW_isWhole_34 : decode b_CW_isWhole 34 = .ok (.ishl, 1) := by decide +kernel
theorem d_CW_isWhole_35 : decode b_CW_isWhole 35 = .ok (.ior, 1) := by decide +kernel
theorem d_CW_isWhole_36 : decode b_CW_isWhole 36 = .ok (.if_icmp .ne 7, 3) := by decide +kernel
theorem d_CW_isWhole_39 : decode b_CW_isWhole 39 = .ok (.iconst 1, 1) := by decide +kernel
theorem d_CW_isWhole_40 : decode b_CW_isWhole 40 = .ok (.goto 4, 3) := by decide +kernel
theorem d_CW_isWhole_43 : decode b_CW_isWhole 43 = .ok (.iconst 0, 1) := by decide +kernel
theorem d_CW_isWhole_44 : decode b_CW_isWhole 44 = .ok (.ireturn, 1) := by decide +kernel
theorem d_CW_forgetChunk_0 : decode b_CW_forgetChunk 0 = .ok (.aload_n 0, 1) := by decide +kernel
theorem d_CW_forgetChunk_1 : decode b_CW_forgetChunk 1 = .ok (.iconst 0, 1) := by decide +kernel
theorem d_CW_forgetChunk_2 : decode b_CW_forgetChunk 2 = .ok (.putfield 11, 3) := by decide +kernel
theorem d_CW_forgetChunk_5 : decode b_CW_forgetChunk 5 = .ok (.aload_n 0, 1) := by decide +kernel
theorem d_CW_forgetChunk_6 : decode b_CW_forgetChunk 6 = .ok (.ldc 15, 2) := by decide +kernel
end
section
theorem d_CW_forgetChunk_8 : decode b_CW_forgetChunk 8 = .ok (.putfield 16, 3) := by decide +kernel
theorem d_CW_forgetChunk_11 : decode b_CW_forgetChunk 11 = .ok (.aload_n 0, 1) := by decide +kernel
theorem d_CW_forgetChunk_12 : decode b_CW_forgetChunk 12 = .ok (.iconst 0, 1) := by decide +kernel
theorem d_CW_forgetChunk_13 : decode b_CW_forgetChunk 13 = .ok (.putfield 20, 3) := by decide +kernel
theorem d_CW_forgetChunk_16 : decode b_CW_forgetChunk 16 = .ok (.aload_n 0, 1) := by decide +kernel
theorem d_CW_forgetChunk_17 : decode b_CW_forgetChunk 17 = .ok (.iconst 0, 1) := by decide +kernel
theorem d_CW_forgetChunk_18 : decode b_CW_forgetChunk 18 = .ok (.putfield 23, 3) := by decide +kernel
theorem d_CW_forgetChunk_21 : decode b_CW_forgetChunk 21 = .ok (.aload_n 0, 1) := by decide +kernel
theorem d_CW_forgetChunk_22 : decode b_CW_forgetChunk 22 = .ok (.iconst 0, 1) := by decide +kernel
theorem d_CW_forgetChunk_23 : decode b_CW_forgetChunk 23 = .ok (.putfield 26, 3) := by decide +kernel
theorem d_CW_forgetChunk_26 : decode b_CW_forgetChunk 26 = .ok (.return_, 1) := by decide +kernel
theorem d_EW_init_0 : decode b_EW_init 0 = .ok (.aload_n 0, 1) := by decide +kernel
theorem d_EW_init_1 : decode b_EW_init 1 = .ok (.sipush 192, 3) := by decide +kernel
theorem d_EW_init_4 : decode b_EW_init 4 = .ok (.iconst 0, 1) := by decide +kernel
theorem d_EW_init_5 : decode b_EW_init 5 = .ok (.invokespecial 3, 3) := by decide +kernel
theorem d_EW_init_8 : decode b_EW_init 8 = .ok (.aload_n 0, 1) := by decide +kernel
theorem d_EW_init_9 : decode b_EW_init 9 = .ok (.iconst 0, 1) := by decide +kernel
theorem d_EW_init_10 : decode b_EW_init 10 = .ok (.putfield 9, 3) := by decide +kernel
theorem d_EW_init_13 : decode b_EW_init 13 = .ok (.return_, 1) := by decide +kernel
theorem d_EW_frame_0 : decode b_EW_frame 0 = .ok (.aload_n 1, 1) := by decide +kernel
theorem d_EW_frame_1 : decode b_EW_frame 1 = .ok (.getfield 13, 3) := by decide +kernel
theorem d_EW_frame_4 : decode b_EW_frame 4 = .ok (.istore_n 3, 1) := by decide +kernel
theorem d_EW_frame_5 : decode b_EW_frame 5 = .ok (.iconst 0, 1) := by decide +kernel
theorem d_EW_frame_6 : decode b_EW_frame 6 = .ok (.istore 4, 2) := by decide +kernel
theorem d_EW_frame_8 : decode b_EW_frame 8 = .ok (.iload 4, 2) := by decide +kernel
theorem d_EW_frame_10 : decode b_EW_frame 10 = .ok (.iload_n 3, 1) := by decide +kernel
theorem d_EW_frame_11 : decode b_EW_frame 11 = .ok (.if_icmp .ge 19, 3) := by decide +kernel
theorem d_EW_frame_14 : decode b_EW_frame 14 = .ok (.aload_n 1, 1) := by decide +kernel
theorem d_EW_frame_15 : decode b_EW_frame 15 = .ok (.iload 4, 2) := by decide +kernel
theorem d_EW_frame_17 : decode b_EW_frame 17 = .ok (.invokevirtual 19, 3) := by decide +kernel
theorem d_EW_frame_20 : decode b_EW_frame 20 = .ok (.aload_n 2, 1) := by decide +kernel
theorem d_EW_frame_21 : decode b_EW_frame 21 = .ok (.invokestatic 23, 3) := by decide +kernel
theorem d_EW_frame_24 : decode b_EW_frame 24 = .ok (.iinc 4 1, 3) := by decide +kernel
theorem d_EW_frame_27 : decode b_EW_frame 27 = .ok (.goto (-19), 3) := by decide +kernel
theorem d_EW_frame_30 : decode b_EW_frame 30 = .ok (.aload_n 2, 1) := by decide +kernel
theorem d_EW_frame_31 : decode b_EW_frame 31 = .ok (.sipush 192, 3) := by decide +kernel
theorem d_EW_frame_34 : decode b_EW_frame 34 = .ok (.invokevirtual 27, 3) := by decide +kernel
theorem d_EW_frame_37 : decode b_EW_frame 37 = .ok (.return_, 1) := by decide +kernel
theorem d_EW_writeByte_0 : decode b_EW_writeByte 0 = .ok (.iload_n 0, 1) := by decide +kernel
theorem d_EW_writeByte_1 : decode b_EW_writeByte 1 = .ok (.sipush 192, 3) := by decide +kernel
theorem d_EW_writeByte_4 : decode b_EW_writeByte 4 = .ok (.if_icmp .ne 20, 3) := by decide +kernel
theorem d_EW_writeByte_7 : decode b_EW_writeByte 7 = .ok (.aload_n 1, 1) := by decide +kernel
theorem d_EW_writeByte_8 : decode b_EW_writeByte 8 = .ok (.sipush 219, 3) := by decide +kernel
theorem d_EW_writeByte_11 : decode b_EW_writeByte 11 = .ok (.invokevirtual 27, 3) := by decide +kernel
theorem d_EW_writeByte_14 : decode b_EW_writeByte 14 = .ok (.aload_n 1, 1) := by decide +kernel
theorem d_EW_writeByte_15 : decode b_EW_writeByte 15 = .ok (.sipush 220, 3) := by decide +kernel
theorem d_EW_writeByte_18 : decode b_EW_writeByte 18 = .ok (.invokevirtual 27, 3) := by decide +kernel
theorem d_EW_writeByte_21 : decode b_EW_writeByte 21 = .ok (.goto 32, 3) := by decide +kernel
theorem d_EW_writeByte_24 : decode b_EW_writeByte 24 = .ok (.iload_n 0, 1) := by decide +kernel
theorem d_EW_writeByte_25 : decode b_EW_writeByte 25 = .ok (.sipush 219, 3) := by decide +kernel
theorem d_EW_writeByte_28 : decode b_EW_writeByte 28 = .ok (.if_icmp .ne 20, 3) := by decide +kernel
theorem d_EW_writeByte_31 : decode b_EW_writeByte 31 = .ok (.aload_n 1, 1) := by decide +kernel
theorem d_EW_writeByte_32 : decode b_EW_writeByte 32 = .ok (.sipush 219, 3) := by decide +kernel
theorem d_EW_writeByte_35 : decode b_EW_writeByte 35 = .ok (.invokevirtual 27, 3) := by decide +kernel
theorem d_EW_writeByte_38 : decode b_EW_writeByte 38 = .ok (.aload_n 1, 1) := by decide +kernel
theorem d_EW_writeByte_39 : decode b_EW_writeByte 39 = .ok (.sipush 221, 3) := by decide +kernel
theorem d_EW_writeByte_42 : decode b_EW_writeByte 42 = .ok (.invokevirtual 27, 3) := by decide +kernel
theorem d_EW_writeByte_45 : decode b_EW_writeByte 45 = .ok (.goto 8, 3) := by decide +kernel
theorem d_EW_writeByte_48 : decode b_EW_writeByte 48 = .ok (.aload_n 1, 1) := by decide +kernel
theorem d_EW_writeByte_49 : decode b_EW_writeByte 49 = .ok (.iload_n 0, 1) := by decide +kernel
theorem d_EW_writeByte_50 : decode b_EW_writeByte 50 = .ok (.invokevirtual 27, 3) := by decide +kernel
theorem d_EW_writeByte_53 : decode b_EW_writeByte 53 = .ok (.return_, 1) := by decide +kernel
theorem d_EW_decode_0 : decode b_EW_decode 0 = .ok (.aload_n 0, 1) := by decide +kernel
theorem d_EW_decode_1 : decode b_EW_decode 1 = .ok (.getfield 9, 3) := by decide +kernel
theorem d_EW_decode_4 : decode b_EW_decode 4 = .ok (.ifCond .eq 16, 3) := by decide +kernel
theorem d_EW_decode_7 : decode b_EW_decode 7 = .ok (.aload_n 0, 1) := by decide +kernel
theorem d_EW_decode_8 : decode b_EW_decode 8 = .ok (.iconst 0, 1) := by decide +kernel
theorem d_EW_decode_9 : decode b_EW_decode 9 = .ok (.putfield 9, 3) := by decide +kernel
theorem d_EW_decode_12 : decode b_EW_decode 12 = .ok (.aload_n 0, 1) := by decide +kernel
theorem d_EW_decode_13 : decode b_EW_decode 13 = .ok (.iload_n 1, 1) := by decide +kernel
theorem d_EW_decode_14 : decode b_EW_decode 14 = .ok (.invokevirtual 31, 3) := by decide +kernel
theorem d_EW_decode_17 : decode b_EW_decode 17 = .ok (.goto 26, 3) := by decide +kernel
theorem d_EW_decode_20 : decode b_EW_decode 20 = .ok (.iload_n 1, 1) := by decide +kernel
theorem d_EW_decode_21 : decode b_EW_decode 21 = .ok (.sipush 219, 3) := by decide +kernel
theorem d_EW_decode_24 : decode b_EW_decode 24 = .ok (.if_icmp .ne 11, 3) := by decide +kernel
theorem d_EW_decode_27 : decode b_EW_decode 27 = .ok (.aload_n 0, 1) := by decide +kernel
theorem d_EW_decode_28 : decode b_EW_decode 28 = .ok (.iconst 1, 1) := by decide +kernel
theorem d_EW_decode_29 : decode b_EW_decode 29 = .ok (.putfield 9, 3) := by decide +kernel
theorem d_EW_decode_32 : decode b_EW_decode 32 = .ok (.goto 11, 3) := by decide +kernel
theorem d_EW_decode_35 : decode b_EW_decode 35 = .ok (.aload_n 0, 1) := by decide +kernel
theorem d_EW_decode_36 : decode b_EW_decode 36 = .ok (.getfield 34, 3) := by decide +kernel
theorem d_EW_decode_39 : decode b_EW_decode 39 = .ok (.iload_n 1, 1) := by decide +kernel
theorem d_EW_decode_40 : decode b_EW_decode 40 = .ok (.invokevirtual 27, 3) := by decide +kernel
theorem d_EW_decode_43 : decode b_EW_decode 43 = .ok (.return_, 1) := by decide +kernel
theorem d_EW_decodeEscaped_0 : decode b_EW_decodeEscaped 0 = .ok (.iload_n 1, 1) := by decide +kernel
theorem d_EW_decodeEscaped_1 : decode b_EW_decodeEscaped 1 = .ok (.sipush 220, 3) := by decide +kernel
theorem d_EW_decodeEscaped_4 : decode b_EW_decodeEscaped 4 = .ok (.if_icmp .ne 16, 3) := by decide +kernel
theorem d_EW_decodeEscaped_7 : decode b_EW_decodeEscaped 7 = .ok (.aload_n 0, 1) := by decide +kernel
theorem d_EW_decodeEscaped_8 : decode b_EW_decodeEscaped 8 = .ok (.getfield 34, 3) := by decide +kernel
theorem d_EW_decodeEscaped_11 : decode b_EW_decodeEscaped 11 = .ok (.sipush 192, 3) := by decide +kernel
theorem d_EW_decodeEscaped_14 : decode b_EW_decodeEscaped 14 = .ok (.invokevirtual 27, 3) := by decide +kernel
theorem d_EW_decodeEscaped_17 : decode b_EW_decodeEscaped 17 = .ok (.goto 28, 3) := by decide +kernel
theorem d_EW_decodeEscaped_20 : decode b_EW_decodeEscaped 20 = .ok (.iload_n 1, 1) := by decide +kernel
theorem d_EW_decodeEscaped_21 : decode b_EW_decodeEscaped 21 = .ok (.sipush 221, 3) := by decide +kernel
theorem d_EW_decodeEscaped_24 : decode b_EW_decodeEscaped 24 = .ok (.if_icmp .ne 16, 3) := by decide +kernel
theorem d_EW_decodeEscaped_27 : decode b_EW_decodeEscaped 27 = .ok (.aload_n 0, 1) := by decide +kernel
theorem d_EW_decodeEscaped_28 : decode b_EW_decodeEscaped 28 = .ok (.getfield 34, 3) := by decide +kernel
theorem d_EW_decodeEscaped_31 : decode b_EW_decodeEscaped 31 = .ok (.sipush 219, 3) := by decide +kernel
theorem d_EW_decodeEscaped_34 : decode b_EW_decodeEscaped 34 = .ok (.invokevirtual 27, 3) := by decide +kernel
theorem d_EW_decodeEscaped_37 : decode b_EW_decodeEscaped 37 = .ok (.goto 8, 3) := by decide +kernel
theorem d_EW_decodeEscaped_40 : decode b_EW_decodeEscaped 40 = .ok (.aload_n 0, 1) := by decide +kernel
theorem d_EW_decodeEscaped_41 : decode b_EW_decodeEscaped 41 = .ok (.iconst 1, 1) := by decide +kernel
theorem d_EW_decodeEscaped_42 : decode b_EW_decodeEscaped 42 = .ok (.putfield 38, 3) := by decide +kernel
theorem d_EW_decodeEscaped_45 : decode b_EW_decodeEscaped 45 = .ok (.return_, 1) := by decide +kernel
theorem d_EW_isWhole_0 : decode b_EW_isWhole 0 = .ok (.aload_n 0, 1) := by decide +kernel
theorem d_EW_isWhole_1 : decode b_EW_isWhole 1 = .ok (.getfield 9, 3) := by decide +kernel
theorem d_EW_isWhole_4 : decode b_EW_isWhole 4 = .ok (.ifCond .ne 7, 3) := by decide +kernel
theorem d_EW_isWhole_7 : decode b_EW_isWhole 7 = .ok (.iconst 1, 1) := by decide +kernel
theorem d_EW_isWhole_8 : decode b_EW_isWhole 8 = .ok (.goto 4, 3) := by decide +kernel
theorem d_EW_isWhole_11 : decode b_EW_isWhole 11 = .ok (.iconst 0, 1) := by decide +kernel
theorem d_EW_isWhole_12 : decode b_EW_isWhole 12 = .ok (.ireturn, 1) := by decide +kernel
theorem d_EW_forgetChunk_0 : decode b_EW_forgetChunk 0 = .ok (.aload_n 0, 1) := by decide +kernel
theorem d_EW_forgetChunk_1 : decode b_EW_forgetChunk 1 = .ok (.iconst 0, 1) := by decide +kernel
theorem d_EW_forgetChunk_2 : decode b_EW_forgetChunk 2 = .ok (.putfield 9, 3) := by decide +kernel
theorem d_EW_forgetChunk_5 : decode b_EW_forgetChunk 5 = .ok (.return_, 1) := by decide +kernel
theorem d_GW_init_0 : decode b_GW_init 0 = .ok (.aload_n 0, 1) := by decide +kernel
theorem d_GW_init_1 : decode b_GW_init 1 = .ok (.iconst 0, 1) := by decide +kernel
theorem d_GW_init_2 : decode b_GW_init 2 = .ok (.iconst 1, 1) := by decide +kernel
theorem d_GW_init_3 : decode b_GW_init 3 = .ok (.invokespecial 3, 3) := by decide +kernel
theorem d_GW_init_6 : decode b_GW_init 6 = .ok (.aload_n 0, 1) := by decide +kernel
theorem d_GW_init_7 : decode b_GW_init 7 = .ok (.iconst 0, 1) := by decide +kernel
theorem d_GW_init_8 : decode b_GW_init 8 = .ok (.putfield 9, 3) := by decide +kernel
theorem d_GW_init_11 : decode b_GW_init 11 = .ok (.aload_n 0, 1) := by decide +kernel
theorem d_GW_init_12 : decode b_GW_init 12 = .ok (.iconst 0, 1) := by decide +kernel
theorem d_GW_init_13 : decode b_GW_init 13 = .ok (.putfield 13, 3) := by decide +kernel
theorem d_GW_init_16 : decode b_GW_init 16 = .ok (.return_, 1) := by decide +kernel
theorem d_GW_frame_0 : decode b_GW_frame 0 = .ok (.aload_n 1, 1) := by decide +kernel
theorem d_GW_frame_1 : decode b_GW_frame 1 = .ok (.getfield 16, 3) := by decide +kernel
theorem d_GW_frame_4 : decode b_GW_frame 4 = .ok (.istore_n 3, 1) := by decide +kernel
theorem d_GW_frame_5 : decode b_GW_frame 5 = .ok (.iconst 0, 1) := by decide +kernel
theorem d_GW_frame_6 : decode b_GW_frame 6 = .ok (.istore 4, 2) := by decide +kernel
theorem d_GW_frame_8 : decode b_GW_frame 8 = .ok (.iconst 0, 1) := by decide +kernel
theorem d_GW_frame_9 : decode b_GW_frame 9 = .ok (.istore 5, 2) := by decide +kernel
theorem d_GW_frame_11 : decode b_GW_frame 11 = .ok (.iconst 0, 1) := by decide +kernel
theorem d_GW_frame_12 : decode b_GW_frame 12 = .ok (.istore 6, 2) := by decide +kernel
theorem d_GW_frame_14 : decode b_GW_frame 14 = .ok (.iload 6, 2) := by decide +kernel
theorem d_GW_frame_16 : decode b_GW_frame 16 = .ok (.iload_n 3, 1) := by decide +kernel
theorem d_GW_frame_17 : decode b_GW_frame 17 = .ok (.if_icmp .ge 72, 3) := by decide +kernel
theorem d_GW_frame_20 : decode b_GW_frame 20 = .ok (.aload_n 1, 1) := by decide +kernel
theorem d_GW_frame_21 : decode b_GW_frame 21 = .ok (.iload 6, 2) := by decide +kernel
theorem d_GW_frame_23 : decode b_GW_frame 23 = .ok (.invokevirtual 21, 3) := by decide +kernel
theorem d_GW_frame_26 : decode b_GW_frame 26 = .ok (.ifCond .ne 24, 3) := by decide +kernel
theorem d_GW_frame_29 : decode b_GW_frame 29 = .ok (.aload_n 1, 1) := by decide +kernel
theorem d_GW_frame_30 : decode b_GW_frame 30 = .ok (.iload 4, 2) := by decide +kernel
theorem d_GW_frame_32 : decode b_GW_frame 32 = .ok (.iload 6, 2) := by decide +kernel
theorem d_GW_frame_34 : decode b_GW_frame 34 = .ok (.aload_n 2, 1) := by decide +kernel
theorem d_GW_frame_35 : decode b_GW_frame 35 = .ok (.invokestatic 25, 3) := by decide +kernel
theorem d_GW_frame_38 : decode b_GW_frame 38 = .ok (.iload 6, 2) := by decide +kernel
theorem d_GW_frame_40 : decode b_GW_frame 40 = .ok (.iconst 1, 1) := by decide +kernel
theorem d_GW_frame_41 : decode b_GW_frame 41 = .ok (.iadd, 1) := by decide +kernel
theorem d_GW_frame_42 : decode b_GW_frame 42 = .ok (.istore 4, 2) := by decide +kernel
theorem d_GW_frame_44 : decode b_GW_frame 44 = .ok (.iconst 0, 1) := by decide +kernel
theorem d_GW_frame_45 : decode b_GW_frame 45 = .ok (.istore 5, 2) := by decide +kernel
theorem d_GW_frame_47 : decode b_GW_frame 47 = .ok (.goto 36, 3) := by decide +kernel
theorem d_GW_frame_50 : decode b_GW_frame 50 = .ok (.iload 6, 2) := by decide +kernel
theorem d_GW_frame_52 : decode b_GW_frame 52 = .ok (.iconst 1, 1) := by decide +kernel
theorem d_GW_frame_53 : decode b_GW_frame 53 = .ok (.iadd, 1) := by decide +kernel
theorem d_GW_frame_54 : decode b_GW_frame 54 = .ok (.iload 4, 2) := by decide +kernel
theorem d_GW_frame_56 : decode b_GW_frame 56 = .ok (.isub, 1) := by decide +kernel
theorem d_GW_frame_57 : decode b_GW_frame 57 = .ok (.sipush 254, 3) := by decide +kernel
theorem d_GW_frame_60 : decode b_GW_frame 60 = .ok (.if_icmp .ne 23, 3) := by decide +kernel
theorem d_GW_frame_63 : decode b_GW_frame 63 = .ok (.aload_n 1, 1) := by decide +kernel
theorem d_GW_frame_64 : decode b_GW_frame 64 = .ok (.iload 4, 2) := by decide +kernel
theorem d_GW_frame_66 : decode b_GW_frame 66 = .ok (.iload 6, 2) := by decide +kernel
theorem d_GW_frame_68 : decode b_GW_frame 68 = .ok (.iconst 1, 1) := by decide +kernel
theorem d_GW_frame_69 : decode b_GW_frame 69 = .ok (.iadd, 1) := by decide +kernel
theorem d_GW_frame_70 : decode b_GW_frame 70 = .ok (.aload_n 2, 1) := by decide +kernel
theorem d_GW_frame_71 : decode b_GW_frame 71 = .ok (.invokestatic 25, 3) := by decide +kernel
theorem d_GW_frame_74 : decode b_GW_frame 74 = .ok (.iload 6, 2) := by decide +kernel
theorem d_GW_frame_76 : decode b_GW_frame 76 = .ok (.iconst 1, 1) := by decide +kernel
theorem d_GW_frame_77 : decode b_GW_frame 77 = .ok (.iadd, 1) := by decide +kernel
theorem d_GW_frame_78 : decode b_GW_frame 78 = .ok (.istore 4, 2) := by decide +kernel
theorem d_GW_frame_80 : decode b_GW_frame 80 = .ok (.iconst 1, 1) := by decide +kernel
theorem d_GW_frame_81 : decode b_GW_frame 81 = .ok (.istore 5, 2) := by decide +kernel
theorem d_GW_frame_83 : decode b_GW_frame 83 = .ok (.iinc 6 1, 3) := by decide +kernel
theorem d_GW_frame_86 : decode b_GW_frame 86 = .ok (.goto (-72), 3) := by decide +kernel
theorem d_GW_frame_89 : decode b_GW_frame 89 = .ok (.iload 4, 2) := by decide +kernel
theorem d_GW_frame_91 : decode b_GW_frame 91 = .ok (.iload_n 3, 1) := by decide +kernel
theorem d_GW_frame_92 : decode b_GW_frame 92 = .ok (.if_icmp .lt 8, 3) := by decide +kernel
theorem d_GW_frame_95 : decode b_GW_frame 95 = .ok (.iload 5, 2) := by decide +kernel
theorem d_GW_frame_97 : decode b_GW_frame 97 = .ok (.ifCond .ne 11, 3) := by decide +kernel
theorem d_GW_frame_100 : decode b_GW_frame 100 = .ok (.aload_n 1, 1) := by decide +kernel
theorem d_GW_frame_101 : decode b_GW_frame 101 = .ok (.iload 4, 2) := by decide +kernel
theorem d_GW_frame_103 : decode b_GW_frame 103 = .ok (.iload_n 3, 1) := by decide +kernel
theorem d_GW_frame_104 : decode b_GW_frame 104 = .ok (.aload_n 2, 1) := by decide +kernel
theorem d_GW_frame_105 : decode b_GW_frame 105 = .ok (.invokestatic 25, 3) := by decide +kernel
theorem d_GW_frame_108 : decode b_GW_frame 108 = .ok (.aload_n 2, 1) := by decide +kernel
theorem d_GW_frame_109 : decode b_GW_frame 109 = .ok (.iconst 0, 1) := by decide +kernel
theorem d_GW_frame_110 : decode b_GW_frame 110 = .ok (.invokevirtual 29, 3) := by decide +kernel
theorem d_GW_frame_113 : decode b_GW_frame 113 = .ok (.return_, 1) := by decide +kernel
theorem d_GW_writeGroup_0 : decode b_GW_writeGroup 0 = .ok (.aload_n 3, 1) := by decide +kernel
theorem d_GW_writeGroup_1 : decode b_GW_writeGroup 1 = .ok (.iload_n 2, 1) := by decide +kernel
theorem d_GW_writeGroup_2 : decode b_GW_writeGroup 2 = .ok (.iload_n 1, 1) := by decide +kernel
theorem d_GW_writeGroup_3 : decode b_GW_writeGroup 3 = .ok (.isub, 1) := by decide +kernel
theorem d_GW_writeGroup_4 : decode b_GW_writeGroup 4 = .ok (.iconst 1, 1) := by decide +kernel
theorem d_GW_writeGroup_5 : decode b_GW_writeGroup 5 = .ok (.iadd, 1) := by decide +kernel
theorem d_GW_writeGroup_6 : decode b_GW_writeGroup 6 = .ok (.invokevirtual 29, 3) := by decide +kernel
theorem d_GW_writeGroup_9 : decode b_GW_writeGroup 9 = .ok (.iload_n 1, 1) := by decide +kernel
theorem d_GW_writeGroup_10 : decode b_GW_writeGroup 10 = .ok (.istore 4, 2) := by decide +kernel
theorem d_GW_writeGroup_12 : decode b_GW_writeGroup 12 = .ok (.iload 4, 2) := by decide +kernel
theorem d_GW_writeGroup_14 : decode b_GW_writeGroup 14 = .ok (.iload_n 2, 1) := by decide +kernel
theorem d_GW_writeGroup_15 : decode b_GW_writeGroup 15 = .ok (.if_icmp .ge 19, 3) := by decide +kernel
theorem d_GW_writeGroup_18 : decode b_GW_writeGroup 18 = .ok (.aload_n 3, 1) := by decide +kernel
theorem d_GW_writeGroup_19 : decode b_GW_writeGroup 19 = .ok (.aload_n 0, 1) := by decide +kernel
theorem d_GW_writeGroup_20 : decode b_GW_writeGroup 20 = .ok (.iload 4, 2) := by decide +kernel
theorem d_GW_writeGroup_22 : decode b_GW_writeGroup 22 = .ok (.invokevirtual 21, 3) := by decide +kernel
theorem d_GW_writeGroup_25 : decode b_GW_writeGroup 25 = .ok (.invokevirtual 29, 3) := by decide +kernel
theorem d_GW_writeGroup_28 : decode b_GW_writeGroup 28 = .ok (.iinc 4 1, 3) := by decide +kernel
theorem d_GW_writeGroup_31 : decode b_GW_writeGroup 31 = .ok (.goto (-19), 3) := by decide +kernel
theorem d_GW_writeGroup_34 : decode b_GW_writeGroup 34 = .ok (.return_, 1) := by decide +kernel
theorem d_GW_decode_0 : decode b_GW_decode 0 = .ok (.aload_n 0, 1) := by decide +kernel
theorem d_GW_decode_1 : decode b_GW_decode 1 = .ok (.getfield 13, 3) := by decide +kernel
theorem d_GW_decode_4 : decode b_GW_decode 4 = .ok (.ifCond .le 24, 3) := by decide +kernel
theorem d_GW_decode_7 : decode b_GW_decode 7 = .ok (.aload_n 0, 1) := by decide +kernel
theorem d_GW_decode_8 : decode b_GW_decode 8 = .ok (.getfield 33, 3) := by decide +kernel
theorem d_GW_decode_11 : decode b_GW_decode 11 = .ok (.iload_n 1, 1) := by decide +kernel
theorem d_GW_decode_12 : decode b_GW_decode 12 = .ok (.invokevirtual 29, 3) := by decide +kernel
theorem d_GW_decode_15 : decode b_GW_decode 15 = .ok (.aload_n 0, 1) := by decide +kernel
theorem d_GW_decode_16 : decode b_GW_decode 16 = .ok (.dup, 1) := by decide +kernel
theorem d_GW_decode_17 : decode b_GW_decode 17 = .ok (.getfield 13, 3) := by decide +kernel
theorem d_GW_decode_20 : decode b_GW_decode 20 = .ok (.iconst 1, 1) := by decide +kernel
theorem d_GW_decode_21 : decode b_GW_decode 21 = .ok (.isub, 1) := by decide +kernel
theorem d_GW_decode_22 : decode b_GW_decode 22 = .ok (.putfield 13, 3) := by decide +kernel
theorem d_GW_decode_25 : decode b_GW_decode 25 = .ok (.goto 8, 3) := by decide +kernel
theorem d_GW_decode_28 : decode b_GW_decode 28 = .ok (.aload_n 0, 1) := by decide +kernel
theorem d_GW_decode_29 : decode b_GW_decode 29 = .ok (.iload_n 1, 1) := by decide +kernel
theorem d_GW_decode_30 : decode b_GW_decode 30 = .ok (.invokevirtual 37, 3) := by decide +kernel
theorem d_GW_decode_33 : decode b_GW_decode 33 = .ok (.return_, 1) := by decide +kernel
theorem d_GW_beginGroup_0 : decode b_GW_beginGroup 0 = .ok (.aload_n 0, 1) := by decide +kernel
theorem d_GW_beginGroup_1 : decode b_GW_beginGroup 1 = .ok (.getfield 9, 3) := by decide +kernel
theorem d_GW_beginGroup_4 : decode b_GW_beginGroup 4 = .ok (.ifCond .eq 21, 3) := by decide +kernel
theorem d_GW_beginGroup_7 : decode b_GW_beginGroup 7 = .ok (.aload_n 0, 1) := by decide +kernel
theorem d_GW_beginGroup_8 : decode b_GW_beginGroup 8 = .ok (.getfield 9, 3) := by decide +kernel
theorem d_GW_beginGroup_11 : decode b_GW_beginGroup 11 = .ok (.sipush 255, 3) := by decide +kernel
theorem d_GW_beginGroup_14 : decode b_GW_beginGroup 14 = .ok (.if_icmp .eq 11, 3) := by decide +kernel
theorem d_GW_beginGroup_17 : decode b_GW_beginGroup 17 = .ok (.aload_n 0, 1) := by decide +kernel
theorem d_GW_beginGroup_18 : decode b_GW_beginGroup 18 = .ok (.getfield 33, 3) := by decide +kernel
theorem d_GW_beginGroup_21 : decode b_GW_beginGroup 21 = .ok (.iconst 0, 1) := by decide +kernel
theorem d_GW_beginGroup_22 : decode b_GW_beginGroup 22 = .ok (.invokevirtual 29, 3) := by decide +kernel
theorem d_GW_beginGroup_25 : decode b_GW_beginGroup 25 = .ok (.aload_n 0, 1) := by decide +kernel
theorem d_GW_beginGroup_26 : decode b_GW_beginGroup 26 = .ok (.iload_n 1, 1) := by decide +kernel
theorem d_GW_beginGroup_27 : decode b_GW_beginGroup 27 = .ok (.putfield 9, 3) := by decide +kernel
theorem d_GW_beginGroup_30 : decode b_GW_beginGroup 30 = .ok (.aload_n 0, 1) := by decide +kernel
theorem d_GW_beginGroup_31 : decode b_GW_beginGroup 31 = .ok (.iload_n 1, 1) := by decide +kernel
theorem d_GW_beginGroup_32 : decode b_GW_beginGroup 32 = .ok (.iconst 1, 1) := by decide +kernel
theorem d_GW_beginGroup_33 : decode b_GW_beginGroup 33 = .ok (.isub, 1) := by decide +kernel
theorem d_GW_beginGroup_34 : decode b_GW_beginGroup 34 = .ok (.putfield 13, 3) := by decide +kernel
theorem d_GW_beginGroup_37 : decode b_GW_beginGroup 37 = .ok (.return_, 1) := by decide +kernel
theorem d_GW_isWhole_0 : decode b_GW_isWhole 0 = .ok (.aload_n 0, 1) := by decide +kernel
theorem d_GW_isWhole_1 : decode b_GW_isWhole 1 = .ok (.getfield 9, 3) := by decide +kernel
theorem d_GW_isWhole_4 : decode b_GW_isWhole 4 = .ok (.ifCond .eq 14, 3) := by decide +kernel
theorem d_GW_isWhole_7 : decode b_GW_isWhole 7 = .ok (.aload_n 0, 1) := by decide +kernel
theorem d_GW_isWhole_8 : decode b_GW_isWhole 8 = .ok (.getfield 13, 3) := by decide +kernel
theorem d_GW_isWhole_11 : decode b_GW_isWhole 11 = .ok (.ifCond .ne 7, 3) := by decide +kernel
theorem d_GW_isWhole_14 : decode b_GW_isWhole 14 = .ok (.iconst 1, 1) := by decide +kernel
theorem d_GW_isWhole_15 : decode b_GW_isWhole 15 = .ok (.goto 4, 3) := by decide +kernel
theorem d_GW_isWhole_18 : decode b_GW_isWhole 18 = .ok (.iconst 0, 1) := by decide +kernel
theorem d_GW_isWhole_19 : decode b_GW_isWhole 19 = .ok (.ireturn, 1) := by decide +kernel
theorem d_GW_forgetChunk_0 : decode b_GW_forgetChunk 0 = .ok (.aload_n 0, 1) := by decide +kernel
theorem d_GW_forgetChunk_1 : decode b_GW_forgetChunk 1 = .ok (.iconst 0, 1) := by decide +kernel
theorem d_GW_forgetChunk_2 : decode b_GW_forgetChunk 2 = .ok (.putfield 9, 3) := by decide +kernel
theorem d_GW_forgetChunk_5 : decode b_GW_forgetChunk 5 = .ok (.aload_n 0, 1) := by decide +kernel
theorem d_GW_forgetChunk_6 : decode b_GW_forgetChunk 6 = .ok (.iconst 0, 1) := by decide +kernel
theorem d_GW_forgetChunk_7 : decode b_GW_forgetChunk 7 = .ok (.putfield 13, 3) := by decide +kernel
theorem d_GW_forgetChunk_10 : decode b_GW_forgetChunk 10 = .ok (.return_, 1) := by decide +kernel
theorem d_Row_init_0 : decode b_Row_init 0 = .ok (.aload_n 0, 1) := by decide +kernel
theorem d_Row_init_1 : decode b_Row_init 1 = .ok (.invokespecial 3, 3) := by decide +kernel
theorem d_Row_init_4 : decode b_Row_init 4 = .ok (.aload_n 0, 1) := by decide +kernel
theorem d_Row_init_5 : decode b_Row_init 5 = .ok (.iload_n 1, 1) := by decide +kernel
theorem d_Row_init_6 : decode b_Row_init 6 = .ok (.iconst 0, 1) := by decide +kernel
theorem d_Row_init_7 : decode b_Row_init 7 = .ok (.invokestatic 9, 3) := by decide +kernel
theorem d_Row_init_10 : decode b_Row_init 10 = .ok (.newarray .int, 2) := by decide +kernel
theorem d_Row_init_12 : decode b_Row_init 12 = .ok (.putfield 15, 3) := by decide +kernel
theorem d_Row_init_15 : decode b_Row_init 15 = .ok (.aload_n 0, 1) := by decide +kernel
theorem d_Row_init_16 : decode b_Row_init 16 = .ok (.iconst 0, 1) := by decide +kernel
theorem d_Row_init_17 : decode b_Row_init 17 = .ok (.putfield 21, 3) := by decide +kernel
theorem d_Row_init_20 : decode b_Row_init 20 = .ok (.aload_n 0, 1) := by decide +kernel
theorem d_Row_init_21 : decode b_Row_init 21 = .ok (.iconst 0, 1) := by decide +kernel
theorem d_Row_init_22 : decode b_Row_init 22 = .ok (.putfield 25, 3) := by decide +kernel
theorem d_Row_init_25 : decode b_Row_init 25 = .ok (.return_, 1) := by decide +kernel
theorem d_Row_put_0 : decode b_Row_put 0 = .ok (.aload_n 0, 1) := by decide +kernel
theorem d_Row_put_1 : decode b_Row_put 1 = .ok (.getfield 21, 3) := by decide +kernel
theorem d_Row_put_4 : decode b_Row_put 4 = .ok (.ifCond .lt 38, 3) := by decide +kernel
theorem d_Row_put_7 : decode b_Row_put 7 = .ok (.aload_n 0, 1) := by decide +kernel
theorem d_Row_put_8 : decode b_Row_put 8 = .ok (.getfield 21, 3) := by decide +kernel
theorem d_Row_put_11 : decode b_Row_put 11 = .ok (.aload_n 0, 1) := by decide +kernel
theorem d_Row_put_12 : decode b_Row_put 12 = .ok (.getfield 15, 3) := by decide +kernel
theorem d_Row_put_15 : decode b_Row_put 15 = .ok (.arraylength, 1) := by decide +kernel
theorem d_Row_put_16 : decode b_Row_put 16 = .ok (.if_icmp .ge 26, 3) := by decide +kernel
theorem d_Row_put_19 : decode b_Row_put 19 = .ok (.aload_n 0, 1) := by decide +kernel
theorem d_Row_put_20 : decode b_Row_put 20 = .ok (.getfield 15, 3) := by decide +kernel
theorem d_Row_put_23 : decode b_Row_put 23 = .ok (.aload_n 0, 1) := by decide +kernel
theorem d_Row_put_24 : decode b_Row_put 24 = .ok (.getfield 21, 3) := by decide +kernel
theorem d_Row_put_27 : decode b_Row_put 27 = .ok (.iload_n 1, 1) := by decide +kernel
theorem d_Row_put_28 : decode b_Row_put 28 = .ok (.iastore, 1) := by decide +kernel
theorem d_Row_put_29 : decode b_Row_put 29 = .ok (.aload_n 0, 1) := by decide +kernel
theorem d_Row_put_30 : decode b_Row_put 30 = .ok (.dup, 1) := by decide +kernel
theorem d_Row_put_31 : decode b_Row_put 31 = .ok (.getfield 21, 3) := by decide +kernel
theorem d_Row_put_34 : decode b_Row_put 34 = .ok (.iconst 1, 1) := by decide +kernel
theorem d_Row_put_35 : decode b_Row_put 35 = .ok (.iadd, 1) := by decide +kernel
theorem d_Row_put_36 : decode b_Row_put 36 = .ok (.putfield 21, 3) := by decide +kernel
theorem d_Row_put_39 : decode b_Row_put 39 = .ok (.goto 8, 3) := by decide +kernel
theorem d_Row_put_42 : decode b_Row_put 42 = .ok (.aload_n 0, 1) := by decide +kernel
theorem d_Row_put_43 : decode b_Row_put 43 = .ok (.iconst 1, 1) := by decide +kernel
theorem d_Row_put_44 : decode b_Row_put 44 = .ok (.putfield 25, 3) := by decide +kernel
theorem d_Row_put_47 : decode b_Row_put 47 = .ok (.return_, 1) := by decide +kernel
theorem d_Row_byteAt_0 : decode b_Row_byteAt 0 = .ok (.aload_n 0, 1) := by decide +kernel
theorem d_Row_byteAt_1 : decode b_Row_byteAt 1 = .ok (.iload_n 1, 1) := by decide +kernel
theorem d_Row_byteAt_2 : decode b_Row_byteAt 2 = .ok (.invokevirtual 29, 3) := by decide +kernel
theorem d_Row_byteAt_5 : decode b_Row_byteAt 5 = .ok (.ifCond .eq 12, 3) := by decide +kernel
theorem d_Row_byteAt_8 : decode b_Row_byteAt 8 = .ok (.aload_n 0, 1) := by decide +kernel
theorem d_Row_byteAt_9 : decode b_Row_byteAt 9 = .ok (.getfield 15, 3) := by decide +kernel
theorem d_Row_byteAt_12 : decode b_Row_byteAt 12 = .ok (.iload_n 1, 1) := by decide +kernel
theorem d_Row_byteAt_13 : decode b_Row_byteAt 13 = .ok (.iaload, 1) := by decide +kernel
theorem d_Row_byteAt_14 : decode b_Row_byteAt 14 = .ok (.goto 4, 3) := by decide +kernel
theorem d_Row_byteAt_17 : decode b_Row_byteAt 17 = .ok (.iconst (-1), 1) := by decide +kernel
theorem d_Row_byteAt_18 : decode b_Row_byteAt 18 = .ok (.ireturn, 1) := by decide +kernel
theorem d_Row_turn_0 : decode b_Row_turn 0 = .ok (.aload_n 0, 1) := by decide +kernel
theorem d_Row_turn_1 : decode b_Row_turn 1 = .ok (.iload_n 1, 1) := by decide +kernel
theorem d_Row_turn_2 : decode b_Row_turn 2 = .ok (.invokevirtual 29, 3) := by decide +kernel
theorem d_Row_turn_5 : decode b_Row_turn 5 = .ok (.ifCond .ne 5, 3) := by decide +kernel
theorem d_Row_turn_8 : decode b_Row_turn 8 = .ok (.iconst 0, 1) := by decide +kernel
theorem d_Row_turn_9 : decode b_Row_turn 9 = .ok (.ireturn, 1) := by decide +kernel
theorem d_Row_turn_10 : decode b_Row_turn 10 = .ok (.aload_n 0, 1) := by decide +kernel
theorem d_Row_turn_11 : decode b_Row_turn 11 = .ok (.getfield 15, 3) := by decide +kernel
theorem d_Row_turn_14 : decode b_Row_turn 14 = .ok (.iload_n 1, 1) := by decide +kernel
theorem d_Row_turn_15 : decode b_Row_turn 15 = .ok (.dup2, 1) := by decide +kernel
theorem d_Row_turn_16 : decode b_Row_turn 16 = .ok (.iaload, 1) := by decide +kernel
theorem d_Row_turn_17 : decode b_Row_turn 17 = .ok (.iload_n 2, 1) := by decide +kernel
theorem d_Row_turn_18 : decode b_Row_turn 18 = .ok (.ixor, 1) := by decide +kernel
theorem d_Row_turn_19 : decode b_Row_turn 19 = .ok (.iastore, 1) := by decide +kernel
theorem d_Row_turn_20 : decode b_Row_turn 20 = .ok (.iconst 1, 1) := by decide +kernel
theorem d_Row_turn_21 : decode b_Row_turn 21 = .ok (.ireturn, 1) := by decide +kernel
theorem d_Row_cutTo_0 : decode b_Row_cutTo 0 = .ok (.iload_n 1, 1) := by decide +kernel
theorem d_Row_cutTo_1 : decode b_Row_cutTo 1 = .ok (.ifCond .lt 21, 3) := by decide +kernel
theorem d_Row_cutTo_4 : decode b_Row_cutTo 4 = .ok (.iload_n 1, 1) := by decide +kernel
theorem d_Row_cutTo_5 : decode b_Row_cutTo 5 = .ok (.aload_n 0, 1) := by decide +kernel
theorem d_Row_cutTo_6 : decode b_Row_cutTo 6 = .ok (.getfield 21, 3) := by decide +kernel
theorem d_Row_cutTo_9 : decode b_Row_cutTo 9 = .ok (.if_icmp .gt 13, 3) := by decide +kernel
theorem d_Row_cutTo_12 : decode b_Row_cutTo 12 = .ok (.aload_n 0, 1) := by decide +kernel
theorem d_Row_cutTo_13 : decode b_Row_cutTo 13 = .ok (.iload_n 1, 1) := by decide +kernel
theorem d_Row_cutTo_14 : decode b_Row_cutTo 14 = .ok (.putfield 21, 3) := by decide +kernel
theorem d_Row_cutTo_17 : decode b_Row_cutTo 17 = .ok (.aload_n 0, 1) := by decide +kernel
theorem d_Row_cutTo_18 : decode b_Row_cutTo 18 = .ok (.iconst 0, 1) := by decide +kernel
theorem d_Row_cutTo_19 : decode b_Row_cutTo 19 = .ok (.putfield 25, 3) := by decide +kernel
theorem d_Row_cutTo_22 : decode b_Row_cutTo 22 = .ok (.return_, 1) := by decide +kernel
theorem d_Row_holds_0 : decode b_Row_holds 0 = .ok (.iload_n 1, 1) := by decide +kernel
theorem d_Row_holds_1 : decode b_Row_holds 1 = .ok (.ifCond .lt 24, 3) := by decide +kernel
theorem d_Row_holds_4 : decode b_Row_holds 4 = .ok (.iload_n 1, 1) := by decide +kernel
theorem d_Row_holds_5 : decode b_Row_holds 5 = .ok (.aload_n 0, 1) := by decide +kernel
theorem d_Row_holds_6 : decode b_Row_holds 6 = .ok (.getfield 21, 3) := by decide +kernel
theorem d_Row_holds_9 : decode b_Row_holds 9 = .ok (.if_icmp .ge 16, 3) := by decide +kernel
theorem d_Row_holds_12 : decode b_Row_holds 12 = .ok (.iload_n 1, 1) := by decide +kernel
theorem d_Row_holds_13 : decode b_Row_holds 13 = .ok (.aload_n 0, 1) := by decide +kernel
theorem d_Row_holds_14 : decode b_Row_holds 14 = .ok (.getfield 15, 3) := by decide +kernel
theorem d_Row_holds_17 : decode b_Row_holds 17 = .ok (.arraylength, 1) := by decide +kernel
theorem d_Row_holds_18 : decode b_Row_holds 18 = .ok (.if_icmp .ge 7, 3) := by decide +kernel
theorem d_Row_holds_21 : decode b_Row_holds 21 = .ok (.iconst 1, 1) := by decide +kernel
theorem d_Row_holds_22 : decode b_Row_holds 22 = .ok (.goto 4, 3) := by decide +kernel
theorem d_Row_holds_25 : decode b_Row_holds 25 = .ok (.iconst 0, 1) := by decide +kernel
theorem d_Row_holds_26 : decode b_Row_holds 26 = .ok (.ireturn, 1) := by decide +kernel
theorem d_Way_init_0 : decode b_Way_init 0 = .ok (.aload_n 0, 1) := by decide +kernel
theorem d_Way_init_1 : decode b_Way_init 1 = .ok (.invokespecial 3, 3) := by decide +kernel
theorem d_Way_init_4 : decode b_Way_init 4 = .ok (.aload_n 0, 1) := by decide +kernel
theorem d_Way_init_5 : decode b_Way_init 5 = .ok (.iload_n 1, 1) := by decide +kernel
theorem d_Way_init_6 : decode b_Way_init 6 = .ok (.putfield 9, 3) := by decide +kernel
theorem d_Way_init_9 : decode b_Way_init 9 = .ok (.aload_n 0, 1) := by decide +kernel
theorem d_Way_init_10 : decode b_Way_init 10 = .ok (.iload_n 2, 1) := by decide +kernel
theorem d_Way_init_11 : decode b_Way_init 11 = .ok (.putfield 15, 3) := by decide +kernel
theorem d_Way_init_14 : decode b_Way_init 14 = .ok (.aload_n 0, 1) := by decide +kernel
theorem d_Way_init_15 : decode b_Way_init 15 = .ok (.new 19, 3) := by decide +kernel
theorem d_Way_init_18 : decode b_Way_init 18 = .ok (.dup, 1) := by decide +kernel
theorem d_Way_init_19 : decode b_Way_init 19 = .ok (.sipush 400, 3) := by decide +kernel
theorem d_Way_init_22 : decode b_Way_init 22 = .ok (.invokespecial 21, 3) := by decide +kernel
theorem d_Way_init_25 : decode b_Way_init 25 = .ok (.putfield 24, 3) := by decide +kernel
theorem d_Way_init_28 : decode b_Way_init 28 = .ok (.aload_n 0, 1) := by decide +kernel
theorem d_Way_init_29 : decode b_Way_init 29 = .ok (.new 19, 3) := by decide +kernel
theorem d_Way_init_32 : decode b_Way_init 32 = .ok (.dup, 1) := by decide +kernel
theorem d_Way_init_33 : decode b_Way_init 33 = .ok (.sipush 400, 3) := by decide +kernel
theorem d_Way_init_36 : decode b_Way_init 36 = .ok (.invokespecial 21, 3) := by decide +kernel
theorem d_Way_init_39 : decode b_Way_init 39 = .ok (.putfield 28, 3) := by decide +kernel
theorem d_Way_init_42 : decode b_Way_init 42 = .ok (.aload_n 0, 1) := by decide +kernel
theorem d_Way_init_43 : decode b_Way_init 43 = .ok (.iconst 0, 1) := by decide +kernel
theorem d_Way_init_44 : decode b_Way_init 44 = .ok (.putfield 31, 3) := by decide +kernel
theorem d_Way_init_47 : decode b_Way_init 47 = .ok (.aload_n 0, 1) := by decide +kernel
theorem d_Way_init_48 : decode b_Way_init 48 = .ok (.iconst 0, 1) := by decide +kernel
theorem d_Way_init_49 : decode b_Way_init 49 = .ok (.putfield 34, 3) := by decide +kernel
theorem d_Way_init_52 : decode b_Way_init 52 = .ok (.aload_n 0, 1) := by decide +kernel
theorem d_Way_init_53 : decode b_Way_init 53 = .ok (.iconst 0, 1) := by decide +kernel
theorem d_Way_init_54 : decode b_Way_init 54 = .ok (.putfield 37, 3) := by decide +kernel
theorem d_Way_init_57 : decode b_Way_init 57 = .ok (.aload_n 0, 1) := by decide +kernel
theorem d_Way_init_58 : decode b_Way_init 58 = .ok (.iconst 4, 1) := by decide +kernel
theorem d_Way_init_59 : decode b_Way_init 59 = .ok (.newarray .int, 2) := by decide +kernel
theorem d_Way_init_61 : decode b_Way_init 61 = .ok (.putfield 40, 3) := by decide +kernel
theorem d_Way_init_64 : decode b_Way_init 64 = .ok (.return_, 1) := by decide +kernel
theorem d_Way_take_0 : decode b_Way_take 0 = .ok (.iload_n 1, 1) := by decide +kernel
theorem d_Way_take_1 : decode b_Way_take 1 = .ok (.aload_n 0, 1) := by decide +kernel
theorem d_Way_take_2 : decode b_Way_take 2 = .ok (.getfield 9, 3) := by decide +kernel
theorem d_Way_take_5 : decode b_Way_take 5 = .ok (.if_icmp .ne 9, 3) := by decide +kernel
theorem d_Way_take_8 : decode b_Way_take 8 = .ok (.aload_n 0, 1) := by decide +kernel
theorem d_Way_take_9 : decode b_Way_take 9 = .ok (.iload_n 2, 1) := by decide +kernel
theorem d_Way_take_10 : decode b_Way_take 10 = .ok (.invokevirtual 44, 3) := by decide +kernel
theorem d_Way_take_13 : decode b_Way_take 13 = .ok (.ireturn, 1) := by decide +kernel
theorem d_Way_take_14 : decode b_Way_take 14 = .ok (.aload_n 0, 1) := by decide +kernel
theorem d_Way_take_15 : decode b_Way_take 15 = .ok (.iconst 1, 1) := by decide +kernel
theorem d_Way_take_16 : decode b_Way_take 16 = .ok (.putfield 34, 3) := by decide +kernel
theorem d_Way_take_19 : decode b_Way_take 19 = .ok (.aload_n 0, 1) := by decide +kernel
theorem d_Way_take_20 : decode b_Way_take 20 = .ok (.getfield 31, 3) := by decide +kernel
theorem d_Way_take_23 : decode b_Way_take 23 = .ok (.ifCond .ne 8, 3) := by decide +kernel
theorem d_Way_take_26 : decode b_Way_take 26 = .ok (.aload_n 0, 1) := by decide +kernel
theorem d_Way_take_27 : decode b_Way_take 27 = .ok (.iload_n 1, 1) := by decide +kernel
theorem d_Way_take_28 : decode b_Way_take 28 = .ok (.invokevirtual 48, 3) := by decide +kernel
theorem d_Way_take_31 : decode b_Way_take 31 = .ok (.iconst 0, 1) := by decide +kernel
theorem d_Way_take_32 : decode b_Way_take 32 = .ok (.ireturn, 1) := by decide +kernel
theorem d_Way_keptSize_0 : decode b_Way_keptSize 0 = .ok (.aload_n 0, 1) := by decide +kernel
theorem d_Way_keptSize_1 : decode b_Way_keptSize 1 = .ok (.getfield 37, 3) := by decide +kernel
theorem d_Way_keptSize_4 : decode b_Way_keptSize 4 = .ok (.ifCond .eq 13, 3) := by decide +kernel
theorem d_Way_keptSize_7 : decode b_Way_keptSize 7 = .ok (.aload_n 0, 1) := by decide +kernel
theorem d_Way_keptSize_8 : decode b_Way_keptSize 8 = .ok (.getfield 28, 3) := by decide +kernel
theorem d_Way_keptSize_11 : decode b_Way_keptSize 11 = .ok (.getfield 51, 3) := by decide +kernel
theorem d_Way_keptSize_14 : decode b_Way_keptSize 14 = .ok (.goto 4, 3) := by decide +kernel
theorem d_Way_keptSize_17 : decode b_Way_keptSize 17 = .ok (.iconst (-1), 1) := by decide +kernel
theorem d_Way_keptSize_18 : decode b_Way_keptSize 18 = .ok (.ireturn, 1) := by decide +kernel
theorem d_Way_tally_0 : decode b_Way_tally 0 = .ok (.iload_n 1, 1) := by decide +kernel
theorem d_Way_tally_1 : decode b_Way_tally 1 = .ok (.iconst 1, 1) := by decide +kernel
theorem d_Way_tally_2 : decode b_Way_tally 2 = .ok (.if_icmp .lt 17, 3) := by decide +kernel
theorem d_Way_tally_5 : decode b_Way_tally 5 = .ok (.iload_n 1, 1) := by decide +kernel
theorem d_Way_tally_6 : decode b_Way_tally 6 = .ok (.iconst 3, 1) := by decide +kernel
theorem d_Way_tally_7 : decode b_Way_tally 7 = .ok (.if_icmp .gt 12, 3) := by decide +kernel
theorem d_Way_tally_10 : decode b_Way_tally 10 = .ok (.aload_n 0, 1) := by decide +kernel
theorem d_Way_tally_11 : decode b_Way_tally 11 = .ok (.getfield 40, 3) := by decide +kernel
theorem d_Way_tally_14 : decode b_Way_tally 14 = .ok (.iload_n 1, 1) := by decide +kernel
theorem d_Way_tally_15 : decode b_Way_tally 15 = .ok (.iaload, 1) := by decide +kernel
theorem d_Way_tally_16 : decode b_Way_tally 16 = .ok (.goto 4, 3) := by decide +kernel
theorem d_Way_tally_19 : decode b_Way_tally 19 = .ok (.iconst (-1), 1) := by decide +kernel
theorem d_Way_tally_20 : decode b_Way_tally 20 = .ok (.ireturn, 1) := by decide +kernel
theorem d_Way_finishChunk_0 : decode b_Way_finishChunk 0 = .ok (.aload_n 0, 1) := by decide +kernel
theorem d_Way_finishChunk_1 : decode b_Way_finishChunk 1 = .ok (.iload_n 1, 1) := by decide +kernel
theorem d_Way_finishChunk_2 : decode b_Way_finishChunk 2 = .ok (.invokevirtual 54, 3) := by decide +kernel
theorem d_Way_finishChunk_5 : decode b_Way_finishChunk 5 = .ok (.istore_n 2, 1) := by decide +kernel
theorem d_Way_finishChunk_6 : decode b_Way_finishChunk 6 = .ok (.iload_n 2, 1) := by decide +kernel
theorem d_Way_finishChunk_7 : decode b_Way_finishChunk 7 = .ok (.iconst 1, 1) := by decide +kernel
theorem d_Way_finishChunk_8 : decode b_Way_finishChunk 8 = .ok (.if_icmp .lt 18, 3) := by decide +kernel
theorem d_Way_finishChunk_11 : decode b_Way_finishChunk 11 = .ok (.iload_n 2, 1) := by decide +kernel
theorem d_Way_finishChunk_12 : decode b_Way_finishChunk 12 = .ok (.iconst 3, 1) := by decide +kernel
theorem d_Way_finishChunk_13 : decode b_Way_finishChunk 13 = .ok (.if_icmp .gt 13, 3) := by decide +kernel
theorem d_Way_finishChunk_16 : decode b_Way_finishChunk 16 = .ok (.aload_n 0, 1) := by decide +kernel
theorem d_Way_finishChunk_17 : decode b_Way_finishChunk 17 = .ok (.getfield 40, 3) := by decide +kernel
theorem d_Way_finishChunk_20 : decode b_Way_finishChunk 20 = .ok (.iload_n 2, 1) := by decide +kernel
theorem d_Way_finishChunk_21 : decode b_Way_finishChunk 21 = .ok (.dup2, 1) := by decide +kernel
theorem d_Way_finishChunk_22 : decode b_Way_finishChunk 22 = .ok (.iaload, 1) := by decide +kernel
theorem d_Way_finishChunk_23 : decode b_Way_finishChunk 23 = .ok (.iconst 1, 1) := by decide +kernel
theorem d_Way_finishChunk_24 : decode b_Way_finishChunk 24 = .ok (.iadd, 1) := by decide +kernel
theorem d_Way_finishChunk_25 : decode b_Way_finishChunk 25 = .ok (.iastore, 1) := by decide +kernel
theorem d_Way_finishChunk_26 : decode b_Way_finishChunk 26 = .ok (.iload_n 2, 1) := by decide +kernel
theorem d_Way_finishChunk_27 : decode b_Way_finishChunk 27 = .ok (.iconst 1, 1) := by decide +kernel
theorem d_Way_finishChunk_28 : decode b_Way_finishChunk 28 = .ok (.if_icmp .ne 7, 3) := by decide +kernel
theorem d_Way_finishChunk_31 : decode b_Way_finishChunk 31 = .ok (.aload_n 0, 1) := by decide +kernel
theorem d_Way_finishChunk_32 : decode b_Way_finishChunk 32 = .ok (.invokevirtual 57, 3) := by decide +kernel
theorem d_Way_finishChunk_35 : decode b_Way_finishChunk 35 = .ok (.aload_n 0, 1) := by decide +kernel
theorem d_Way_finishChunk_36 : decode b_Way_finishChunk 36 = .ok (.getfield 24, 3) := by decide +kernel
theorem d_Way_finishChunk_39 : decode b_Way_finishChunk 39 = .ok (.iconst 0, 1) := by decide +kernel
theorem d_Way_finishChunk_40 : decode b_Way_finishChunk 40 = .ok (.invokevirtual 60, 3) := by decide +kernel
theorem d_Way_finishChunk_43 : decode b_Way_finishChunk 43 = .ok (.aload_n 0, 1) := by decide +kernel
theorem d_Way_finishChunk_44 : decode b_Way_finishChunk 44 = .ok (.iconst 0, 1) := by decide +kernel
theorem d_Way_finishChunk_45 : decode b_Way_finishChunk 45 = .ok (.putfield 31, 3) := by decide +kernel
theorem d_Way_finishChunk_48 : decode b_Way_finishChunk 48 = .ok (.aload_n 0, 1) := by decide +kernel
theorem d_Way_finishChunk_49 : decode b_Way_finishChunk 49 = .ok (.iconst 0, 1) := by decide +kernel
theorem d_Way_finishChunk_50 : decode b_Way_finishChunk 50 = .ok (.putfield 34, 3) := by decide +kernel
theorem d_Way_finishChunk_53 : decode b_Way_finishChunk 53 = .ok (.aload_n 0, 1) := by decide +kernel
theorem d_Way_finishChunk_54 : decode b_Way_finishChunk 54 = .ok (.invokevirtual 63, 3) := by decide +kernel
theorem d_Way_finishChunk_57 : decode b_Way_finishChunk 57 = .ok (.iload_n 2, 1) := by decide +kernel
theorem d_Way_finishChunk_58 : decode b_Way_finishChunk 58 = .ok (.ireturn, 1) := by decide +kernel
theorem d_Way_judge_0 : decode b_Way_judge 0 = .ok (.aload_n 0, 1) := by decide +kernel
theorem d_Way_judge_1 : decode b_Way_judge 1 = .ok (.getfield 34, 3) := by decide +kernel
theorem d_Way_judge_4 : decode b_Way_judge 4 = .ok (.ifCond .ne 12, 3) := by decide +kernel
theorem d_Way_judge_7 : decode b_Way_judge 7 = .ok (.aload_n 0, 1) := by decide +kernel
theorem d_Way_judge_8 : decode b_Way_judge 8 = .ok (.getfield 15, 3) := by decide +kernel
theorem d_Way_judge_11 : decode b_Way_judge 11 = .ok (.ifCond .ne 5, 3) := by decide +kernel
theorem d_Way_judge_14 : decode b_Way_judge 14 = .ok (.iconst 0, 1) := by decide +kernel
theorem d_Way_judge_15 : decode b_Way_judge 15 = .ok (.ireturn, 1) := by decide +kernel
theorem d_Way_judge_16 : decode b_Way_judge 16 = .ok (.aload_n 0, 1) := by decide +kernel
theorem d_Way_judge_17 : decode b_Way_judge 17 = .ok (.getfield 31, 3) := by decide +kernel
theorem d_Way_judge_20 : decode b_Way_judge 20 = .ok (.ifCond .ne 10, 3) := by decide +kernel
theorem d_Way_judge_23 : decode b_Way_judge 23 = .ok (.aload_n 0, 1) := by decide +kernel
theorem d_Way_judge_24 : decode b_Way_judge 24 = .ok (.invokevirtual 66, 3) := by decide +kernel
theorem d_Way_judge_27 : decode b_Way_judge 27 = .ok (.ifCond .ne 5, 3) := by decide +kernel
theorem d_Way_judge_30 : decode b_Way_judge 30 = .ok (.iconst 2, 1) := by decide +kernel
theorem d_Way_judge_31 : decode b_Way_judge 31 = .ok (.ireturn, 1) := by decide +kernel
theorem d_Way_judge_32 : decode b_Way_judge 32 = .ok (.aload_n 0, 1) := by decide +kernel
theorem d_Way_judge_33 : decode b_Way_judge 33 = .ok (.getfield 24, 3) := by decide +kernel
theorem d_Way_judge_36 : decode b_Way_judge 36 = .ok (.getfield 70, 3) := by decide +kernel
theorem d_Way_judge_39 : decode b_Way_judge 39 = .ok (.ifCond .ne 14, 3) := by decide +kernel
theorem d_Way_judge_42 : decode b_Way_judge 42 = .ok (.aload_n 0, 1) := by decide +kernel
theorem d_Way_judge_43 : decode b_Way_judge 43 = .ok (.getfield 24, 3) := by decide +kernel
theorem d_Way_judge_46 : decode b_Way_judge 46 = .ok (.getfield 51, 3) := by decide +kernel
theorem d_Way_judge_49 : decode b_Way_judge 49 = .ok (.iload_n 1, 1) := by decide +kernel
theorem d_Way_judge_50 : decode b_Way_judge 50 = .ok (.if_icmp .le 7, 3) := by decide +kernel
theorem d_Way_judge_53 : decode b_Way_judge 53 = .ok (.iconst 3, 1) := by decide +kernel
theorem d_Way_judge_54 : decode b_Way_judge 54 = .ok (.goto 4, 3) := by decide +kernel
theorem d_Way_judge_57 : decode b_Way_judge 57 = .ok (.iconst 1, 1) := by decide +kernel
theorem d_Way_judge_58 : decode b_Way_judge 58 = .ok (.ireturn, 1) := by decide +kernel
theorem d_Way_keepPayload_0 : decode b_Way_keepPayload 0 = .ok (.aload_n 0, 1) := by decide +kernel
theorem d_Way_keepPayload_1 : decode b_Way_keepPayload 1 = .ok (.getfield 28, 3) := by decide +kernel
theorem d_Way_keepPayload_4 : decode b_Way_keepPayload 4 = .ok (.astore_n 1, 1) := by decide +kernel
theorem d_Way_keepPayload_5 : decode b_Way_keepPayload 5 = .ok (.aload_n 0, 1) := by decide +kernel
theorem d_Way_keepPayload_6 : decode b_Way_keepPayload 6 = .ok (.aload_n 0, 1) := by decide +kernel
theorem d_Way_keepPayload_7 : decode b_Way_keepPayload 7 = .ok (.getfield 24, 3) := by decide +kernel
theorem d_Way_keepPayload_10 : decode b_Way_keepPayload 10 = .ok (.putfield 28, 3) := by decide +kernel
theorem d_Way_keepPayload_13 : decode b_Way_keepPayload 13 = .ok (.aload_n 0, 1) := by decide +kernel
theorem d_Way_keepPayload_14 : decode b_Way_keepPayload 14 = .ok (.aload_n 1, 1) := by decide +kernel
theorem d_Way_keepPayload_15 : decode b_Way_keepPayload 15 = .ok (.putfield 24, 3) := by decide +kernel
theorem d_Way_keepPayload_18 : decode b_Way_keepPayload 18 = .ok (.aload_n 0, 1) := by decide +kernel
theorem d_Way_keepPayload_19 : decode b_Way_keepPayload 19 = .ok (.iconst 1, 1) := by decide +kernel
theorem d_Way_keepPayload_20 : decode b_Way_keepPayload 20 = .ok (.putfield 37, 3) := by decide +kernel
theorem d_Way_keepPayload_23 : decode b_Way_keepPayload 23 = .ok (.return_, 1) := by decide +kernel
end
section
/-! Helpers: one row for an entry, a call, a return. The words that are kept beside the tables' list stand in ft_nw. -/
def ft_isN (w : Cond) : Bool := match w with
  | .fieldLinkNest .. => true
  | .methodLinkNest .. => true
  | .declares _ => true
  | .castable _ _ => true
  | .arrayOver (.object _) => true
  | _ => false
def ft_N (nw : List Cond) (U : State) : Prop := ∀ w ∈ nw, va_Nw w U
theorem ft_N_warm {nw : List Cond} {s U : State} (hn : nw.all ft_isN = true) (hW : s.WarmedH U.vm) (h : ft_N nw s) : ft_N nw U := by
  intro w hw
  have h1 := List.all_eq_true.mp hn w hw
  have h2 := h w hw
  unfold ft_isN at h1
  split at h1
  · exact va_Nw.warmF hW h2
  · exact va_Nw.warmM hW h2
  · exact va_Nw.warmD hW h2
  · exact va_Nw.warmC hW h2
  · exact va_AO.moved hW.alike h2
  · cases h1
theorem ft_N_same {nw : List Cond} {s U : State} (hn : nw.all ft_isN = true) (hv : s.vm = U.vm) (h : ft_N nw s) : ft_N nw U := by
  intro w hw
  have h1 := List.all_eq_true.mp hn w hw
  have h2 := h w hw
  unfold ft_isN at h1
  split at h1
  · exact va_Nw.same rfl hv h2
  · exact va_Nw.same rfl hv h2
  · exact va_Nw.same rfl hv h2
  · exact va_Nw.same rfl hv h2
  · exact va_AO.moved (by rw [← hv]; exact Vm.Alike.refl s.vm) h2
  · cases h1
/-! the words: the tables', with 'selects' of the private methods of Way on the objects of its three classes -/
def ft_ext : List Cond := [Cond.selects R_CW ⟨R_Way, "finishChunk", "(I)I"⟩ ⟨R_Way, "finishChunk", "(I)I"⟩, Cond.selects R_EW ⟨R_Way, "finishChunk", "(I)I"⟩ ⟨R_Way, "finishChunk", "(I)I"⟩, Cond.selects R_GW ⟨R_Way, "finishChunk", "(I)I"⟩ ⟨R_Way, "finishChunk", "(I)I"⟩, Cond.selects R_CW ⟨R_Way, "judge", "(I)I"⟩ ⟨R_Way, "judge", "(I)I"⟩, Cond.selects R_EW ⟨R_Way, "judge", "(I)I"⟩ ⟨R_Way, "judge", "(I)I"⟩, Cond.selects R_GW ⟨R_Way, "judge", "(I)I"⟩ ⟨R_Way, "judge", "(I)I"⟩, Cond.selects R_CW ⟨R_Way, "keepPayload", "()V"⟩ ⟨R_Way, "keepPayload", "()V"⟩, Cond.selects R_EW ⟨R_Way, "keepPayload", "()V"⟩ ⟨R_Way, "keepPayload", "()V"⟩, Cond.selects R_GW ⟨R_Way, "keepPayload", "()V"⟩ ⟨R_Way, "keepPayload", "()V"⟩]
def ft_tbl : List Cond := ft_ext ++ lw_tbl
def ft_big : List Cond := ft_tbl.filter goodWord
def ft_nw : List Cond := lw_tbl.filter ft_isN
theorem ft_nw_ok : ft_nw.all ft_isN = true := by
  rw [List.all_eq_true]
  intro w hw
  exact (List.mem_filter.mp hw).2
theorem ft_big_good : ∀ w ∈ ft_big, (w.onTables && w.keeps) = true ∨ ∃ ty, w = .arrayClass ty := fun w hw => good_of_word (List.mem_filter.mp hw).2
theorem ft_in {w : Cond} (i : Nat) (h : ft_tbl[i]? = some w) (hg : goodWord w = true) : w ∈ ft_big := List.mem_filter.mpr ⟨List.mem_of_getElem? h, hg⟩
theorem ft_inN {w : Cond} (i : Nat) (h : lw_tbl[i]? = some w) (hg : ft_isN w = true) : w ∈ ft_nw := List.mem_filter.mpr ⟨List.mem_of_getElem? h, hg⟩
theorem bw_0 : (.selects R_CW y_Way_finishChunk y_Way_finishChunk : Cond) ∈ ft_big := ft_in 0 (by decide +kernel) rfl
theorem bw_1 : (.selects R_EW y_Way_finishChunk y_Way_finishChunk : Cond) ∈ ft_big := ft_in 1 (by decide +kernel) rfl
theorem bw_2 : (.selects R_GW y_Way_finishChunk y_Way_finishChunk : Cond) ∈ ft_big := ft_in 2 (by decide +kernel) rfl
theorem bw_3 : (.selects R_CW y_Way_judge y_Way_judge : Cond) ∈ ft_big := ft_in 3 (by decide +kernel) rfl
theorem bw_4 : (.selects R_EW y_Way_judge y_Way_judge : Cond) ∈ ft_big := ft_in 4 (by decide +kernel) rfl
theorem bw_5 : (.selects R_GW y_Way_judge y_Way_judge : Cond) ∈ ft_big := ft_in 5 (by decide +kernel) rfl
theorem bw_6 : (.selects R_CW y_Way_keepPayload y_Way_keepPayload : Cond) ∈ ft_big := ft_in 6 (by decide +kernel) rfl
theorem bw_7 : (.selects R_EW y_Way_keepPayload y_Way_keepPayload : Cond) ∈ ft_big := ft_in 7 (by decide +kernel) rfl
theorem bw_8 : (.selects R_GW y_Way_keepPayload y_Way_keepPayload : Cond) ∈ ft_big := ft_in 8 (by decide +kernel) rfl
theorem bw_9 : (.selects R_FT y_FT_appendToTape y_FT_appendToTape : Cond) ∈ ft_big := ft_in 9 (by decide +kernel) rfl
theorem bw_10 : (.selects R_FT y_FT_wayOf y_FT_wayOf : Cond) ∈ ft_big := ft_in 10 (by decide +kernel) rfl
theorem bw_11 : (.selects R_FT y_FT_mayTell y_FT_mayTell : Cond) ∈ ft_big := ft_in 11 (by decide +kernel) rfl
theorem bw_12 : (.selects R_FT y_FT_writeFrame y_FT_writeFrame : Cond) ∈ ft_big := ft_in 12 (by decide +kernel) rfl
theorem bw_13 : (.selects R_Row y_Row_holds y_Row_holds : Cond) ∈ ft_big := ft_in 13 (by decide +kernel) rfl
theorem bw_14 : (.selects R_CW y_CW_hold y_CW_hold : Cond) ∈ ft_big := ft_in 14 (by decide +kernel) rfl
theorem bw_15 : (.selects R_EW y_EW_decodeEscaped y_EW_decodeEscaped : Cond) ∈ ft_big := ft_in 15 (by decide +kernel) rfl
theorem bw_16 : (.selects R_GW y_GW_beginGroup y_GW_beginGroup : Cond) ∈ ft_big := ft_in 16 (by decide +kernel) rfl
theorem bw_17 : (.selects R_FT y_FT_drain y_FT_drain : Cond) ∈ ft_big := ft_in 17 (by decide +kernel) rfl
theorem bw_32 : (.initialized R_FT : Cond) ∈ ft_big := ft_in 32 (by decide +kernel) rfl
theorem bw_33 : (.initialized R_Row : Cond) ∈ ft_big := ft_in 33 (by decide +kernel) rfl
theorem bw_34 : (.initialized "java/lang/Math" : Cond) ∈ ft_big := ft_in 34 (by decide +kernel) rfl
theorem bw_35 : (.initialized R_Way : Cond) ∈ ft_big := ft_in 35 (by decide +kernel) rfl
theorem bw_36 : (.initialized R_GW : Cond) ∈ ft_big := ft_in 36 (by decide +kernel) rfl
theorem bw_37 : (.initialized R_EW : Cond) ∈ ft_big := ft_in 37 (by decide +kernel) rfl
theorem bw_38 : (.initialized R_CW : Cond) ∈ ft_big := ft_in 38 (by decide +kernel) rfl
theorem bw_45 : (.methodLink R_FT 1 objectInit : Cond) ∈ ft_big := ft_in 45 (by decide +kernel) rfl
theorem bw_46 : (.instanceMethod objectInit : Cond) ∈ ft_big := ft_in 46 (by decide +kernel) rfl
theorem bw_47 : (.code objectInit ⟨#[0xb1]⟩ 1 none : Cond) ∈ ft_big := ft_in 47 rfl rfl
theorem bw_48 : (.classLink R_FT 7 R_Row : Cond) ∈ ft_big := ft_in 48 (by decide +kernel) rfl
theorem bw_49 : (.instantiable R_Row 3 : Cond) ∈ ft_big := ft_in 49 (by decide +kernel) rfl
theorem bw_50 : (.methodLink R_FT 11 y_Row_init : Cond) ∈ ft_big := ft_in 50 (by decide +kernel) rfl
theorem bw_51 : (.instanceMethod y_Row_init : Cond) ∈ ft_big := ft_in 51 (by decide +kernel) rfl
theorem bw_52 : (.code y_Row_init b_Row_init 2 none : Cond) ∈ ft_big := ft_in 52 rfl rfl
theorem bw_53 : (.methodLink R_Row 3 objectInit : Cond) ∈ ft_big := ft_in 53 (by decide +kernel) rfl
theorem bw_54 : (.methodLink R_Row 9 Lib.Math.max.name : Cond) ∈ ft_big := ft_in 54 (by decide +kernel) rfl
theorem bw_55 : (.static Lib.Math.max.name : Cond) ∈ ft_big := ft_in 55 (by decide +kernel) rfl
theorem bw_56 : (.code Lib.Math.max.name Lib.Math.max.code 2 (some .int) : Cond) ∈ ft_big := ft_in 56 rfl rfl
theorem bw_57 : (.fieldLink R_Row 15 "FramingTrio$Row" "bytes" "[I" : Cond) ∈ ft_big := ft_in 57 (by decide +kernel) rfl
theorem bw_58 : (.fieldLink R_Row 21 "FramingTrio$Row" "size" "I" : Cond) ∈ ft_big := ft_in 58 (by decide +kernel) rfl
theorem bw_64 : (.fieldLink R_Row 25 "FramingTrio$Row" "spilt" "Z" : Cond) ∈ ft_big := ft_in 64 (by decide +kernel) rfl
theorem bw_74 : (.arrayClass .int : Cond) ∈ ft_big := ft_in 74 (by decide +kernel) rfl
theorem bw_75 : (.classLink R_FT 21 R_Way : Cond) ∈ ft_big := ft_in 75 (by decide +kernel) rfl
theorem bw_77 : (.classLink R_FT 23 R_GW : Cond) ∈ ft_big := ft_in 77 (by decide +kernel) rfl
theorem bw_78 : (.instantiable R_GW 10 : Cond) ∈ ft_big := ft_in 78 (by decide +kernel) rfl
theorem bw_79 : (.methodLink R_FT 25 y_GW_init : Cond) ∈ ft_big := ft_in 79 (by decide +kernel) rfl
theorem bw_80 : (.instanceMethod y_GW_init : Cond) ∈ ft_big := ft_in 80 (by decide +kernel) rfl
theorem bw_81 : (.code y_GW_init b_GW_init 1 none : Cond) ∈ ft_big := ft_in 81 rfl rfl
theorem bw_82 : (.methodLink R_GW 3 y_Way_init : Cond) ∈ ft_big := ft_in 82 (by decide +kernel) rfl
theorem bw_83 : (.instanceMethod y_Way_init : Cond) ∈ ft_big := ft_in 83 (by decide +kernel) rfl
theorem bw_84 : (.code y_Way_init b_Way_init 3 none : Cond) ∈ ft_big := ft_in 84 rfl rfl
theorem bw_85 : (.methodLink R_Way 3 objectInit : Cond) ∈ ft_big := ft_in 85 (by decide +kernel) rfl
theorem bw_86 : (.classLink R_Way 19 R_Row : Cond) ∈ ft_big := ft_in 86 (by decide +kernel) rfl
theorem bw_87 : (.methodLink R_Way 21 y_Row_init : Cond) ∈ ft_big := ft_in 87 (by decide +kernel) rfl
theorem bw_88 : (.fieldLink R_GW 9 "FramingTrio$GroupedWay" "header" "I" : Cond) ∈ ft_big := ft_in 88 (by decide +kernel) rfl
theorem bw_89 : (.fieldLink R_GW 13 "FramingTrio$GroupedWay" "missing" "I" : Cond) ∈ ft_big := ft_in 89 (by decide +kernel) rfl
theorem bw_90 : (.fieldLink R_Way 9 "FramingTrio$Way" "mark" "I" : Cond) ∈ ft_big := ft_in 90 (by decide +kernel) rfl
theorem bw_91 : (.fieldLink R_Way 15 "FramingTrio$Way" "hasEmptyFrames" "Z" : Cond) ∈ ft_big := ft_in 91 (by decide +kernel) rfl
theorem bw_92 : (.fieldLink R_FT 89 "FramingTrio$Way" "hasEmptyFrames" "Z" : Cond) ∈ ft_big := ft_in 92 (by decide +kernel) rfl
theorem bw_93 : (.fieldLink R_Way 24 "FramingTrio$Way" "payload" "LFramingTrio$Row;" : Cond) ∈ ft_big := ft_in 93 (by decide +kernel) rfl
theorem bw_94 : (.fieldLink R_GW 33 "FramingTrio$GroupedWay" "payload" "LFramingTrio$Row;" : Cond) ∈ ft_big := ft_in 94 (by decide +kernel) rfl
theorem bw_95 : (.sameField "FramingTrio$GroupedWay" "FramingTrio$Way" "payload" "LFramingTrio$Row;" : Cond) ∈ ft_big := ft_in 95 (by decide +kernel) rfl
theorem bw_96 : (.fieldLink R_EW 34 "FramingTrio$EscapedWay" "payload" "LFramingTrio$Row;" : Cond) ∈ ft_big := ft_in 96 (by decide +kernel) rfl
theorem bw_97 : (.sameField "FramingTrio$EscapedWay" "FramingTrio$Way" "payload" "LFramingTrio$Row;" : Cond) ∈ ft_big := ft_in 97 (by decide +kernel) rfl
theorem bw_98 : (.fieldLink R_CW 60 "FramingTrio$CheckedWay" "payload" "LFramingTrio$Row;" : Cond) ∈ ft_big := ft_in 98 (by decide +kernel) rfl
theorem bw_99 : (.sameField "FramingTrio$CheckedWay" "FramingTrio$Way" "payload" "LFramingTrio$Row;" : Cond) ∈ ft_big := ft_in 99 (by decide +kernel) rfl
theorem bw_100 : (.fieldLink R_Way 28 "FramingTrio$Way" "kept" "LFramingTrio$Row;" : Cond) ∈ ft_big := ft_in 100 (by decide +kernel) rfl
theorem bw_101 : (.fieldLink R_FT 80 "FramingTrio$Way" "kept" "LFramingTrio$Row;" : Cond) ∈ ft_big := ft_in 101 (by decide +kernel) rfl
theorem bw_102 : (.fieldLink R_Way 31 "FramingTrio$Way" "broken" "Z" : Cond) ∈ ft_big := ft_in 102 (by decide +kernel) rfl
theorem bw_103 : (.fieldLink R_EW 38 "FramingTrio$EscapedWay" "broken" "Z" : Cond) ∈ ft_big := ft_in 103 (by decide +kernel) rfl
theorem bw_104 : (.sameField "FramingTrio$EscapedWay" "FramingTrio$Way" "broken" "Z" : Cond) ∈ ft_big := ft_in 104 (by decide +kernel) rfl
theorem bw_105 : (.fieldLink R_CW 54 "FramingTrio$CheckedWay" "broken" "Z" : Cond) ∈ ft_big := ft_in 105 (by decide +kernel) rfl
theorem bw_106 : (.sameField "FramingTrio$CheckedWay" "FramingTrio$Way" "broken" "Z" : Cond) ∈ ft_big := ft_in 106 (by decide +kernel) rfl
theorem bw_107 : (.fieldLink R_Way 34 "FramingTrio$Way" "begun" "Z" : Cond) ∈ ft_big := ft_in 107 (by decide +kernel) rfl
theorem bw_108 : (.fieldLink R_Way 37 "FramingTrio$Way" "hasKept" "Z" : Cond) ∈ ft_big := ft_in 108 (by decide +kernel) rfl
theorem bw_109 : (.fieldLink R_Way 40 "FramingTrio$Way" "tallies" "[I" : Cond) ∈ ft_big := ft_in 109 (by decide +kernel) rfl
theorem bw_131 : (.classLink R_FT 26 R_EW : Cond) ∈ ft_big := ft_in 131 (by decide +kernel) rfl
theorem bw_132 : (.instantiable R_EW 9 : Cond) ∈ ft_big := ft_in 132 (by decide +kernel) rfl
theorem bw_133 : (.methodLink R_FT 28 y_EW_init : Cond) ∈ ft_big := ft_in 133 (by decide +kernel) rfl
theorem bw_134 : (.instanceMethod y_EW_init : Cond) ∈ ft_big := ft_in 134 (by decide +kernel) rfl
theorem bw_135 : (.code y_EW_init b_EW_init 1 none : Cond) ∈ ft_big := ft_in 135 rfl rfl
theorem bw_136 : (.methodLink R_EW 3 y_Way_init : Cond) ∈ ft_big := ft_in 136 (by decide +kernel) rfl
theorem bw_137 : (.fieldLink R_EW 9 "FramingTrio$EscapedWay" "escaping" "Z" : Cond) ∈ ft_big := ft_in 137 (by decide +kernel) rfl
theorem bw_149 : (.classLink R_FT 29 R_CW : Cond) ∈ ft_big := ft_in 149 (by decide +kernel) rfl
theorem bw_150 : (.instantiable R_CW 13 : Cond) ∈ ft_big := ft_in 150 (by decide +kernel) rfl
theorem bw_151 : (.methodLink R_FT 31 y_CW_init : Cond) ∈ ft_big := ft_in 151 (by decide +kernel) rfl
theorem bw_152 : (.instanceMethod y_CW_init : Cond) ∈ ft_big := ft_in 152 (by decide +kernel) rfl
theorem bw_153 : (.code y_CW_init b_CW_init 1 none : Cond) ∈ ft_big := ft_in 153 rfl rfl
theorem bw_154 : (.methodLink R_CW 5 y_Way_init : Cond) ∈ ft_big := ft_in 154 (by decide +kernel) rfl
theorem bw_155 : (.constant R_CW 15 65535 : Cond) ∈ ft_big := ft_in 155 (by decide +kernel) rfl
theorem bw_156 : (.fieldLink R_CW 11 "FramingTrio$CheckedWay" "escaping" "Z" : Cond) ∈ ft_big := ft_in 156 (by decide +kernel) rfl
theorem bw_157 : (.fieldLink R_CW 16 "FramingTrio$CheckedWay" "check" "I" : Cond) ∈ ft_big := ft_in 157 (by decide +kernel) rfl
theorem bw_158 : (.fieldLink R_CW 20 "FramingTrio$CheckedWay" "held" "I" : Cond) ∈ ft_big := ft_in 158 (by decide +kernel) rfl
theorem bw_159 : (.fieldLink R_CW 23 "FramingTrio$CheckedWay" "older" "I" : Cond) ∈ ft_big := ft_in 159 (by decide +kernel) rfl
theorem bw_160 : (.fieldLink R_CW 26 "FramingTrio$CheckedWay" "newer" "I" : Cond) ∈ ft_big := ft_in 160 (by decide +kernel) rfl
theorem bw_180 : (.fieldLink R_FT 14 "FramingTrio" "tape" "LFramingTrio$Row;" : Cond) ∈ ft_big := ft_in 180 (by decide +kernel) rfl
theorem bw_181 : (.fieldLink R_FT 18 "FramingTrio" "stream" "LFramingTrio$Row;" : Cond) ∈ ft_big := ft_in 181 (by decide +kernel) rfl
theorem bw_182 : (.fieldLink R_FT 32 "FramingTrio" "ways" "[LFramingTrio$Way;" : Cond) ∈ ft_big := ft_in 182 (by decide +kernel) rfl
theorem bw_183 : (.fieldLink R_FT 36 "FramingTrio" "most" "I" : Cond) ∈ ft_big := ft_in 183 (by decide +kernel) rfl
theorem bw_197 : (.methodLink R_FT 43 y_FT_appendToTape : Cond) ∈ ft_big := ft_in 197 (by decide +kernel) rfl
theorem bw_199 : (.instanceMethod y_FT_appendToTape : Cond) ∈ ft_big := ft_in 199 (by decide +kernel) rfl
theorem bw_200 : (.code y_FT_appendToTape b_FT_appendToTape 3 none : Cond) ∈ ft_big := ft_in 200 rfl rfl
theorem bw_201 : (.methodLink R_FT 86 y_Row_put : Cond) ∈ ft_big := ft_in 201 (by decide +kernel) rfl
theorem bw_202 : (.instanceMethod y_Row_put : Cond) ∈ ft_big := ft_in 202 (by decide +kernel) rfl
theorem bw_203 : (.selects R_Row y_Row_put y_Row_put : Cond) ∈ ft_big := ft_in 203 (by decide +kernel) rfl
theorem bw_204 : (.code y_Row_put b_Row_put 2 none : Cond) ∈ ft_big := ft_in 204 rfl rfl
theorem bw_209 : (.methodLink R_FT 46 y_Row_cutTo : Cond) ∈ ft_big := ft_in 209 (by decide +kernel) rfl
theorem bw_210 : (.instanceMethod y_Row_cutTo : Cond) ∈ ft_big := ft_in 210 (by decide +kernel) rfl
theorem bw_211 : (.selects R_Row y_Row_cutTo y_Row_cutTo : Cond) ∈ ft_big := ft_in 211 (by decide +kernel) rfl
theorem bw_212 : (.code y_Row_cutTo b_Row_cutTo 2 none : Cond) ∈ ft_big := ft_in 212 rfl rfl
theorem bw_221 : (.methodLink R_FT 49 y_FT_wayOf : Cond) ∈ ft_big := ft_in 221 (by decide +kernel) rfl
theorem bw_223 : (.instanceMethod y_FT_wayOf : Cond) ∈ ft_big := ft_in 223 (by decide +kernel) rfl
theorem bw_224 : (.code y_FT_wayOf b_FT_wayOf 2 (some (.object "FramingTrio$Way")) : Cond) ∈ ft_big := ft_in 224 rfl rfl
theorem bw_225 : (.methodLink R_FT 53 y_FT_mayTell : Cond) ∈ ft_big := ft_in 225 (by decide +kernel) rfl
theorem bw_227 : (.instanceMethod y_FT_mayTell : Cond) ∈ ft_big := ft_in 227 (by decide +kernel) rfl
theorem bw_228 : (.code y_FT_mayTell b_FT_mayTell 2 (some .boolean) : Cond) ∈ ft_big := ft_in 228 rfl rfl
theorem bw_229 : (.methodLink R_FT 57 y_FT_writeFrame : Cond) ∈ ft_big := ft_in 229 (by decide +kernel) rfl
theorem bw_231 : (.instanceMethod y_FT_writeFrame : Cond) ∈ ft_big := ft_in 231 (by decide +kernel) rfl
theorem bw_232 : (.code y_FT_writeFrame b_FT_writeFrame 4 (some .boolean) : Cond) ∈ ft_big := ft_in 232 rfl rfl
theorem bw_233 : (.methodLink R_FT 93 ⟨R_Way, "frame", "(LFramingTrio$Row;LFramingTrio$Row;)V"⟩ : Cond) ∈ ft_big := ft_in 233 (by decide +kernel) rfl
theorem bw_235 : (.sameMethod "FramingTrio$Way" "FramingTrio$Way" "frame" "(LFramingTrio$Row;LFramingTrio$Row;)V" : Cond) ∈ ft_big := ft_in 235 (by decide +kernel) rfl
theorem bw_236 : (.selects R_CW ⟨R_Way, "frame", "(LFramingTrio$Row;LFramingTrio$Row;)V"⟩ y_CW_frame : Cond) ∈ ft_big := ft_in 236 (by decide +kernel) rfl
theorem bw_237 : (.instanceMethod y_CW_frame : Cond) ∈ ft_big := ft_in 237 (by decide +kernel) rfl
theorem bw_238 : (.code y_CW_frame b_CW_frame 7 none : Cond) ∈ ft_big := ft_in 238 rfl rfl
theorem bw_239 : (.methodLink R_CW 34 y_Row_byteAt : Cond) ∈ ft_big := ft_in 239 (by decide +kernel) rfl
theorem bw_240 : (.instanceMethod y_Row_byteAt : Cond) ∈ ft_big := ft_in 240 (by decide +kernel) rfl
theorem bw_241 : (.selects R_Row y_Row_byteAt y_Row_byteAt : Cond) ∈ ft_big := ft_in 241 (by decide +kernel) rfl
theorem bw_242 : (.code y_Row_byteAt b_Row_byteAt 2 (some .int) : Cond) ∈ ft_big := ft_in 242 rfl rfl
theorem bw_243 : (.methodLink R_Row 29 y_Row_holds : Cond) ∈ ft_big := ft_in 243 (by decide +kernel) rfl
theorem bw_245 : (.instanceMethod y_Row_holds : Cond) ∈ ft_big := ft_in 245 (by decide +kernel) rfl
theorem bw_246 : (.code y_Row_holds b_Row_holds 2 (some .boolean) : Cond) ∈ ft_big := ft_in 246 rfl rfl
theorem bw_247 : (.methodLink R_CW 38 y_CW_addToCheck : Cond) ∈ ft_big := ft_in 247 (by decide +kernel) rfl
theorem bw_248 : (.static y_CW_addToCheck : Cond) ∈ ft_big := ft_in 248 (by decide +kernel) rfl
theorem bw_249 : (.code y_CW_addToCheck b_CW_addToCheck 4 (some .int) : Cond) ∈ ft_big := ft_in 249 rfl rfl
theorem bw_250 : (.constant R_CW 53 33800 : Cond) ∈ ft_big := ft_in 250 (by decide +kernel) rfl
theorem bw_251 : (.methodLink R_CW 42 y_CW_writeByte : Cond) ∈ ft_big := ft_in 251 (by decide +kernel) rfl
theorem bw_252 : (.static y_CW_writeByte : Cond) ∈ ft_big := ft_in 252 (by decide +kernel) rfl
theorem bw_253 : (.code y_CW_writeByte b_CW_writeByte 2 none : Cond) ∈ ft_big := ft_in 253 rfl rfl
theorem bw_254 : (.methodLink R_CW 49 y_Row_put : Cond) ∈ ft_big := ft_in 254 (by decide +kernel) rfl
theorem bw_255 : (.methodLink R_CW 46 y_CW_finishedCheck : Cond) ∈ ft_big := ft_in 255 (by decide +kernel) rfl
theorem bw_256 : (.static y_CW_finishedCheck : Cond) ∈ ft_big := ft_in 256 (by decide +kernel) rfl
theorem bw_257 : (.code y_CW_finishedCheck b_CW_finishedCheck 1 (some .int) : Cond) ∈ ft_big := ft_in 257 rfl rfl
theorem bw_258 : (.selects R_EW ⟨R_Way, "frame", "(LFramingTrio$Row;LFramingTrio$Row;)V"⟩ y_EW_frame : Cond) ∈ ft_big := ft_in 258 (by decide +kernel) rfl
theorem bw_259 : (.instanceMethod y_EW_frame : Cond) ∈ ft_big := ft_in 259 (by decide +kernel) rfl
theorem bw_260 : (.code y_EW_frame b_EW_frame 5 none : Cond) ∈ ft_big := ft_in 260 rfl rfl
theorem bw_261 : (.methodLink R_EW 19 y_Row_byteAt : Cond) ∈ ft_big := ft_in 261 (by decide +kernel) rfl
theorem bw_262 : (.methodLink R_EW 23 y_EW_writeByte : Cond) ∈ ft_big := ft_in 262 (by decide +kernel) rfl
theorem bw_263 : (.static y_EW_writeByte : Cond) ∈ ft_big := ft_in 263 (by decide +kernel) rfl
theorem bw_264 : (.code y_EW_writeByte b_EW_writeByte 2 none : Cond) ∈ ft_big := ft_in 264 rfl rfl
theorem bw_265 : (.methodLink R_EW 27 y_Row_put : Cond) ∈ ft_big := ft_in 265 (by decide +kernel) rfl
theorem bw_266 : (.selects R_GW ⟨R_Way, "frame", "(LFramingTrio$Row;LFramingTrio$Row;)V"⟩ y_GW_frame : Cond) ∈ ft_big := ft_in 266 (by decide +kernel) rfl
theorem bw_267 : (.instanceMethod y_GW_frame : Cond) ∈ ft_big := ft_in 267 (by decide +kernel) rfl
theorem bw_268 : (.code y_GW_frame b_GW_frame 7 none : Cond) ∈ ft_big := ft_in 268 rfl rfl
theorem bw_269 : (.methodLink R_GW 21 y_Row_byteAt : Cond) ∈ ft_big := ft_in 269 (by decide +kernel) rfl
theorem bw_270 : (.methodLink R_GW 25 y_GW_writeGroup : Cond) ∈ ft_big := ft_in 270 (by decide +kernel) rfl
theorem bw_271 : (.static y_GW_writeGroup : Cond) ∈ ft_big := ft_in 271 (by decide +kernel) rfl
theorem bw_272 : (.code y_GW_writeGroup b_GW_writeGroup 5 none : Cond) ∈ ft_big := ft_in 272 rfl rfl
theorem bw_273 : (.methodLink R_GW 29 y_Row_put : Cond) ∈ ft_big := ft_in 273 (by decide +kernel) rfl
theorem bw_282 : (.methodLink R_FT 60 y_Row_byteAt : Cond) ∈ ft_big := ft_in 282 (by decide +kernel) rfl
theorem bw_287 : (.methodLink R_FT 64 y_Row_turn : Cond) ∈ ft_big := ft_in 287 (by decide +kernel) rfl
theorem bw_288 : (.instanceMethod y_Row_turn : Cond) ∈ ft_big := ft_in 288 (by decide +kernel) rfl
theorem bw_289 : (.selects R_Row y_Row_turn y_Row_turn : Cond) ∈ ft_big := ft_in 289 (by decide +kernel) rfl
theorem bw_290 : (.code y_Row_turn b_Row_turn 3 (some .boolean) : Cond) ∈ ft_big := ft_in 290 rfl rfl
theorem bw_295 : (.methodLink R_FT 68 y_Way_take : Cond) ∈ ft_big := ft_in 295 (by decide +kernel) rfl
theorem bw_296 : (.instanceMethod y_Way_take : Cond) ∈ ft_big := ft_in 296 (by decide +kernel) rfl
theorem bw_297 : (.sameMethod "FramingTrio$Way" "FramingTrio$Way" "take" "(II)I" : Cond) ∈ ft_big := ft_in 297 (by decide +kernel) rfl
theorem bw_298 : (.selects R_CW y_Way_take y_Way_take : Cond) ∈ ft_big := ft_in 298 (by decide +kernel) rfl
theorem bw_299 : (.selects R_EW y_Way_take y_Way_take : Cond) ∈ ft_big := ft_in 299 (by decide +kernel) rfl
theorem bw_300 : (.selects R_GW y_Way_take y_Way_take : Cond) ∈ ft_big := ft_in 300 (by decide +kernel) rfl
theorem bw_301 : (.code y_Way_take b_Way_take 3 (some .int) : Cond) ∈ ft_big := ft_in 301 rfl rfl
theorem bw_302 : (.methodLink R_Way 44 y_Way_finishChunk : Cond) ∈ ft_big := ft_in 302 (by decide +kernel) rfl
theorem bw_304 : (.instanceMethod y_Way_finishChunk : Cond) ∈ ft_big := ft_in 304 (by decide +kernel) rfl
theorem bw_305 : (.code y_Way_finishChunk b_Way_finishChunk 3 (some .int) : Cond) ∈ ft_big := ft_in 305 rfl rfl
theorem bw_306 : (.methodLink R_Way 54 y_Way_judge : Cond) ∈ ft_big := ft_in 306 (by decide +kernel) rfl
theorem bw_308 : (.instanceMethod y_Way_judge : Cond) ∈ ft_big := ft_in 308 (by decide +kernel) rfl
theorem bw_309 : (.code y_Way_judge b_Way_judge 2 (some .int) : Cond) ∈ ft_big := ft_in 309 rfl rfl
theorem bw_310 : (.methodLink R_Way 66 ⟨R_Way, "isWhole", "()Z"⟩ : Cond) ∈ ft_big := ft_in 310 (by decide +kernel) rfl
theorem bw_312 : (.sameMethod "FramingTrio$Way" "FramingTrio$Way" "isWhole" "()Z" : Cond) ∈ ft_big := ft_in 312 (by decide +kernel) rfl
theorem bw_313 : (.selects R_CW ⟨R_Way, "isWhole", "()Z"⟩ y_CW_isWhole : Cond) ∈ ft_big := ft_in 313 (by decide +kernel) rfl
theorem bw_314 : (.instanceMethod y_CW_isWhole : Cond) ∈ ft_big := ft_in 314 (by decide +kernel) rfl
theorem bw_315 : (.code y_CW_isWhole b_CW_isWhole 1 (some .boolean) : Cond) ∈ ft_big := ft_in 315 rfl rfl
theorem bw_316 : (.selects R_EW ⟨R_Way, "isWhole", "()Z"⟩ y_EW_isWhole : Cond) ∈ ft_big := ft_in 316 (by decide +kernel) rfl
theorem bw_317 : (.instanceMethod y_EW_isWhole : Cond) ∈ ft_big := ft_in 317 (by decide +kernel) rfl
theorem bw_318 : (.code y_EW_isWhole b_EW_isWhole 1 (some .boolean) : Cond) ∈ ft_big := ft_in 318 rfl rfl
theorem bw_319 : (.selects R_GW ⟨R_Way, "isWhole", "()Z"⟩ y_GW_isWhole : Cond) ∈ ft_big := ft_in 319 (by decide +kernel) rfl
theorem bw_320 : (.instanceMethod y_GW_isWhole : Cond) ∈ ft_big := ft_in 320 (by decide +kernel) rfl
theorem bw_321 : (.code y_GW_isWhole b_GW_isWhole 1 (some .boolean) : Cond) ∈ ft_big := ft_in 321 rfl rfl
theorem bw_322 : (.methodLink R_Way 57 y_Way_keepPayload : Cond) ∈ ft_big := ft_in 322 (by decide +kernel) rfl
theorem bw_324 : (.instanceMethod y_Way_keepPayload : Cond) ∈ ft_big := ft_in 324 (by decide +kernel) rfl
theorem bw_325 : (.code y_Way_keepPayload b_Way_keepPayload 2 none : Cond) ∈ ft_big := ft_in 325 rfl rfl
theorem bw_326 : (.methodLink R_Way 60 y_Row_cutTo : Cond) ∈ ft_big := ft_in 326 (by decide +kernel) rfl
theorem bw_327 : (.methodLink R_Way 63 ⟨R_Way, "forgetChunk", "()V"⟩ : Cond) ∈ ft_big := ft_in 327 (by decide +kernel) rfl
theorem bw_329 : (.sameMethod "FramingTrio$Way" "FramingTrio$Way" "forgetChunk" "()V" : Cond) ∈ ft_big := ft_in 329 (by decide +kernel) rfl
theorem bw_330 : (.selects R_CW ⟨R_Way, "forgetChunk", "()V"⟩ y_CW_forgetChunk : Cond) ∈ ft_big := ft_in 330 (by decide +kernel) rfl
theorem bw_331 : (.instanceMethod y_CW_forgetChunk : Cond) ∈ ft_big := ft_in 331 (by decide +kernel) rfl
theorem bw_332 : (.code y_CW_forgetChunk b_CW_forgetChunk 1 none : Cond) ∈ ft_big := ft_in 332 rfl rfl
theorem bw_333 : (.selects R_EW ⟨R_Way, "forgetChunk", "()V"⟩ y_EW_forgetChunk : Cond) ∈ ft_big := ft_in 333 (by decide +kernel) rfl
theorem bw_334 : (.instanceMethod y_EW_forgetChunk : Cond) ∈ ft_big := ft_in 334 (by decide +kernel) rfl
theorem bw_335 : (.code y_EW_forgetChunk b_EW_forgetChunk 1 none : Cond) ∈ ft_big := ft_in 335 rfl rfl
theorem bw_336 : (.selects R_GW ⟨R_Way, "forgetChunk", "()V"⟩ y_GW_forgetChunk : Cond) ∈ ft_big := ft_in 336 (by decide +kernel) rfl
theorem bw_337 : (.instanceMethod y_GW_forgetChunk : Cond) ∈ ft_big := ft_in 337 (by decide +kernel) rfl
theorem bw_338 : (.code y_GW_forgetChunk b_GW_forgetChunk 1 none : Cond) ∈ ft_big := ft_in 338 rfl rfl
theorem bw_339 : (.methodLink R_Way 48 ⟨R_Way, "decode", "(I)V"⟩ : Cond) ∈ ft_big := ft_in 339 (by decide +kernel) rfl
theorem bw_341 : (.sameMethod "FramingTrio$Way" "FramingTrio$Way" "decode" "(I)V" : Cond) ∈ ft_big := ft_in 341 (by decide +kernel) rfl
theorem bw_342 : (.selects R_CW ⟨R_Way, "decode", "(I)V"⟩ y_CW_decode : Cond) ∈ ft_big := ft_in 342 (by decide +kernel) rfl
theorem bw_343 : (.instanceMethod y_CW_decode : Cond) ∈ ft_big := ft_in 343 (by decide +kernel) rfl
theorem bw_344 : (.code y_CW_decode b_CW_decode 2 none : Cond) ∈ ft_big := ft_in 344 rfl rfl
theorem bw_345 : (.methodLink R_CW 57 y_CW_hold : Cond) ∈ ft_big := ft_in 345 (by decide +kernel) rfl
theorem bw_347 : (.instanceMethod y_CW_hold : Cond) ∈ ft_big := ft_in 347 (by decide +kernel) rfl
theorem bw_348 : (.code y_CW_hold b_CW_hold 2 none : Cond) ∈ ft_big := ft_in 348 rfl rfl
theorem bw_349 : (.selects R_EW ⟨R_Way, "decode", "(I)V"⟩ y_EW_decode : Cond) ∈ ft_big := ft_in 349 (by decide +kernel) rfl
theorem bw_350 : (.instanceMethod y_EW_decode : Cond) ∈ ft_big := ft_in 350 (by decide +kernel) rfl
theorem bw_351 : (.code y_EW_decode b_EW_decode 2 none : Cond) ∈ ft_big := ft_in 351 rfl rfl
theorem bw_352 : (.methodLink R_EW 31 y_EW_decodeEscaped : Cond) ∈ ft_big := ft_in 352 (by decide +kernel) rfl
theorem bw_354 : (.instanceMethod y_EW_decodeEscaped : Cond) ∈ ft_big := ft_in 354 (by decide +kernel) rfl
theorem bw_355 : (.code y_EW_decodeEscaped b_EW_decodeEscaped 2 none : Cond) ∈ ft_big := ft_in 355 rfl rfl
theorem bw_356 : (.selects R_GW ⟨R_Way, "decode", "(I)V"⟩ y_GW_decode : Cond) ∈ ft_big := ft_in 356 (by decide +kernel) rfl
theorem bw_357 : (.instanceMethod y_GW_decode : Cond) ∈ ft_big := ft_in 357 (by decide +kernel) rfl
theorem bw_358 : (.code y_GW_decode b_GW_decode 2 none : Cond) ∈ ft_big := ft_in 358 rfl rfl
theorem bw_359 : (.methodLink R_GW 37 y_GW_beginGroup : Cond) ∈ ft_big := ft_in 359 (by decide +kernel) rfl
theorem bw_361 : (.instanceMethod y_GW_beginGroup : Cond) ∈ ft_big := ft_in 361 (by decide +kernel) rfl
theorem bw_362 : (.code y_GW_beginGroup b_GW_beginGroup 2 none : Cond) ∈ ft_big := ft_in 362 rfl rfl
theorem bw_367 : (.methodLink R_FT 72 y_FT_drain : Cond) ∈ ft_big := ft_in 367 (by decide +kernel) rfl
theorem bw_369 : (.instanceMethod y_FT_drain : Cond) ∈ ft_big := ft_in 369 (by decide +kernel) rfl
theorem bw_370 : (.code y_FT_drain b_FT_drain 6 (some .int) : Cond) ∈ ft_big := ft_in 370 rfl rfl
theorem bw_379 : (.methodLink R_FT 76 y_Way_keptSize : Cond) ∈ ft_big := ft_in 379 (by decide +kernel) rfl
theorem bw_380 : (.instanceMethod y_Way_keptSize : Cond) ∈ ft_big := ft_in 380 (by decide +kernel) rfl
theorem bw_381 : (.sameMethod "FramingTrio$Way" "FramingTrio$Way" "keptSize" "()I" : Cond) ∈ ft_big := ft_in 381 (by decide +kernel) rfl
theorem bw_382 : (.selects R_CW y_Way_keptSize y_Way_keptSize : Cond) ∈ ft_big := ft_in 382 (by decide +kernel) rfl
theorem bw_383 : (.selects R_EW y_Way_keptSize y_Way_keptSize : Cond) ∈ ft_big := ft_in 383 (by decide +kernel) rfl
theorem bw_384 : (.selects R_GW y_Way_keptSize y_Way_keptSize : Cond) ∈ ft_big := ft_in 384 (by decide +kernel) rfl
theorem bw_385 : (.code y_Way_keptSize b_Way_keptSize 1 (some .int) : Cond) ∈ ft_big := ft_in 385 rfl rfl
theorem bw_394 : (.methodLink R_FT 83 y_Way_tally : Cond) ∈ ft_big := ft_in 394 (by decide +kernel) rfl
theorem bw_395 : (.instanceMethod y_Way_tally : Cond) ∈ ft_big := ft_in 395 (by decide +kernel) rfl
theorem bw_396 : (.sameMethod "FramingTrio$Way" "FramingTrio$Way" "tally" "(I)I" : Cond) ∈ ft_big := ft_in 396 (by decide +kernel) rfl
theorem bw_397 : (.selects R_CW y_Way_tally y_Way_tally : Cond) ∈ ft_big := ft_in 397 (by decide +kernel) rfl
theorem bw_398 : (.selects R_EW y_Way_tally y_Way_tally : Cond) ∈ ft_big := ft_in 398 (by decide +kernel) rfl
theorem bw_399 : (.selects R_GW y_Way_tally y_Way_tally : Cond) ∈ ft_big := ft_in 399 (by decide +kernel) rfl
theorem bw_400 : (.code y_Way_tally b_Way_tally 2 (some .int) : Cond) ∈ ft_big := ft_in 400 rfl rfl
theorem bw_584 : (.sameMethod "FramingTrio$Way" "FramingTrio$Way" "finishChunk" "(I)I" : Cond) ∈ ft_big := ft_in 584 (by decide +kernel) rfl
theorem bw_585 : (.sameMethod "FramingTrio$Way" "FramingTrio$Way" "judge" "(I)I" : Cond) ∈ ft_big := ft_in 585 (by decide +kernel) rfl
theorem bw_586 : (.sameMethod "FramingTrio$Way" "FramingTrio$Way" "keepPayload" "()V" : Cond) ∈ ft_big := ft_in 586 (by decide +kernel) rfl
theorem bn_59 : (.fieldLinkNest R_CW 29 "FramingTrio$Row" "size" "I" "FramingTrio" : Cond) ∈ ft_nw := ft_inN 50 (by decide +kernel) rfl
theorem bn_60 : (.fieldLinkNest R_EW 13 "FramingTrio$Row" "size" "I" "FramingTrio" : Cond) ∈ ft_nw := ft_inN 51 (by decide +kernel) rfl
theorem bn_61 : (.fieldLinkNest R_GW 16 "FramingTrio$Row" "size" "I" "FramingTrio" : Cond) ∈ ft_nw := ft_inN 52 (by decide +kernel) rfl
theorem bn_62 : (.fieldLinkNest R_FT 40 "FramingTrio$Row" "size" "I" "FramingTrio" : Cond) ∈ ft_nw := ft_inN 53 (by decide +kernel) rfl
theorem bn_63 : (.fieldLinkNest R_Way 51 "FramingTrio$Row" "size" "I" "FramingTrio" : Cond) ∈ ft_nw := ft_inN 54 (by decide +kernel) rfl
theorem bn_65 : (.fieldLinkNest R_Way 70 "FramingTrio$Row" "spilt" "Z" "FramingTrio" : Cond) ∈ ft_nw := ft_inN 56 (by decide +kernel) rfl
theorem bn_66 : (.fieldLinkNest R_FT 97 "FramingTrio$Row" "spilt" "Z" "FramingTrio" : Cond) ∈ ft_nw := ft_inN 57 (by decide +kernel) rfl
theorem bn_76 : (.arrayOver (.object R_Way) : Cond) ∈ ft_nw := ft_inN 67 (by decide +kernel) rfl
theorem bn_234 : (.declares ⟨R_Way, "frame", "(LFramingTrio$Row;LFramingTrio$Row;)V"⟩ : Cond) ∈ ft_nw := ft_inN 225 (by decide +kernel) rfl
theorem bn_311 : (.declares ⟨R_Way, "isWhole", "()Z"⟩ : Cond) ∈ ft_nw := ft_inN 302 (by decide +kernel) rfl
theorem bn_328 : (.declares ⟨R_Way, "forgetChunk", "()V"⟩ : Cond) ∈ ft_nw := ft_inN 319 (by decide +kernel) rfl
theorem bn_340 : (.declares ⟨R_Way, "decode", "(I)V"⟩ : Cond) ∈ ft_nw := ft_inN 331 (by decide +kernel) rfl
theorem bn_587 : (.castable R_CW R_Way : Cond) ∈ ft_nw := ft_inN 578 (by decide +kernel) rfl
theorem bn_588 : (.castable R_EW R_Way : Cond) ∈ ft_nw := ft_inN 579 (by decide +kernel) rfl
theorem bn_589 : (.castable R_GW R_Way : Cond) ∈ ft_nw := ft_inN 580 (by decide +kernel) rfl
theorem bi_CW : ∀ w ∈ w_CW, w ∈ ft_big := by
  intro w hw
  have h : w_CW = ([171, 172, 173, 174, 175, 176, 177, 178, 161, 163, 165, 167, 169] : List Nat).filterMap (fun i => ft_tbl[i]?) := by decide +kernel
  have hg : (w_CW).all goodWord = true := by decide +kernel
  have hw2 := hw
  rw [h] at hw2
  obtain ⟨i, -, hi⟩ := List.mem_filterMap.mp hw2
  exact ft_in i hi (List.all_eq_true.mp hg w hw)
theorem bi_EW : ∀ w ∈ w_EW, w ∈ ft_big := by
  intro w hw
  have h : w_EW = ([140, 141, 142, 143, 144, 145, 146, 147, 138] : List Nat).filterMap (fun i => ft_tbl[i]?) := by decide +kernel
  have hg : (w_EW).all goodWord = true := by decide +kernel
  have hw2 := hw
  rw [h] at hw2
  obtain ⟨i, -, hi⟩ := List.mem_filterMap.mp hw2
  exact ft_in i hi (List.all_eq_true.mp hg w hw)
theorem bi_GW : ∀ w ∈ w_GW, w ∈ ft_big := by
  intro w hw
  have h : w_GW = ([114, 116, 118, 120, 122, 124, 126, 128, 110, 112] : List Nat).filterMap (fun i => ft_tbl[i]?) := by decide +kernel
  have hg : (w_GW).all goodWord = true := by decide +kernel
  have hw2 := hw
  rw [h] at hw2
  obtain ⟨i, -, hi⟩ := List.mem_filterMap.mp hw2
  exact ft_in i hi (List.all_eq_true.mp hg w hw)
theorem bi_Row : ∀ w ∈ w_Row, w ∈ ft_big := by
  intro w hw
  have h : w_Row = ([67, 69, 71] : List Nat).filterMap (fun i => ft_tbl[i]?) := by decide +kernel
  have hg : (w_Row).all goodWord = true := by decide +kernel
  have hw2 := hw
  rw [h] at hw2
  obtain ⟨i, -, hi⟩ := List.mem_filterMap.mp hw2
  exact ft_in i hi (List.all_eq_true.mp hg w hw)
theorem bi_FT : ∀ w ∈ w_FT, w ∈ ft_big := by
  intro w hw
  have h : w_FT = ([184, 186, 188, 190] : List Nat).filterMap (fun i => ft_tbl[i]?) := by decide +kernel
  have hg : (w_FT).all goodWord = true := by decide +kernel
  have hw2 := hw
  rw [h] at hw2
  obtain ⟨i, -, hi⟩ := List.mem_filterMap.mp hw2
  exact ft_in i hi (List.all_eq_true.mp hg w hw)
theorem bi_M : ∀ w ∈ w_M, w ∈ ft_big := by
  intro w hw
  have h : w_M = ([428, 430, 432, 434, 436, 438, 440, 442, 444, 446, 448, 450, 452, 454, 456, 458, 460, 462, 464, 466, 468] : List Nat).filterMap (fun i => ft_tbl[i]?) := by decide +kernel
  have hg : (w_M).all goodWord = true := by decide +kernel
  have hw2 := hw
  rw [h] at hw2
  obtain ⟨i, -, hi⟩ := List.mem_filterMap.mp hw2
  exact ft_in i hi (List.all_eq_true.mp hg w hw)
end
section
section FTH
variable {p : Program} {l : Launch} {e : Env} {R : Room} {s : State} {m : MethodId} {args : Array Value} {below : List Frame} {meth : Method} {c : Code} {H H0 : Heap} {locs : List Loc} {cells slots : Nat} {Q : State → Prop} {A : Nat → Prop} {D : va_G} {cl : List vw_C} {ws wc wr : va_W} {tys tys' : List (ClassId × FieldType)} {pc : Nat} {ls : Array Slot} {rest st0 : List Value} {cc : ByteArray} {mc ms : Nat} {a : Array Value}
def ft_ushr (x y : Int32) : Int32 := (x.toUInt32 >>> (y.toUInt32 &&& Int32.toUInt32 31)).toInt32
theorem ft_top {x y : Int32} (h : x = y) (k : W p l e R s m args below meth c H locs cells slots Q (F0 m pc ls (.int y :: rest))) : W p l e R s m args below meth c H locs cells slots Q (F0 m pc ls (.int x :: rest)) := by
  subst h; exact k
abbrev ft_Pre (D : va_G) (cl : List vw_C) (tys : List (ClassId × FieldType)) (ws : va_W) (sz : Nat) : State → Prop := fun U => U.heap.size = sz ∧ va_P D cl ws U.heap ∧ va_K D cl tys U ∧ va_D (fun _ => True) ws ∧ ft_N ft_nw U
abbrev ft_B {S : Type} (D : va_G) (cl : List vw_C) (tys : List (ClassId × FieldType)) (A : Nat → Prop) (w : S → va_W) : S → State → Prop := fun u t => va_P D cl (w u) t.heap ∧ va_K D cl tys t ∧ va_D A (w u)
theorem ft_blind {av : List Value} {sz : Nat} : FrameBlind (va_Pc av (ft_Pre D cl tys ws sz)) := fun a U g mk q => by
  obtain ⟨q0, q1, qP, qK, qD, qN⟩ := q
  exact ⟨q0, q1, qP, va_K.moved (u := U) (U := U.calling g mk a) (Vm.Alike.refl U.vm) qK, qD, ft_N_same ft_nw_ok (rfl : U.vm = (U.calling g mk a).vm) qN⟩
theorem ft_pre (hP : va_P D cl ws H) (hD : va_D A ws) (hK : va_K D cl tys s) (hNW : ft_N ft_nw s) (isC isT : List Nat) (hC : isC.map (fun i => ws[i]?) = wc.map some) (hC2 : isC.filterMap (fun i => ws[i]?) = wc) (hn : va_nd isC = true) (hT : isT.filterMap (fun i => tys[i]?) = tys') (av : List Value) : ∀ U : State, U.heap = H → s.WarmedH U.vm → va_Pc av (ft_Pre D cl tys' wc H.size) av.toArray U :=
  fun U hU hW => ⟨rfl, by rw [hU], by rw [hU]; exact hP.sub isC hC2, va_K.moved hW.alike (hK.sub isT hT), (hD.sub isC hn hC).weaken (fun _ _ _ _ => trivial), ft_N_warm ft_nw_ok hW hNW⟩
theorem ft_ci {S : Type} {post : Int32 → S → Prop} {w : S → va_W} (hr : va_Run p l e R s m args below meth c H locs cells slots mc ms (F0 m pc ls st0) rest (va_Qi post (ft_B D cl tys' (va_A wc H.size) w) (va_A wc H.size) a) (va_A wc H.size))
    (hP : va_P D cl ws H) (hD : va_D A ws) (hS : va_S A H0 H locs) (hA : ∀ q, H0.size ≤ q → A q) (isC isR : List Nat) (hC : isC.map (fun i => ws[i]?) = wc.map some) (hR : isR.map (fun i => ws[i]?) = wr.map some) (hn : va_nd isR = true) (hdis : ∀ i ∈ isR, i ∉ isC)
    (kk : ∀ (r : Int32) (u : S) (H1 : Heap) (locs1 : List Loc), post r u → va_P D cl (wr ++ w u) H1 → va_D A (wr ++ w u) → va_S A H0 H1 locs1 → W p l e R s m args below meth c H1 locs1 (cells + mc) (slots + ms) Q (F0 m (pc + 3) ls (.int r :: rest))) : W p l e R s m args below meth c H locs cells slots Q (F0 m pc ls st0) := by
  have hFc := va_free hD hS hA isC hC
  refine va_calli hr hS (fun q _ h => hFc q h) hFc (fun r u t H1 locs1 ht hvm hw hB hz1 hk1 hS1 => ?_)
  obtain ⟨hP1, hK1, hD1⟩ := hB
  rw [ht] at hP1
  obtain ⟨hP2, hD2⟩ := va_join hP hD isC isR hC hR hn hdis hk1 hFc hP1 hD1
  exact kk r u H1 locs1 hw hP2 hD2 hS1
theorem ft_cv {S : Type} {post : S → Prop} {w : S → va_W} (hr : va_Run p l e R s m args below meth c H locs cells slots mc ms (F0 m pc ls st0) rest (va_Qv post (ft_B D cl tys' (va_A wc H.size) w) (va_A wc H.size) a) (va_A wc H.size))
    (hP : va_P D cl ws H) (hD : va_D A ws) (hS : va_S A H0 H locs) (hA : ∀ q, H0.size ≤ q → A q) (isC isR : List Nat) (hC : isC.map (fun i => ws[i]?) = wc.map some) (hR : isR.map (fun i => ws[i]?) = wr.map some) (hn : va_nd isR = true) (hdis : ∀ i ∈ isR, i ∉ isC)
    (kk : ∀ (u : S) (H1 : Heap) (locs1 : List Loc), post u → va_P D cl (wr ++ w u) H1 → va_D A (wr ++ w u) → va_S A H0 H1 locs1 → W p l e R s m args below meth c H1 locs1 (cells + mc) (slots + ms) Q (F0 m (pc + 3) ls rest)) : W p l e R s m args below meth c H locs cells slots Q (F0 m pc ls st0) := by
  have hFc := va_free hD hS hA isC hC
  refine va_callv hr hS (fun q _ h => hFc q h) hFc (fun u t H1 locs1 ht hvm hw hB hz1 hk1 hS1 => ?_)
  obtain ⟨hP1, hK1, hD1⟩ := hB
  rw [ht] at hP1
  obtain ⟨hP2, hD2⟩ := va_join hP hD isC isR hC hR hn hdis hk1 hFc hP1 hD1
  exact kk u H1 locs1 hw hP2 hD2 hS1
theorem ft_cq {S : Type} {post : Option Nat → S → Prop} {w : S → va_W} (hr : va_Run p l e R s m args below meth c H locs cells slots mc ms (F0 m pc ls st0) rest (va_Qq post (ft_B D cl tys' (va_A wc H.size) w) (va_A wc H.size) a) (va_A wc H.size))
    (hP : va_P D cl ws H) (hD : va_D A ws) (hS : va_S A H0 H locs) (hA : ∀ q, H0.size ≤ q → A q) (isC isR : List Nat) (hC : isC.map (fun i => ws[i]?) = wc.map some) (hR : isR.map (fun i => ws[i]?) = wr.map some) (hn : va_nd isR = true) (hdis : ∀ i ∈ isR, i ∉ isC)
    (kk : ∀ (r : Option Nat) (u : S) (H1 : Heap) (locs1 : List Loc), post r u → va_P D cl (wr ++ w u) H1 → va_D A (wr ++ w u) → va_S A H0 H1 locs1 → W p l e R s m args below meth c H1 locs1 (cells + mc) (slots + ms) Q (F0 m (pc + 3) ls (va_rf r :: rest))) : W p l e R s m args below meth c H locs cells slots Q (F0 m pc ls st0) := by
  have hFc := va_free hD hS hA isC hC
  refine va_callq hr hS (fun q _ h => hFc q h) hFc (fun r u t H1 locs1 ht hvm hw hB hz1 hk1 hS1 => ?_)
  obtain ⟨hP1, hK1, hD1⟩ := hB
  rw [ht] at hP1
  obtain ⟨hP2, hD2⟩ := va_join hP hD isC isR hC hR hn hdis hk1 hFc hP1 hD1
  exact kk r u H1 locs1 hw hP2 hD2 hS1
theorem ft_entryQ {y : MethodName} {wy wy' : List Cond} {rm : Room} {maxL : Nat} {ret : Option FieldType} {av : List Value} {sz : Nat} (Qf : (Nat → Prop) → Array Value → State → Outcome → State → Prop)
    (hy : plainName y.cls = true) (hw : wy = Cond.code y cc maxL ret :: wy') (hav : (lg_sl av).length ≤ maxL)
    (body : ∀ (p : Program) (e : Env) (s : State) (m : MethodId) (below : List Frame) (meth : Method) (c : Code) (A : Nat → Prop) (ls : Array Slot),
      p.tables.exec = Jvm.exec → c.code = cc → meth.sig.returnType = ret → c.maxLocals = maxL → (∀ w ∈ wy, w.before av.toArray s = true) → s.vm.findClass y.cls = some m.cls → meth.locks = false → meth.name = y.name →
      va_P D cl ws s.heap → va_K D cl tys s → va_D A ws → (∀ q : Nat, s.heap.size ≤ q → A q) → va_S A s.heap s.heap [] → ft_N ft_nw s → lv_has ls maxL (lv_args 0 av) →
      W p l e rm s m av.toArray below meth c s.heap [] 0 0 (MQ below (Qf A) av.toArray s mc ms A) (F0 m 0 ls [])) :
    Met l y wy rm (va_Pc av (ft_Pre D cl tys ws sz)) (Qf (va_A ws sz)) mc ms (va_A ws sz) := by
  refine Met.ofW (cc := cc) (maxL := maxL) (ret := ret) hy hw ?_
  intro p e s m args below meth c s₁ B hml hv
  obtain ⟨rfl, hsz, hP, hK, hD0, hN⟩ := hv
  subst hsz
  have hD := hD0.self (sz := s.heap.size)
  rw [lg_entry_eq]
  exact body p e s m below meth c _ _ B.exec B.bytes B.returns hml (atoms_spec (ws := wy) B.pre) (findClass_of_methodNamed B.named) B.notSynchronized (name_of_methodNamed B.named B.method).1 hP hK hD (fun q h => Or.inr h) va_S.rf hN (lv_entry av hav)
theorem ft_reti {S : Type} {post : Int32 → S → Prop} {w : S → va_W} (u : S) {r : Int32} (hx : p.tables.exec = Jvm.exec) (hb : c.code = cc) (hr : meth.sig.returnType = some .int) (hlocks : meth.locks = false) (hP : va_P D cl (w u) H) (hK : va_K D cl tys s) (hD : va_D A (w u)) (hS : va_S A s.heap H locs) (hp : post r u) (hdg : decode cc pc = .ok (.ireturn, 1)) :
    W p l e R s m args below meth c H locs cells slots (MQ below (va_Qi post (ft_B D cl tys A w) A) args s cells slots A) (F0 m pc ls [.int r]) :=
  W.iret (v := r) hx hb hr (fun t ht hW => ⟨⟨r, u, rfl, hp, by rw [ht]; exact hP, va_K.moved hW.alike hK, hD⟩, hS.F ht⟩) hS.2.2 hdg hlocks
theorem ft_retz {S : Type} {post : Int32 → S → Prop} {w : S → va_W} (u : S) {r : Int32} (hx : p.tables.exec = Jvm.exec) (hb : c.code = cc) (hr : meth.sig.returnType = some .boolean) (hn : narrow .boolean (.int r) = .int r) (hlocks : meth.locks = false) (hP : va_P D cl (w u) H) (hK : va_K D cl tys s) (hD : va_D A (w u)) (hS : va_S A s.heap H locs) (hp : post r u) (hdg : decode cc pc = .ok (.ireturn, 1)) :
    W p l e R s m args below meth c H locs cells slots (MQ below (va_Qi post (ft_B D cl tys A w) A) args s cells slots A) (F0 m pc ls [.int r]) :=
  W.zret (v := r) hx hb hr hn (fun t ht hW => ⟨⟨r, u, rfl, hp, by rw [ht]; exact hP, va_K.moved hW.alike hK, hD⟩, hS.F ht⟩) hS.2.2 hdg hlocks
theorem ft_retv {S : Type} {post : S → Prop} {w : S → va_W} (u : S) (hx : p.tables.exec = Jvm.exec) (hb : c.code = cc) (hr : meth.sig.returnType = none) (hlocks : meth.locks = false) (hP : va_P D cl (w u) H) (hK : va_K D cl tys s) (hD : va_D A (w u)) (hS : va_S A s.heap H locs) (hp : post u) (hdg : decode cc pc = .ok (.return_, 1)) :
    W p l e R s m args below meth c H locs cells slots (MQ below (va_Qv post (ft_B D cl tys A w) A) args s cells slots A) (F0 m pc ls []) :=
  W.vret hx hb hr (fun t ht hW => ⟨⟨u, rfl, hp, by rw [ht]; exact hP, va_K.moved hW.alike hK, hD⟩, hS.F ht⟩) hS.2.2 hdg hlocks
theorem ft_retq {S : Type} {post : Option Nat → S → Prop} {w : S → va_W} (u : S) (r : Option Nat) {C : String} {v : Value} (hv : v = va_rf r) (hx : p.tables.exec = Jvm.exec) (hb : c.code = cc) (hr : meth.sig.returnType = some (.object C)) (hlocks : meth.locks = false) (hP : va_P D cl (w u) H) (hK : va_K D cl tys s) (hD : va_D A (w u)) (hS : va_S A s.heap H locs) (hp : post r u) (hdg : decode cc pc = .ok (.areturn, 1)) :
    W p l e R s m args below meth c H locs cells slots (MQ below (va_Qq post (ft_B D cl tys A w) A) args s cells slots A) (F0 m pc ls [v]) := by
  subst hv
  exact W.aret (v := va_rf r) hx hb hr (Or.inl ⟨C, rfl⟩) (by cases r with
    | none => exact Or.inl rfl
    | some a => exact Or.inr ⟨a, rfl⟩) (fun t ht hW => ⟨⟨r, u, rfl, hp, by rw [ht]; exact hP, va_K.moved hW.alike hK, hD⟩, hS.F ht⟩) hS.2.2 hdg hlocks
abbrev ft_Mi {S : Type} (l : Launch) (y : MethodName) (wy : List Cond) (rm : Room) (D : va_G) (tys : List (ClassId × FieldType)) (sz : Nat) (av : List Value) (ws : va_W) (post : Int32 → S → Prop) (w : S → va_W) (mc ms : Nat) : Prop :=
  Met l y wy rm (va_Pc av (ft_Pre D vwCl tys ws sz)) (va_Qi post (ft_B D vwCl tys (va_A ws sz) w) (va_A ws sz)) mc ms (va_A ws sz)
theorem ft_ei {S : Type} {post : Int32 → S → Prop} {w : S → va_W} {y : MethodName} {wy wy' : List Cond} {rm : Room} {maxL : Nat} {ret : Option FieldType} {av : List Value} {sz : Nat} (hy : plainName y.cls = true) (hw : wy = Cond.code y cc maxL ret :: wy') (hav : (lg_sl av).length ≤ maxL)
    (body : ∀ (p : Program) (e : Env) (s : State) (m : MethodId) (below : List Frame) (meth : Method) (c : Code) (A : Nat → Prop) (ls : Array Slot),
      p.tables.exec = Jvm.exec → c.code = cc → meth.sig.returnType = ret → c.maxLocals = maxL → (∀ w ∈ wy, w.before av.toArray s = true) → s.vm.findClass y.cls = some m.cls → meth.locks = false → meth.name = y.name →
      va_P D vwCl ws s.heap → va_K D vwCl tys s → va_D A ws → (∀ q : Nat, s.heap.size ≤ q → A q) → va_S A s.heap s.heap [] → ft_N ft_nw s → lv_has ls maxL (lv_args 0 av) →
      W p l e rm s m av.toArray below meth c s.heap [] 0 0 (MQ below (va_Qi post (ft_B D vwCl tys A w) A) av.toArray s mc ms A) (F0 m 0 ls [])) :
    ft_Mi l y wy rm D tys sz av ws post w mc ms := ft_entryQ (fun A => va_Qi post (ft_B D vwCl tys A w) A) hy hw hav body
abbrev ft_Mv {S : Type} (l : Launch) (y : MethodName) (wy : List Cond) (rm : Room) (D : va_G) (tys : List (ClassId × FieldType)) (sz : Nat) (av : List Value) (ws : va_W) (post : S → Prop) (w : S → va_W) (mc ms : Nat) : Prop :=
  Met l y wy rm (va_Pc av (ft_Pre D vwCl tys ws sz)) (va_Qv post (ft_B D vwCl tys (va_A ws sz) w) (va_A ws sz)) mc ms (va_A ws sz)
theorem ft_ev {S : Type} {post : S → Prop} {w : S → va_W} {y : MethodName} {wy wy' : List Cond} {rm : Room} {maxL : Nat} {ret : Option FieldType} {av : List Value} {sz : Nat} (hy : plainName y.cls = true) (hw : wy = Cond.code y cc maxL ret :: wy') (hav : (lg_sl av).length ≤ maxL)
    (body : ∀ (p : Program) (e : Env) (s : State) (m : MethodId) (below : List Frame) (meth : Method) (c : Code) (A : Nat → Prop) (ls : Array Slot),
      p.tables.exec = Jvm.exec → c.code = cc → meth.sig.returnType = ret → c.maxLocals = maxL → (∀ w ∈ wy, w.before av.toArray s = true) → s.vm.findClass y.cls = some m.cls → meth.locks = false → meth.name = y.name →
      va_P D vwCl ws s.heap → va_K D vwCl tys s → va_D A ws → (∀ q : Nat, s.heap.size ≤ q → A q) → va_S A s.heap s.heap [] → ft_N ft_nw s → lv_has ls maxL (lv_args 0 av) →
      W p l e rm s m av.toArray below meth c s.heap [] 0 0 (MQ below (va_Qv post (ft_B D vwCl tys A w) A) av.toArray s mc ms A) (F0 m 0 ls [])) :
    ft_Mv l y wy rm D tys sz av ws post w mc ms := ft_entryQ (fun A => va_Qv post (ft_B D vwCl tys A w) A) hy hw hav body
abbrev ft_Mq {S : Type} (l : Launch) (y : MethodName) (wy : List Cond) (rm : Room) (D : va_G) (tys : List (ClassId × FieldType)) (sz : Nat) (av : List Value) (ws : va_W) (post : Option Nat → S → Prop) (w : S → va_W) (mc ms : Nat) : Prop :=
  Met l y wy rm (va_Pc av (ft_Pre D vwCl tys ws sz)) (va_Qq post (ft_B D vwCl tys (va_A ws sz) w) (va_A ws sz)) mc ms (va_A ws sz)
theorem ft_eq {S : Type} {post : Option Nat → S → Prop} {w : S → va_W} {y : MethodName} {wy wy' : List Cond} {rm : Room} {maxL : Nat} {ret : Option FieldType} {av : List Value} {sz : Nat} (hy : plainName y.cls = true) (hw : wy = Cond.code y cc maxL ret :: wy') (hav : (lg_sl av).length ≤ maxL)
    (body : ∀ (p : Program) (e : Env) (s : State) (m : MethodId) (below : List Frame) (meth : Method) (c : Code) (A : Nat → Prop) (ls : Array Slot),
      p.tables.exec = Jvm.exec → c.code = cc → meth.sig.returnType = ret → c.maxLocals = maxL → (∀ w ∈ wy, w.before av.toArray s = true) → s.vm.findClass y.cls = some m.cls → meth.locks = false → meth.name = y.name →
      va_P D vwCl ws s.heap → va_K D vwCl tys s → va_D A ws → (∀ q : Nat, s.heap.size ≤ q → A q) → va_S A s.heap s.heap [] → ft_N ft_nw s → lv_has ls maxL (lv_args 0 av) →
      W p l e rm s m av.toArray below meth c s.heap [] 0 0 (MQ below (va_Qq post (ft_B D vwCl tys A w) A) av.toArray s mc ms A) (F0 m 0 ls [])) :
    ft_Mq l y wy rm D tys sz av ws post w mc ms := ft_entryQ (fun A => va_Qq post (ft_B D vwCl tys A w) A) hy hw hav body
theorem ft_cA {c1 c2 : ClassId} (hK : va_K D cl tys s) (i j : Nat) (h1 : tys[i]? = some (c1, .int)) (h2 : tys[j]? = some (c2, .int)) : c1 = c2 := by
  have a : s.vm.findClass ("[" ++ FieldType.int.toString) = some c1 := (hK.2 i _ h1).2
  have b : s.vm.findClass ("[" ++ FieldType.int.toString) = some c2 := (hK.2 j _ h2).2
  exact Option.some.inj (a.symm.trans b)
theorem ft_cW {c1 c2 : ClassId} {C : String} (hK : va_K D cl tys s) (i j : Nat) (h1 : tys[i]? = some (c1, .object C)) (h2 : tys[j]? = some (c2, .object C)) : c1 = c2 := by
  obtain ⟨_, _, _, _, _, a⟩ := (hK.2 i _ h1).2
  obtain ⟨_, _, _, _, _, b⟩ := (hK.2 j _ h2).2
  exact Option.some.inj (a.symm.trans b)
end FTH
section FTC
variable {R : Room} {s : State} {args : Array Value} {own C : String} {index maxL mc ms : Nat} {y : MethodName} {bytes : ByteArray} {ret : Option FieldType} {rm : Room}
theorem ft_gd {l : List Cond} (h : ∀ w ∈ l, w ∈ ft_big) : GoodIn ft_big l := fun w hw => ⟨h w hw, ft_big_good w (h w hw)⟩
theorem ft_self {k : Cond} (h : k ∈ ft_big) : ∀ w ∈ k :: ft_big, w ∈ ft_big := fun _ hw => (List.mem_cons.mp hw).elim (fun e => e ▸ h) id
theorem ft_cwV (n : Nat) (ht : ∀ w ∈ ft_big, w.before args s = true) (m1 : Cond.methodLink own index y ∈ ft_big) (m2 : Cond.instanceMethod y ∈ ft_big) (m3 : Cond.selects C y y ∈ ft_big) (m4 : Cond.initialized C ∈ ft_big) (m5 : Cond.code y bytes maxL ret ∈ ft_big)
    (hd : y.cls = C ∧ y.cls ≠ "java/lang/invoke/MethodHandle" ∧ y.cls ≠ "java/lang/invoke/VarHandle" ∧ (parseMethodDescriptor y.desc).map (fun d => d.parameters.length) = some n) (hR : rm.frames + 1 ≤ R.frames ∧ 8 + (maxL + 11) + rm.locals ≤ R.locals) (hrc : rm.cells = mc := by rfl) (hrs : rm.slots = ms := by rfl) :
    CallW R s args own C index y bytes maxL ret (Cond.code y bytes maxL ret :: ft_big) rm mc ms n := by
  refine cwV n ht (ft_gd ?_) rfl hrc hrs hd hR
  intro w hw
  unfold wsV at hw
  rcases List.mem_append.mp hw with hw | hw
  · simp only [List.mem_cons, List.not_mem_nil, or_false] at hw
    rcases hw with rfl | rfl | rfl | rfl
    · exact m1
    · exact m2
    · exact m3
    · exact m4
  · exact ft_self m5 w hw
theorem ft_cwS (n : Nat) (ht : ∀ w ∈ ft_big, w.before args s = true) (m1 : Cond.methodLink own index y ∈ ft_big) (m2 : Cond.static y ∈ ft_big) (m4 : Cond.initialized own ∈ ft_big) (m5 : Cond.code y bytes maxL ret ∈ ft_big)
    (hd : y.cls = own ∧ y.cls ≠ "java/lang/invoke/MethodHandle" ∧ y.cls ≠ "java/lang/invoke/VarHandle" ∧ (parseMethodDescriptor y.desc).map (fun d => d.parameters.length) = some n) (hR : rm.frames + 1 ≤ R.frames ∧ 8 + (maxL + 11) + rm.locals ≤ R.locals) (hrc : rm.cells = mc := by rfl) (hrs : rm.slots = ms := by rfl) :
    CallB R s args own index y bytes maxL ret (Cond.code y bytes maxL ret :: ft_big) rm mc ms n ∧ (Cond.static y).before args s = true := by
  refine cwS n ht (ft_gd ?_) rfl hrc hrs hd hR
  intro w hw
  unfold wsS at hw
  rcases List.mem_append.mp hw with hw | hw
  · simp only [List.mem_cons, List.not_mem_nil, or_false] at hw
    rcases hw with rfl | rfl | rfl
    · exact m1
    · exact m2
    · exact m4
  · exact ft_self m5 w hw
theorem ft_cwI (n : Nat) (ht : ∀ w ∈ ft_big, w.before args s = true) (m1 : Cond.methodLink own index y ∈ ft_big) (m2 : Cond.instanceMethod y ∈ ft_big) (m4 : Cond.initialized y.cls ∈ ft_big) (m5 : Cond.code y bytes maxL none ∈ ft_big) (hy1 : y.name = "<init>")
    (hd : y.cls ≠ "java/lang/invoke/MethodHandle" ∧ y.cls ≠ "java/lang/invoke/VarHandle" ∧ (parseMethodDescriptor y.desc).map (fun d => d.parameters.length) = some n) (hR : rm.frames + 1 ≤ R.frames ∧ 8 + (maxL + 11) + rm.locals ≤ R.locals) (hrc : rm.cells = mc := by rfl) (hrs : rm.slots = ms := by rfl) :
    CallB R s args own index y bytes maxL none (Cond.code y bytes maxL none :: ft_big) rm mc ms n ∧ y.name = "<init>" ∧ (Cond.instanceMethod y).before args s = true :=
  cwI n ht (ft_gd (ft_self m5)) rfl hrc hrs (ht _ m4) (ht _ m1) (ht _ m2) hy1 hd hR
theorem ft_goodU {owner : String} {x : MethodName} (m1 : Cond.methodLink own index x ∈ ft_big) (m0 : Cond.sameMethod x.cls owner x.name x.desc ∈ ft_big) (m3 : Cond.selects C x y ∈ ft_big) (m2 : Cond.instanceMethod y ∈ ft_big) (m4 : Cond.initialized y.cls ∈ ft_big) (m5 : Cond.code y bytes maxL ret ∈ ft_big) : GoodIn ft_big (va_wsU own index C owner x y (Cond.code y bytes maxL ret :: ft_big)) := by
  refine ft_gd ?_
  intro w hw
  unfold va_wsU at hw
  rcases List.mem_append.mp hw with hw | hw
  · simp only [List.mem_cons, List.not_mem_nil, or_false] at hw
    rcases hw with rfl | rfl | rfl | rfl | rfl
    · exact m1
    · exact m0
    · exact m3
    · exact m2
    · exact m4
  · exact ft_self m5 w hw
theorem ft_cwU {owner : String} (n : Nat) (ht : ∀ w ∈ ft_big, w.before args s = true) (m1 : Cond.methodLink own index y ∈ ft_big) (m0 : Cond.sameMethod y.cls owner y.name y.desc ∈ ft_big) (m3 : Cond.selects C y y ∈ ft_big) (m2 : Cond.instanceMethod y ∈ ft_big) (m4 : Cond.initialized y.cls ∈ ft_big) (m5 : Cond.code y bytes maxL ret ∈ ft_big)
    (hd : y = ⟨owner, y.name, y.desc⟩ ∧ owner ≠ "java/lang/invoke/MethodHandle" ∧ owner ≠ "java/lang/invoke/VarHandle" ∧ (parseMethodDescriptor y.desc).map (fun d => d.parameters.length) = some n) (hR : rm.frames + 1 ≤ R.frames ∧ 8 + (maxL + 11) + rm.locals ≤ R.locals) (hrc : rm.cells = mc := by rfl) (hrs : rm.slots = ms := by rfl) :
    va_CU R s args own C owner index y y bytes maxL ret (Cond.code y bytes maxL ret :: ft_big) rm mc ms n :=
  va_cwU n ht (ft_goodU m1 m0 m3 m2 m4 m5) rfl hrc hrs hd.1 hd.2 hR
theorem ft_cwA {owner : String} {x : MethodName} (n : Nat) (ht : ∀ w ∈ ft_big, w.before args s = true) (m1 : Cond.methodLink own index x ∈ ft_big) (m0 : Cond.sameMethod x.cls owner x.name x.desc ∈ ft_big) (m3 : Cond.selects C x y ∈ ft_big) (m2 : Cond.instanceMethod y ∈ ft_big) (m4 : Cond.initialized y.cls ∈ ft_big) (m5 : Cond.code y bytes maxL ret ∈ ft_big) (hz : va_Nw (.declares ⟨owner, x.name, x.desc⟩) s)
    (hd : owner ≠ "java/lang/invoke/MethodHandle" ∧ owner ≠ "java/lang/invoke/VarHandle" ∧ (parseMethodDescriptor x.desc).map (fun d => d.parameters.length) = some n) (hR : rm.frames + 1 ≤ R.frames ∧ 8 + (maxL + 11) + rm.locals ≤ R.locals) (hrc : rm.cells = mc := by rfl) (hrs : rm.slots = ms := by rfl) :
    va_CU R s args own C owner index x y bytes maxL ret (Cond.code y bytes maxL ret :: ft_big) rm mc ms n :=
  va_cwA n ht (ft_goodU m1 m0 m3 m2 m4 m5) rfl hrc hrs hz hd hR
end FTC
end
section
/-! The class's own steps as functions. A row: contents, how many, spilt. -/
abbrev RS : Type := (Nat → Int32) × Nat × Int32
def rput (N : Nat) (r : RS) (b : Int32) : RS := if r.2.1 < N then (upd r.1 r.2.1 b, r.2.1 + 1, r.2.2) else (r.1, r.2.1, 1)
def rin (n : Nat) (i : Int32) : Prop := ¬ i < 0 ∧ ¬ nI n ≤ i
theorem rin_dec (n : Nat) (i : Int32) : rin n i ∨ ¬ rin n i := Classical.em _
noncomputable def rhas (n : Nat) (i : Int32) : Int32 := if ¬ i < 0 then (if nI n ≤ i then 0 else 1) else 0
noncomputable def rat (r : RS) (i : Int32) : Int32 := if rhas r.2.1 i = 0 then (-1) else r.1 i.toNatClampNeg
noncomputable def rturn (r : RS) (i mask : Int32) : RS := if rhas r.2.1 i = 0 then r else (upd r.1 i.toNatClampNeg (r.1 i.toNatClampNeg ^^^ mask), r.2.1, r.2.2)
def rcut (r : RS) (j : Nat) : RS := if j ≤ r.2.1 then (r.1, j, 0) else r
def rputs (N : Nat) (r : RS) (bs : List Int32) : RS := bs.foldl (rput N) r
theorem rput_le {N : Nat} {r : RS} {b : Int32} (h : r.2.1 ≤ N) : (rput N r b).2.1 ≤ N := by
  unfold rput; split
  · show r.2.1 + 1 ≤ N; omega
  · exact h
theorem rcut_le {N : Nat} {r : RS} {j : Nat} (h : r.2.1 ≤ N) : (rcut r j).2.1 ≤ N := by
  unfold rcut; split
  · show j ≤ N; omega
  · exact h
theorem rputs_le {N : Nat} (bs : List Int32) : ∀ {r : RS}, r.2.1 ≤ N → (rputs N r bs).2.1 ≤ N := by
  induction bs with
  | nil => intro r h; exact h
  | cons b bs ih => intro r h; exact ih (rput_le h)
theorem rputs_app {N : Nat} (r : RS) (a b : List Int32) : rputs N r (a ++ b) = rputs N (rputs N r a) b := List.foldl_append
theorem rturn_n (r : RS) (i k : Int32) : (rturn r i k).2.1 = r.2.1 := by
  unfold rturn; split <;> rfl
theorem rhas_nI {n j : Nat} (h : j < n) (hn : n < 2 ^ 31) : rhas n (nI j) = 1 := by
  unfold rhas
  rw [if_pos (nI_pos (by omega)), if_neg (nI_ge h hn)]
theorem rhas_ne {n : Nat} {i : Int32} (h : ¬ rhas n i = 0) : rhas n i = 1 := by
  unfold rhas at h ⊢
  split
  · split
    · rename_i h1 h2; simp [h1, h2] at h
    · rfl
  · rename_i h1; simp [h1] at h
theorem rhas_spec {n : Nat} {i : Int32} (h : ¬ rhas n i = 0) : ¬ i < 0 ∧ ¬ nI n ≤ i := by
  unfold rhas at h
  by_cases h1 : i < 0
  · rw [if_neg (fun q => q h1)] at h; exact absurd rfl h
  · rw [if_pos h1] at h
    by_cases h2 : nI n ≤ i
    · rw [if_pos h2] at h; exact absurd rfl h
    · exact ⟨h1, h2⟩
theorem rhas_nat {n : Nat} {i : Int32} (h : ¬ rhas n i = 0) (hn : n < 2 ^ 31) : ∃ j : Nat, j < n ∧ i = nI j := by
  obtain ⟨h1, h2⟩ := rhas_spec h
  obtain ⟨j, hj, rfl⟩ := nI_of h1
  refine ⟨j, ?_, rfl⟩
  rcases Nat.lt_or_ge j n with q | q
  · exact q
  · exact absurd (nI_le q hj) h2
theorem rhas_in {n N : Nat} {i : Int32} (h : ¬ rhas n i = 0) (hn : n ≤ N) (hN : N < 2 ^ 31) : vp_in i N := by
  obtain ⟨j, hj, rfl⟩ := rhas_nat h (by omega)
  exact vp_in_nI (by omega) hN
theorem rat_nI {r : RS} {j : Nat} (h : j < r.2.1) (hn : r.2.1 < 2 ^ 31) : rat r (nI j) = r.1 j := by
  unfold rat
  rw [rhas_nI h hn, if_neg (by decide), nI_clamp (by omega)]
def crc1 (x : Int32) : Int32 := if x &&& 1 = 0 then ft_ushr x 1 else ft_ushr x 1 ^^^ 33800
def crcN : Nat → Int32 → Int32
  | 0, x => x
  | k + 1, x => crc1 (crcN k x)
def crcB (sum b : Int32) : Int32 := crcN 8 (sum ^^^ b)
/-- what a reader has in common: payload, kept, broken, begun, hasKept, tallies -/
abbrev CS : Type := RS × RS × Int32 × Int32 × Int32 × (Nat → Int32)
def rcut0 (r : RS) : RS := (r.1, 0, 0)
theorem rcut_0 (r : RS) : rcut r 0 = rcut0 r := by simp [rcut, rcut0]
def beg0 (pay : RS) (hd b : Int32) : RS := if hd = 0 then pay else if hd = 255 then pay else rput 400 pay 0
def dec0 (pay : RS) (hd mi b : Int32) : RS × Int32 × Int32 := if mi ≤ 0 then (beg0 pay hd b, b, b - 1) else (rput 400 pay b, hd, mi - 1)
def esc1 (pay : RS) (br b : Int32) : RS × Int32 := if b = 220 then (rput 400 pay 192, br) else if b = 221 then (rput 400 pay 219, br) else (pay, 1)
def dec1 (pay : RS) (br es b : Int32) : RS × Int32 × Int32 := if es = 0 then (if b = 219 then (pay, br, 1) else (rput 400 pay b, br, es)) else ((esc1 pay br b).1, (esc1 pay br b).2, 0)
def hold2 (pay : RS) (ck he ol ne b : Int32) : RS × Int32 × Int32 × Int32 × Int32 := if he = 2 then (rput 400 pay ol, crcB ck ol, he, ne, b) else (pay, ck, he + 1, ne, b)
def dec2 (pay : RS) (br es ck he ol ne b : Int32) : RS × Int32 × Int32 × Int32 × Int32 × Int32 × Int32 :=
  if es = 0 then (if b = 125 then (pay, br, 1, ck, he, ol, ne) else ((hold2 pay ck he ol ne b).1, br, es, (hold2 pay ck he ol ne b).2))
  else (if b = 125 then (pay, 1, 0, ck, he, ol, ne) else ((hold2 pay ck he ol ne (b ^^^ 32)).1, br, 0, (hold2 pay ck he ol ne (b ^^^ 32)).2))
def whole0 (hd mi : Int32) : Int32 := if hd = 0 then 0 else if mi = 0 then 1 else 0
def whole1 (es : Int32) : Int32 := if es = 0 then 1 else 0
def whole2 (pay : RS) (es ck ol ne : Int32) : Int32 := if es = 0 then (if pay.2.1 = 0 then 0 else if (ck ^^^ 65535) = (ol ||| (ne <<< ((8 : Int32) &&& 31))) then 1 else 0) else 0
def judge (emp : Int32) (br bg : Int32) (pay : RS) (wh most : Int32) : Int32 :=
  if bg = 0 ∧ emp = 0 then 0 else if ¬ br = 0 ∨ wh = 0 then 2 else if ¬ pay.2.2 = 0 ∨ ¬ nI pay.2.1 ≤ most then 3 else 1
theorem judge_4 (emp br bg : Int32) (pay : RS) (wh most : Int32) : judge emp br bg pay wh most = 0 ∨ judge emp br bg pay wh most = 1 ∨ judge emp br bg pay wh most = 2 ∨ judge emp br bg pay wh most = 3 := by
  unfold judge
  split
  · exact Or.inl rfl
  · split
    · exact Or.inr (Or.inr (Or.inl rfl))
    · split
      · exact Or.inr (Or.inr (Or.inr rfl))
      · exact Or.inr (Or.inl rfl)
/-- what is in common behind a mark with verdict v -/
def finC (v : Int32) (st : CS) : CS :=
  if v = 0 then (rcut0 st.1, st.2.1, 0, 0, st.2.2.2.2.1, st.2.2.2.2.2)
  else if v = 1 then (rcut0 st.2.1, st.1, 0, 0, 1, upd st.2.2.2.2.2 1 (st.2.2.2.2.2 1 + 1))
  else if v = 2 then (rcut0 st.1, st.2.1, 0, 0, st.2.2.2.2.1, upd st.2.2.2.2.2 2 (st.2.2.2.2.2 2 + 1))
  else (rcut0 st.1, st.2.1, 0, 0, st.2.2.2.2.1, upd st.2.2.2.2.2 3 (st.2.2.2.2.2 3 + 1))
/-- n bytes from i on -/
def seg (f : Nat → Int32) : Nat → Nat → List Int32
  | _, 0 => []
  | i, n + 1 => f i :: seg f (i + 1) n
def grp (f : Nat → Int32) (i j : Nat) : List Int32 := nI (j - i + 1) :: seg f i (j - i)
/-- what way 0 tells from place i on, k bytes being left, the group begun at st -/
def e0 (f : Nat → Int32) (len : Nat) : Nat → Nat → Nat → Int32 → List Int32
  | 0, _, st, bf => (if st < len ∨ bf = 0 then grp f st len else []) ++ [0]
  | k + 1, i, st, bf => if f i = 0 then grp f st i ++ e0 f len k (i + 1) (i + 1) 0 else if i + 1 - st = 254 then grp f st (i + 1) ++ e0 f len k (i + 1) (i + 1) 1 else e0 f len k (i + 1) st bf
def wb1 (b : Int32) : List Int32 := if b = 192 then [219, 220] else if b = 219 then [219, 221] else [b]
def e1 (f : Nat → Int32) : Nat → Nat → List Int32
  | 0, _ => [192]
  | k + 1, i => wb1 (f i) ++ e1 f k (i + 1)
def wb2 (b : Int32) : List Int32 := if b = 125 then [125, b ^^^ 32] else if b = 126 then [125, b ^^^ 32] else [b]
def e2 (f : Nat → Int32) : Nat → Nat → Int32 → List Int32
  | 0, _, sum => wb2 ((sum ^^^ 65535) &&& 255) ++ (wb2 (ft_ushr (sum ^^^ 65535) 8) ++ [126])
  | k + 1, i, sum => wb2 (f i) ++ e2 f k (i + 1) (crcB sum (f i))
theorem seg_succ (f : Nat → Int32) (i n : Nat) : seg f i (n + 1) = f i :: seg f (i + 1) n := rfl
theorem rputs_cons {N : Nat} (r : RS) (b : Int32) (bs : List Int32) : rputs N r (b :: bs) = rputs N (rput N r b) bs := rfl
theorem rputs_nil {N : Nat} (r : RS) : rputs N r [] = r := rfl
theorem dec0_le {pay : RS} {hd mi b : Int32} (h : pay.2.1 ≤ 400) : (dec0 pay hd mi b).1.2.1 ≤ 400 := by
  unfold dec0
  split
  · show (beg0 pay hd b).2.1 ≤ 400
    unfold beg0
    split
    · exact h
    · split
      · exact h
      · exact rput_le h
  · exact rput_le h
theorem esc1_le {pay : RS} {br b : Int32} (h : pay.2.1 ≤ 400) : (esc1 pay br b).1.2.1 ≤ 400 := by
  unfold esc1
  split
  · exact rput_le h
  · split
    · exact rput_le h
    · exact h
theorem dec1_le {pay : RS} {br es b : Int32} (h : pay.2.1 ≤ 400) : (dec1 pay br es b).1.2.1 ≤ 400 := by
  unfold dec1
  split
  · split
    · exact h
    · exact rput_le h
  · exact esc1_le h
theorem hold2_le {pay : RS} {ck he ol ne b : Int32} (h : pay.2.1 ≤ 400) : (hold2 pay ck he ol ne b).1.2.1 ≤ 400 := by
  unfold hold2
  split
  · exact rput_le h
  · exact h
theorem dec2_le {pay : RS} {br es ck he ol ne b : Int32} (h : pay.2.1 ≤ 400) : (dec2 pay br es ck he ol ne b).1.2.1 ≤ 400 := by
  unfold dec2
  split
  · split
    · exact h
    · exact hold2_le h
  · split
    · exact h
    · exact hold2_le h
theorem finC_le {v : Int32} {pay kept : RS} {br bg hk : Int32} {ta : Nat → Int32} (h1 : pay.2.1 ≤ 400) (h2 : kept.2.1 ≤ 400) : (finC v (pay, kept, br, bg, hk, ta)).1.2.1 ≤ 400 ∧ (finC v (pay, kept, br, bg, hk, ta)).2.1.2.1 ≤ 400 := by
  unfold finC
  split
  · exact ⟨Nat.zero_le _, h2⟩
  · split
    · exact ⟨Nat.zero_le _, h1⟩
    · split
      · exact ⟨Nat.zero_le _, h2⟩
      · exact ⟨Nat.zero_le _, h2⟩
def by4 (x : Int32) : List Int32 := [ft_ushr x 24 &&& 255, ft_ushr x 16 &&& 255, ft_ushr x 8 &&& 255, ft_ushr x 0 &&& 255]
def feedX (t : RS) (a b c d e : Int32) : Int32 × RS := if 380 < t.2.1 then (0, t) else (1, rputs 400 (rputs 400 (rputs 400 (rputs 400 (rputs 400 t (by4 a)) (by4 b)) (by4 c)) (by4 d)) (by4 e))
def endX (t : RS) (n : Int32) : Int32 × RS := if n < 0 then (0, t) else if n ≤ nI t.2.1 then (1, rcut t n.toNatClampNeg) else (0, t)
def limX (most n : Int32) : Int32 × Int32 := if n < 1 then (0, most) else if n ≤ 400 then (1, n) else (0, most)
def mayT (emp : Int32) (t : RS) (most : Int32) : Int32 := if nI t.2.1 ≤ most then (if t.2.1 = 0 then emp else 1) else 0
def wfr (s : RS) (L : List Int32) : Int32 × RS := if (rputs 2000 s L).2.2 = 0 then (1, rputs 2000 s L) else (0, rcut (rputs 2000 s L) s.2.1)
def tellW (emp : Int32) (L : List Int32) (tape stream : RS) (most : Int32) : Int32 × RS × RS :=
  if mayT emp tape most = 0 then ((-1), rcut0 tape, stream) else if (wfr stream L).1 = 0 then ((-1), rcut0 tape, (wfr stream L).2) else (nI (wfr stream L).2.2.1, rcut0 tape, (wfr stream L).2)
def tellX (tape stream : RS) (most way : Int32) : Int32 × RS × RS :=
  if way = 0 then tellW 1 (e0 tape.1 tape.2.1 tape.2.1 0 0 0) tape stream most
  else if way = 1 then tellW 0 (e1 tape.1 tape.2.1 0) tape stream most
  else if way = 2 then tellW 0 (e2 tape.1 tape.2.1 0 65535) tape stream most
  else ((-1), rcut0 tape, stream)
def drn {σ : Type} (tk : Int32 → σ → Int32 × σ) (f : Nat → Int32) : Nat → Nat → Int32 → σ → Int32 × σ
  | 0, _, good, st => (good, st)
  | n + 1, i, good, st => drn tk f n (i + 1) (if (tk (f i) st).1 = 1 then good + 1 else good) (tk (f i) st).2
def ft_wv (g e c : Nat) : Nat → Option Nat := va_up (va_up (va_up (fun _ => none) 0 (some g)) 1 (some e)) 2 (some c)
def wayR (g e c : Nat) (i : Int32) (r : Option Nat) : Prop := (i = 0 ∧ r = some g) ∨ (i = 1 ∧ r = some e) ∨ (i = 2 ∧ r = some c) ∨ (¬ i = 0 ∧ ¬ i = 1 ∧ ¬ i = 2 ∧ r = none)
def wRow (h a : Nat) (cI : ClassId) (N : Nat) (r : RS) : va_W := [(h, .inr (3, [.ref a, .int (nI r.2.1), .int r.2.2])), (a, .inl (cI, N, .inl r.1))]
def wG (h qt : Nat) (cI : ClassId) (u : Nat × Nat × Nat × Nat × CS × Int32 × Int32) : va_W := match u with
  | (q1, q2, q3, q4, (pay, kept, br, bg, hk, ta), hd, mi) => [(h, .inr (2, [.int 0, .int 1, .ref q1, .ref q3, .int br, .int bg, .int hk, .ref qt, .int hd, .int mi])), (q1, .inr (3, [.ref q2, .int (nI pay.2.1), .int pay.2.2])), (q2, .inl (cI, 400, .inl pay.1)), (q3, .inr (3, [.ref q4, .int (nI kept.2.1), .int kept.2.2])), (q4, .inl (cI, 400, .inl kept.1)), (qt, .inl (cI, 4, .inl ta))]
def takeG (most b : Int32) (st : CS × Int32 × Int32) : Int32 × CS × Int32 × Int32 := match st with
  | ((pay, kept, br, bg, hk, ta), hd, mi) => if b = 0 then ((judge 1 br bg pay (whole0 hd mi) most), finC (judge 1 br bg pay (whole0 hd mi) most) (pay, kept, br, bg, hk, ta), 0, 0) else if br = 0 then (0, (((dec0 pay hd mi b).1, kept, br, 1, hk, ta), (dec0 pay hd mi b).2)) else (0, (pay, kept, br, 1, hk, ta), hd, mi)
def wE (h qt : Nat) (cI : ClassId) (u : Nat × Nat × Nat × Nat × CS × Int32) : va_W := match u with
  | (q1, q2, q3, q4, (pay, kept, br, bg, hk, ta), es) => [(h, .inr (1, [.int 192, .int 0, .ref q1, .ref q3, .int br, .int bg, .int hk, .ref qt, .int es])), (q1, .inr (3, [.ref q2, .int (nI pay.2.1), .int pay.2.2])), (q2, .inl (cI, 400, .inl pay.1)), (q3, .inr (3, [.ref q4, .int (nI kept.2.1), .int kept.2.2])), (q4, .inl (cI, 400, .inl kept.1)), (qt, .inl (cI, 4, .inl ta))]
def takeE (most b : Int32) (st : CS × Int32) : Int32 × CS × Int32 := match st with
  | ((pay, kept, br, bg, hk, ta), es) => if b = 192 then ((judge 0 br bg pay (whole1 es) most), finC (judge 0 br bg pay (whole1 es) most) (pay, kept, br, bg, hk, ta), 0) else if br = 0 then (0, (((dec1 pay br es b).1, kept, (dec1 pay br es b).2.1, 1, hk, ta), (dec1 pay br es b).2.2)) else (0, (pay, kept, br, 1, hk, ta), es)
def wC (h qt : Nat) (cI : ClassId) (u : Nat × Nat × Nat × Nat × CS × Int32 × Int32 × Int32 × Int32 × Int32) : va_W := match u with
  | (q1, q2, q3, q4, (pay, kept, br, bg, hk, ta), es, ck, he, ol, ne) => [(h, .inr (0, [.int 126, .int 0, .ref q1, .ref q3, .int br, .int bg, .int hk, .ref qt, .int es, .int ck, .int he, .int ol, .int ne])), (q1, .inr (3, [.ref q2, .int (nI pay.2.1), .int pay.2.2])), (q2, .inl (cI, 400, .inl pay.1)), (q3, .inr (3, [.ref q4, .int (nI kept.2.1), .int kept.2.2])), (q4, .inl (cI, 400, .inl kept.1)), (qt, .inl (cI, 4, .inl ta))]
def takeC (most b : Int32) (st : CS × Int32 × Int32 × Int32 × Int32 × Int32) : Int32 × CS × Int32 × Int32 × Int32 × Int32 × Int32 := match st with
  | ((pay, kept, br, bg, hk, ta), es, ck, he, ol, ne) => if b = 126 then ((judge 0 br bg pay (whole2 pay es ck ol ne) most), finC (judge 0 br bg pay (whole2 pay es ck ol ne) most) (pay, kept, br, bg, hk, ta), 0, 65535, 0, 0, 0) else if br = 0 then (0, (((dec2 pay br es ck he ol ne b).1, kept, (dec2 pay br es ck he ol ne b).2.1, 1, hk, ta), (dec2 pay br es ck he ol ne b).2.2)) else (0, (pay, kept, br, 1, hk, ta), es, ck, he, ol, ne)
def tal (ta : Nat → Int32) (k : Int32) : Int32 := if k < 1 then (-1) else if 3 < k then (-1) else ta k.toNatClampNeg
theorem tal_in {k : Int32} (h1 : ¬ k < 1) (h3 : ¬ 3 < k) : vp_in k 4 := by
  rw [vp_in_iff]
  rw [Int32.lt_iff_toInt_lt] at h1 h3
  have e1 : (1 : Int32).toInt = 1 := by decide
  have e3 : (3 : Int32).toInt = 3 := by decide
  omega
theorem takeG_le {most b : Int32} {st : CS × Int32 × Int32} (h1 : st.1.1.2.1 ≤ 400) (h2 : st.1.2.1.2.1 ≤ 400) : (takeG most b st).2.1.1.2.1 ≤ 400 ∧ (takeG most b st).2.1.2.1.2.1 ≤ 400 := by
  obtain ⟨⟨pay, kept, br, bg, hk, ta⟩, hd, mi⟩ := st
  simp only [takeG]
  split
  · exact finC_le h1 h2
  · split
    · exact ⟨dec0_le h1, h2⟩
    · exact ⟨h1, h2⟩
theorem takeE_le {most b : Int32} {st : CS × Int32} (h1 : st.1.1.2.1 ≤ 400) (h2 : st.1.2.1.2.1 ≤ 400) : (takeE most b st).2.1.1.2.1 ≤ 400 ∧ (takeE most b st).2.1.2.1.2.1 ≤ 400 := by
  obtain ⟨⟨pay, kept, br, bg, hk, ta⟩, es⟩ := st
  simp only [takeE]
  split
  · exact finC_le h1 h2
  · split
    · exact ⟨dec1_le h1, h2⟩
    · exact ⟨h1, h2⟩
theorem takeC_le {most b : Int32} {st : CS × Int32 × Int32 × Int32 × Int32 × Int32} (h1 : st.1.1.2.1 ≤ 400) (h2 : st.1.2.1.2.1 ≤ 400) : (takeC most b st).2.1.1.2.1 ≤ 400 ∧ (takeC most b st).2.1.2.1.2.1 ≤ 400 := by
  obtain ⟨⟨pay, kept, br, bg, hk, ta⟩, es, ck, he, ol, ne⟩ := st
  simp only [takeC]
  split
  · exact finC_le h1 h2
  · split
    · exact ⟨dec2_le h1, h2⟩
    · exact ⟨h1, h2⟩
def comeX (most way b : Int32) (g : CS × Int32 × Int32) (e : CS × Int32) (c : CS × Int32 × Int32 × Int32 × Int32 × Int32) : Int32 × (CS × Int32 × Int32) × (CS × Int32) × (CS × Int32 × Int32 × Int32 × Int32 × Int32) :=
  if way = 0 then ((takeG most (b &&& 255) g).1, (takeG most (b &&& 255) g).2, e, c)
  else if way = 1 then ((takeE most (b &&& 255) e).1, g, (takeE most (b &&& 255) e).2, c)
  else if way = 2 then ((takeC most (b &&& 255) c).1, g, e, (takeC most (b &&& 255) c).2)
  else ((-1), g, e, c)
def drX (z r : RS) (most way : Int32) (g : CS × Int32 × Int32) (e : CS × Int32) (c : CS × Int32 × Int32 × Int32 × Int32 × Int32) : Int32 × RS × (CS × Int32 × Int32) × (CS × Int32) × (CS × Int32 × Int32 × Int32 × Int32 × Int32) :=
  if way = 0 then ((drn (takeG most) r.1 r.2.1 0 0 g).1, rcut0 r, (drn (takeG most) r.1 r.2.1 0 0 g).2, e, c)
  else if way = 1 then ((drn (takeE most) r.1 r.2.1 0 0 e).1, rcut0 r, g, (drn (takeE most) r.1 r.2.1 0 0 e).2, c)
  else if way = 2 then ((drn (takeC most) r.1 r.2.1 0 0 c).1, rcut0 r, g, e, (drn (takeC most) r.1 r.2.1 0 0 c).2)
  else ((-1), z, g, e, c)
def latV (hk : Int32) (kept : RS) : Int32 := if hk = 0 then (-1) else nI kept.2.1
def pick3 (way a b c : Int32) : Int32 := if way = 0 then a else if way = 1 then b else if way = 2 then c else (-1)
theorem rhas_nar (n : Nat) (i : Int32) : narrow .boolean (.int (rhas n i)) = .int (rhas n i) := by
  unfold rhas
  split
  · split <;> decide
  · decide
theorem way_3 {i : Int32} (h0 : ¬ i < 0) (h3 : ¬ nI 3 ≤ i) : ∃ j : Nat, j < 3 ∧ i = nI j := by
  obtain ⟨j, hj, rfl⟩ := nI_of h0
  refine ⟨j, ?_, rfl⟩
  rcases Nat.lt_or_ge j 3 with q | q
  · exact q
  · exact absurd (nI_le q hj) h3
theorem way_inb {i : Int32} (h0 : ¬ i < 0) (h3 : ¬ nI 3 ≤ i) : vp_in i 3 := by
  obtain ⟨j, hj, rfl⟩ := way_3 h0 h3
  exact vp_in_nI hj (by omega)
theorem way_in {g e c : Nat} {i : Int32} (h0 : ¬ i < 0) (h3 : ¬ nI 3 ≤ i) : wayR g e c i (ft_wv g e c i.toNatClampNeg) := by
  obtain ⟨j, hj, rfl⟩ := way_3 h0 h3
  rw [nI_clamp (n := j) (by omega)]
  rcases (show j = 0 ∨ j = 1 ∨ j = 2 by omega) with rfl | rfl | rfl
  · exact Or.inl ⟨rfl, rfl⟩
  · exact Or.inr (Or.inl ⟨rfl, rfl⟩)
  · exact Or.inr (Or.inr (Or.inl ⟨rfl, rfl⟩))
theorem way_out1 {i : Int32} (h0 : i < 0) : ¬ i = 0 ∧ ¬ i = 1 ∧ ¬ i = 2 ∧ (none : Option Nat) = none :=
  ⟨fun q => by rw [q] at h0; exact absurd h0 (by decide), fun q => by rw [q] at h0; exact absurd h0 (by decide), fun q => by rw [q] at h0; exact absurd h0 (by decide), rfl⟩
theorem way_out2 {i : Int32} (_ : ¬ i < 0) (h3 : nI 3 ≤ i) : ¬ i = 0 ∧ ¬ i = 1 ∧ ¬ i = 2 ∧ (none : Option Nat) = none :=
  ⟨fun q => by rw [q] at h3; exact absurd h3 (by decide), fun q => by rw [q] at h3; exact absurd h3 (by decide), fun q => by rw [q] at h3; exact absurd h3 (by decide), rfl⟩
end
section
set_option maxHeartbeats 4000000 in
set_option maxRecDepth 100000 in
/-- put -/
theorem c_Row_put (l : Launch) (D : va_G) (cI : ClassId) (h a N : Nat) (hN : N ≤ 2000) (r : RS) (hr0 : r.2.1 ≤ N) (b : Int32) (sz : Nat) : ft_Mv l y_Row_put (.code y_Row_put b_Row_put 2 none :: ft_big) ({ frames := 0, cells := 0, slots := 0, locals := 0 }) D [(cI, .int)] sz [.ref h, .int b] (wRow h a cI N r) (fun u : RS => u = rput N r b) (wRow h a cI N) 0 0 := by
  refine ft_ev (cc := b_Row_put) (maxL := 2) (ret := none) (by decide) rfl (Nat.le_of_ble_eq_true rfl) ?_
  intro p e s m below meth c A ls hx hb hr hml hts hown hlocks hmn hP hK hD hA hS hNW hl
  have ht : ∀ w ∈ ft_big, w.before _ s = true := fun w h => hts w (List.mem_cons_of_mem _ h)
  have hP : va_P D vwCl [(h, .inr (3, [.ref a, .int (nI r.2.1), .int r.2.2])), (a, .inl (cI, N, .inl r.1))] s.heap := hP
  have hD : va_D A [(h, .inr (3, [.ref a, .int (nI r.2.1), .int r.2.2])), (a, .inl (cI, N, .inl r.1))] := hD
  have hl : lv_has ls 2 [(0, .ref h), (1, .int b)] := hl
  refine lv_aload_n hx hb d_Row_put_0 rfl (lv_at hl 0 rfl) ?_
  refine va_get (D := D) (ci := 3) (v := .int (nI r.2.1)) (C := R_Row) (T := F_Row) (N := 3) hx hb ht bi_Row hown hK hP 0 rfl rfl 1 (by decide) (ht _ bw_58) (fun _ h9 => h9) rfl d_Row_put_1 ?_
  refine lv_if_lt (tgt := 42) hx hb d_Row_put_4 (by decide) (fun c4 => absurd c4 (nI_pos (by omega))) (fun c4 => ?_)
  refine lv_aload_n hx hb d_Row_put_7 rfl (lv_at hl 0 rfl) ?_
  refine va_get (D := D) (ci := 3) (v := .int (nI r.2.1)) (C := R_Row) (T := F_Row) (N := 3) hx hb ht bi_Row hown hK hP 0 rfl rfl 1 (by decide) (ht _ bw_58) (fun _ h9 => h9) rfl d_Row_put_8 ?_
  refine lv_aload_n hx hb d_Row_put_11 rfl (lv_at hl 0 rfl) ?_
  refine va_get (D := D) (ci := 3) (v := .ref a) (C := R_Row) (T := F_Row) (N := 3) hx hb ht bi_Row hown hK hP 0 rfl rfl 0 (by decide) (ht _ bw_57) (fun _ h9 => h9) rfl d_Row_put_12 ?_
  refine va_alen (v := nI N) hx hb hK hP 1 0 rfl rfl rfl d_Row_put_15 ?_
  refine lv_icmp_ge (tgt := 42) hx hb d_Row_put_16 (by decide) (fun c16 => ?_) (fun c16 => ?_)
  · skip
    have c16 : N ≤ r.2.1 := (nI_leI (by omega) (by omega)).mp c16
    refine lv_aload_n hx hb d_Row_put_42 rfl (lv_at hl 0 rfl) ?_
    refine lv_iconst (v := 1) hx hb d_Row_put_43 (by decide +kernel) ?_
    refine va_put (D := D) (ci := 3) (v := .int 1) (ty := .boolean) (C := R_Row) (T := F_Row) (N := 3) hx hb ht bi_Row t_Row t_Row_ok n_Row hown hK hP hD hS 0 rfl rfl 2 (by decide) (ht _ bw_64) (fun _ h9 => h9) rfl (by decide +kernel) rfl rfl (Nat.le_of_ble_eq_true rfl) d_Row_put_44 (fun H locs hP hD hS => ?_)
    have hP : va_P D vwCl [(h, .inr (3, [.ref a, .int (nI r.2.1), .int 1])), (a, .inl (cI, N, .inl r.1))] H := hP
    have hD : va_D A [(h, .inr (3, [.ref a, .int (nI r.2.1), .int 1])), (a, .inl (cI, N, .inl r.1))] := hD
    exact ft_retv (r.1, r.2.1, 1) hx hb hr hlocks hP hK hD hS (by show _ = rput N r b; unfold rput; rw [if_neg (by omega)]) d_Row_put_47
  · skip
    have c16 : ¬ N ≤ r.2.1 := fun h => c16 ((nI_leI (by omega) (by omega)).mpr h)
    refine lv_aload_n hx hb d_Row_put_19 rfl (lv_at hl 0 rfl) ?_
    refine va_get (D := D) (ci := 3) (v := .ref a) (C := R_Row) (T := F_Row) (N := 3) hx hb ht bi_Row hown hK hP 0 rfl rfl 0 (by decide) (ht _ bw_57) (fun _ h9 => h9) rfl d_Row_put_20 ?_
    refine lv_aload_n hx hb d_Row_put_23 rfl (lv_at hl 0 rfl) ?_
    refine va_get (D := D) (ci := 3) (v := .int (nI r.2.1)) (C := R_Row) (T := F_Row) (N := 3) hx hb ht bi_Row hown hK hP 0 rfl rfl 1 (by decide) (ht _ bw_58) (fun _ h9 => h9) rfl d_Row_put_24 ?_
    refine lv_iload_n hx hb d_Row_put_27 rfl (lv_at hl 1 rfl) ?_
    refine va_iast hx hb hK hP hD hS 1 0 rfl rfl (vp_in_nI (by omega) (by omega)) d_Row_put_28 (fun H locs hP hD hS => ?_)
    rw [nI_clamp (n := r.2.1) (by omega)] at hP hD
    have hP : va_P D vwCl [(h, .inr (3, [.ref a, .int (nI r.2.1), .int r.2.2])), (a, .inl (cI, N, .inl (upd r.1 r.2.1 b)))] H := hP
    have hD : va_D A [(h, .inr (3, [.ref a, .int (nI r.2.1), .int r.2.2])), (a, .inl (cI, N, .inl (upd r.1 r.2.1 b)))] := hD
    refine lv_aload_n hx hb d_Row_put_29 rfl (lv_at hl 0 rfl) ?_
    refine lv_dup hx hb d_Row_put_30 rfl ?_
    refine va_get (D := D) (ci := 3) (v := .int (nI r.2.1)) (C := R_Row) (T := F_Row) (N := 3) hx hb ht bi_Row hown hK hP 0 rfl rfl 1 (by decide) (ht _ bw_58) (fun _ h9 => h9) rfl d_Row_put_31 ?_
    refine lv_iconst (v := 1) hx hb d_Row_put_34 (by decide +kernel) ?_
    refine lv_iadd hx hb d_Row_put_35 ?_
    refine ft_top (nI_1 r.2.1) ?_
    refine va_put (D := D) (ci := 3) (v := .int (nI (r.2.1 + 1))) (ty := .int) (C := R_Row) (T := F_Row) (N := 3) hx hb ht bi_Row t_Row t_Row_ok n_Row hown hK hP hD hS 0 rfl rfl 1 (by decide) (ht _ bw_58) (fun _ h9 => h9) rfl (by decide +kernel) rfl rfl (Nat.le_of_ble_eq_true rfl) d_Row_put_36 (fun H locs hP hD hS => ?_)
    have hP : va_P D vwCl [(h, .inr (3, [.ref a, .int (nI (r.2.1 + 1)), .int r.2.2])), (a, .inl (cI, N, .inl (upd r.1 r.2.1 b)))] H := hP
    have hD : va_D A [(h, .inr (3, [.ref a, .int (nI (r.2.1 + 1)), .int r.2.2])), (a, .inl (cI, N, .inl (upd r.1 r.2.1 b)))] := hD
    refine lv_goto (tgt := 47) hx hb d_Row_put_39 (by decide) ?_
    exact ft_retv (upd r.1 r.2.1 b, r.2.1 + 1, r.2.2) hx hb hr hlocks hP hK hD hS (by show _ = rput N r b; unfold rput; rw [if_pos (by omega)]) d_Row_put_47

set_option maxHeartbeats 4000000 in
set_option maxRecDepth 100000 in
/-- holds -/
theorem c_Row_holds (l : Launch) (D : va_G) (cI : ClassId) (h a N : Nat) (hN : N ≤ 2000) (r : RS) (hr0 : r.2.1 ≤ N) (i : Int32) (sz : Nat) : ft_Mi l y_Row_holds (.code y_Row_holds b_Row_holds 2 (some .boolean) :: ft_big) ({ frames := 0, cells := 0, slots := 0, locals := 0 }) D [(cI, .int)] sz [.ref h, .int i] (wRow h a cI N r) (fun (v : Int32) (_ : Unit) => v = rhas r.2.1 i) (fun _ => wRow h a cI N r) 0 0 := by
  refine ft_ei (cc := b_Row_holds) (maxL := 2) (ret := (some .boolean)) (by decide) rfl (Nat.le_of_ble_eq_true rfl) ?_
  intro p e s m below meth c A ls hx hb hr hml hts hown hlocks hmn hP hK hD hA hS hNW hl
  have ht : ∀ w ∈ ft_big, w.before _ s = true := fun w h => hts w (List.mem_cons_of_mem _ h)
  have hP : va_P D vwCl [(h, .inr (3, [.ref a, .int (nI r.2.1), .int r.2.2])), (a, .inl (cI, N, .inl r.1))] s.heap := hP
  have hD : va_D A [(h, .inr (3, [.ref a, .int (nI r.2.1), .int r.2.2])), (a, .inl (cI, N, .inl r.1))] := hD
  have hl : lv_has ls 2 [(0, .ref h), (1, .int i)] := hl
  refine lv_iload_n hx hb d_Row_holds_0 rfl (lv_at hl 1 rfl) ?_
  refine lv_if_lt (tgt := 25) hx hb d_Row_holds_1 (by decide) (fun c1 => ?_) (fun c1 => ?_)
  · skip
    refine lv_iconst (v := 0) hx hb d_Row_holds_25 (by decide +kernel) ?_
    exact ft_retz () hx hb hr (by decide) hlocks hP hK hD hS (by show (0 : Int32) = rhas r.2.1 i; unfold rhas; simp [c1]) d_Row_holds_26
  · skip
    refine lv_iload_n hx hb d_Row_holds_4 rfl (lv_at hl 1 rfl) ?_
    refine lv_aload_n hx hb d_Row_holds_5 rfl (lv_at hl 0 rfl) ?_
    refine va_get (D := D) (ci := 3) (v := .int (nI r.2.1)) (C := R_Row) (T := F_Row) (N := 3) hx hb ht bi_Row hown hK hP 0 rfl rfl 1 (by decide) (ht _ bw_58) (fun _ h9 => h9) rfl d_Row_holds_6 ?_
    refine lv_icmp_ge (tgt := 25) hx hb d_Row_holds_9 (by decide) (fun c9 => ?_) (fun c9 => ?_)
    · skip
      refine lv_iconst (v := 0) hx hb d_Row_holds_25 (by decide +kernel) ?_
      exact ft_retz () hx hb hr (by decide) hlocks hP hK hD hS (by show (0 : Int32) = rhas r.2.1 i; unfold rhas; simp [c1, c9]) d_Row_holds_26
    · skip
      refine lv_iload_n hx hb d_Row_holds_12 rfl (lv_at hl 1 rfl) ?_
      refine lv_aload_n hx hb d_Row_holds_13 rfl (lv_at hl 0 rfl) ?_
      refine va_get (D := D) (ci := 3) (v := .ref a) (C := R_Row) (T := F_Row) (N := 3) hx hb ht bi_Row hown hK hP 0 rfl rfl 0 (by decide) (ht _ bw_57) (fun _ h9 => h9) rfl d_Row_holds_14 ?_
      refine va_alen (v := nI N) hx hb hK hP 1 0 rfl rfl rfl d_Row_holds_17 ?_
      refine lv_icmp_ge (tgt := 25) hx hb d_Row_holds_18 (by decide) (fun c18 => absurd c18 (fun h => c9 (Int32.le_trans (nI_le hr0 (by omega)) h))) (fun c18 => ?_)
      refine lv_iconst (v := 1) hx hb d_Row_holds_21 (by decide +kernel) ?_
      refine lv_goto (tgt := 26) hx hb d_Row_holds_22 (by decide) ?_
      exact ft_retz () hx hb hr (by decide) hlocks hP hK hD hS (by show (1 : Int32) = rhas r.2.1 i; unfold rhas; simp [c1, c9, c18]) d_Row_holds_26

set_option maxHeartbeats 4000000 in
set_option maxRecDepth 100000 in
/-- byteAt -/
theorem c_Row_byteAt (l : Launch) (D : va_G) (cI : ClassId) (h a N : Nat) (hN : N ≤ 2000) (r : RS) (hr0 : r.2.1 ≤ N) (i : Int32) (sz : Nat) : ft_Mi l y_Row_byteAt (.code y_Row_byteAt b_Row_byteAt 2 (some .int) :: ft_big) ({ frames := 1, cells := 0, slots := 0, locals := 40 }) D [(cI, .int)] sz [.ref h, .int i] (wRow h a cI N r) (fun (v : Int32) (_ : Unit) => v = rat r i) (fun _ => wRow h a cI N r) 0 0 := by
  refine ft_ei (cc := b_Row_byteAt) (maxL := 2) (ret := (some .int)) (by decide) rfl (Nat.le_of_ble_eq_true rfl) ?_
  intro p e s m below meth c A ls hx hb hr hml hts hown hlocks hmn hP hK hD hA hS hNW hl
  have ht : ∀ w ∈ ft_big, w.before _ s = true := fun w h => hts w (List.mem_cons_of_mem _ h)
  have hP : va_P D vwCl [(h, .inr (3, [.ref a, .int (nI r.2.1), .int r.2.2])), (a, .inl (cI, N, .inl r.1))] s.heap := hP
  have hD : va_D A [(h, .inr (3, [.ref a, .int (nI r.2.1), .int r.2.2])), (a, .inl (cI, N, .inl r.1))] := hD
  have hl : lv_has ls 2 [(0, .ref h), (1, .int i)] := hl
  refine lv_aload_n hx hb d_Row_byteAt_0 rfl (lv_at hl 0 rfl) ?_
  refine lv_iload_n hx hb d_Row_byteAt_1 rfl (lv_at hl 1 rfl) ?_
  refine ft_ci (wc := [(h, .inr (3, [.ref a, .int (nI r.2.1), .int r.2.2])), (a, .inl (cI, N, .inl r.1))]) (wr := []) (va_runV (As := [.int i]) (rest := []) ⟨hx, hb, hml, hown, ht⟩ (c_Row_holds l D cI h a N hN r hr0 i s.heap.size) (ft_cwV 1 ht bw_243 bw_245 bw_13 bw_33 bw_246 (by decide) ⟨Nat.le_of_ble_eq_true rfl, Nat.le_of_ble_eq_true rfl⟩) ⟨ft_blind, va_recv hK hP (ci := 3) (q0 := 0) rfl rfl, (ft_pre hP hD hK hNW [0, 1] [0] rfl rfl (by decide) rfl _)⟩ rfl rfl hl.1 rfl (lv_room (Nat.le_of_ble_eq_true rfl)) d_Row_byteAt_2 ⟨Nat.le_of_ble_eq_true rfl, Nat.le_of_ble_eq_true rfl⟩) hP hD hS hA [0, 1] [] rfl rfl (by decide) (by decide) (fun r_1 u_2 H locs hu_2 hP hD hS => ?_)
  subst hu_2
  have hP : va_P D vwCl [(h, .inr (3, [.ref a, .int (nI r.2.1), .int r.2.2])), (a, .inl (cI, N, .inl r.1))] H := hP
  have hD : va_D A [(h, .inr (3, [.ref a, .int (nI r.2.1), .int r.2.2])), (a, .inl (cI, N, .inl r.1))] := hD
  refine lv_if_eq (tgt := 17) hx hb d_Row_byteAt_5 (by decide) (fun c5 => ?_) (fun c5 => ?_)
  · skip
    refine lv_iconst (v := (-1)) hx hb d_Row_byteAt_17 (by decide +kernel) ?_
    exact ft_reti () hx hb hr hlocks hP hK hD hS (by show _ = rat r i; unfold rat; simp [c5]) d_Row_byteAt_18
  · skip
    refine lv_aload_n hx hb d_Row_byteAt_8 rfl (lv_at hl 0 rfl) ?_
    refine va_get (D := D) (ci := 3) (v := .ref a) (C := R_Row) (T := F_Row) (N := 3) hx hb ht bi_Row hown hK hP 0 rfl rfl 0 (by decide) (ht _ bw_57) (fun _ h9 => h9) rfl d_Row_byteAt_9 ?_
    refine lv_iload_n hx hb d_Row_byteAt_12 rfl (lv_at hl 1 rfl) ?_
    refine va_iald hx hb hK hP 1 0 rfl rfl (rhas_in c5 hr0 (by omega)) d_Row_byteAt_13 ?_
    refine lv_goto (tgt := 18) hx hb d_Row_byteAt_14 (by decide) ?_
    exact ft_reti () hx hb hr hlocks hP hK hD hS (by show _ = rat r i; unfold rat; simp [c5]) d_Row_byteAt_18

set_option maxHeartbeats 4000000 in
set_option maxRecDepth 100000 in
/-- turn -/
theorem c_Row_turn (l : Launch) (D : va_G) (cI : ClassId) (h a N : Nat) (hN : N ≤ 2000) (r : RS) (hr0 : r.2.1 ≤ N) (i k : Int32) (sz : Nat) : ft_Mi l y_Row_turn (.code y_Row_turn b_Row_turn 3 (some .boolean) :: ft_big) ({ frames := 1, cells := 0, slots := 0, locals := 40 }) D [(cI, .int)] sz [.ref h, .int i, .int k] (wRow h a cI N r) (fun (v : Int32) (u : RS) => v = rhas r.2.1 i ∧ u = rturn r i k) (wRow h a cI N) 0 0 := by
  refine ft_ei (cc := b_Row_turn) (maxL := 3) (ret := (some .boolean)) (by decide) rfl (Nat.le_of_ble_eq_true rfl) ?_
  intro p e s m below meth c A ls hx hb hr hml hts hown hlocks hmn hP hK hD hA hS hNW hl
  have ht : ∀ w ∈ ft_big, w.before _ s = true := fun w h => hts w (List.mem_cons_of_mem _ h)
  have hP : va_P D vwCl [(h, .inr (3, [.ref a, .int (nI r.2.1), .int r.2.2])), (a, .inl (cI, N, .inl r.1))] s.heap := hP
  have hD : va_D A [(h, .inr (3, [.ref a, .int (nI r.2.1), .int r.2.2])), (a, .inl (cI, N, .inl r.1))] := hD
  have hl : lv_has ls 3 [(0, .ref h), (1, .int i), (2, .int k)] := hl
  refine lv_aload_n hx hb d_Row_turn_0 rfl (lv_at hl 0 rfl) ?_
  refine lv_iload_n hx hb d_Row_turn_1 rfl (lv_at hl 1 rfl) ?_
  refine ft_ci (wc := [(h, .inr (3, [.ref a, .int (nI r.2.1), .int r.2.2])), (a, .inl (cI, N, .inl r.1))]) (wr := []) (va_runV (As := [.int i]) (rest := []) ⟨hx, hb, hml, hown, ht⟩ (c_Row_holds l D cI h a N hN r hr0 i s.heap.size) (ft_cwV 1 ht bw_243 bw_245 bw_13 bw_33 bw_246 (by decide) ⟨Nat.le_of_ble_eq_true rfl, Nat.le_of_ble_eq_true rfl⟩) ⟨ft_blind, va_recv hK hP (ci := 3) (q0 := 0) rfl rfl, (ft_pre hP hD hK hNW [0, 1] [0] rfl rfl (by decide) rfl _)⟩ rfl rfl hl.1 rfl (lv_room (Nat.le_of_ble_eq_true rfl)) d_Row_turn_2 ⟨Nat.le_of_ble_eq_true rfl, Nat.le_of_ble_eq_true rfl⟩) hP hD hS hA [0, 1] [] rfl rfl (by decide) (by decide) (fun r_1 u_2 H locs hu_2 hP hD hS => ?_)
  subst hu_2
  have hP : va_P D vwCl [(h, .inr (3, [.ref a, .int (nI r.2.1), .int r.2.2])), (a, .inl (cI, N, .inl r.1))] H := hP
  have hD : va_D A [(h, .inr (3, [.ref a, .int (nI r.2.1), .int r.2.2])), (a, .inl (cI, N, .inl r.1))] := hD
  refine lv_if_ne (tgt := 10) hx hb d_Row_turn_5 (by decide) (fun c5 => ?_) (fun c5 => ?_)
  · skip
    refine lv_aload_n hx hb d_Row_turn_10 rfl (lv_at hl 0 rfl) ?_
    refine va_get (D := D) (ci := 3) (v := .ref a) (C := R_Row) (T := F_Row) (N := 3) hx hb ht bi_Row hown hK hP 0 rfl rfl 0 (by decide) (ht _ bw_57) (fun _ h9 => h9) rfl d_Row_turn_11 ?_
    refine lv_iload_n hx hb d_Row_turn_14 rfl (lv_at hl 1 rfl) ?_
    refine lv_dup2_11 hx hb d_Row_turn_15 rfl rfl ?_
    refine va_iald hx hb hK hP 1 0 rfl rfl (rhas_in c5 hr0 (by omega)) d_Row_turn_16 ?_
    refine lv_iload_n hx hb d_Row_turn_17 rfl (lv_at hl 2 rfl) ?_
    refine lv_ixor hx hb d_Row_turn_18 ?_
    refine va_iast hx hb hK hP hD hS 1 0 rfl rfl (rhas_in c5 hr0 (by omega)) d_Row_turn_19 (fun H locs hP hD hS => ?_)
    have hP : va_P D vwCl [(h, .inr (3, [.ref a, .int (nI r.2.1), .int r.2.2])), (a, .inl (cI, N, .inl (upd r.1 i.toNatClampNeg ((r.1 i.toNatClampNeg) ^^^ k))))] H := hP
    have hD : va_D A [(h, .inr (3, [.ref a, .int (nI r.2.1), .int r.2.2])), (a, .inl (cI, N, .inl (upd r.1 i.toNatClampNeg ((r.1 i.toNatClampNeg) ^^^ k))))] := hD
    refine lv_iconst (v := 1) hx hb d_Row_turn_20 (by decide +kernel) ?_
    exact ft_retz (upd r.1 i.toNatClampNeg ((r.1 i.toNatClampNeg) ^^^ k), r.2.1, r.2.2) hx hb hr (by decide) hlocks hP hK hD hS ⟨(rhas_ne c5).symm, (by show _ = rturn r i k; unfold rturn; simp [c5])⟩ d_Row_turn_21
  · skip
    refine lv_iconst (v := 0) hx hb d_Row_turn_8 (by decide +kernel) ?_
    exact ft_retz (r.1, r.2.1, r.2.2) hx hb hr (by decide) hlocks hP hK hD hS ⟨c5.symm, (by show _ = rturn r i k; unfold rturn; simp [c5])⟩ d_Row_turn_9

set_option maxHeartbeats 4000000 in
set_option maxRecDepth 100000 in
/-- cutTo -/
theorem c_Row_cutTo (l : Launch) (D : va_G) (cI : ClassId) (h a N : Nat) (hN : N ≤ 2000) (r : RS) (hr0 : r.2.1 ≤ N) (j : Nat) (hj : j ≤ 2000) (sz : Nat) : ft_Mv l y_Row_cutTo (.code y_Row_cutTo b_Row_cutTo 2 none :: ft_big) ({ frames := 0, cells := 0, slots := 0, locals := 0 }) D [(cI, .int)] sz [.ref h, .int (nI j)] (wRow h a cI N r) (fun u : RS => u = rcut r j) (wRow h a cI N) 0 0 := by
  refine ft_ev (cc := b_Row_cutTo) (maxL := 2) (ret := none) (by decide) rfl (Nat.le_of_ble_eq_true rfl) ?_
  intro p e s m below meth c A ls hx hb hr hml hts hown hlocks hmn hP hK hD hA hS hNW hl
  have ht : ∀ w ∈ ft_big, w.before _ s = true := fun w h => hts w (List.mem_cons_of_mem _ h)
  have hP : va_P D vwCl [(h, .inr (3, [.ref a, .int (nI r.2.1), .int r.2.2])), (a, .inl (cI, N, .inl r.1))] s.heap := hP
  have hD : va_D A [(h, .inr (3, [.ref a, .int (nI r.2.1), .int r.2.2])), (a, .inl (cI, N, .inl r.1))] := hD
  have hl : lv_has ls 2 [(0, .ref h), (1, .int (nI j))] := hl
  refine lv_iload_n hx hb d_Row_cutTo_0 rfl (lv_at hl 1 rfl) ?_
  refine lv_if_lt (tgt := 22) hx hb d_Row_cutTo_1 (by decide) (fun c1 => absurd c1 (nI_pos (by omega))) (fun c1 => ?_)
  refine lv_iload_n hx hb d_Row_cutTo_4 rfl (lv_at hl 1 rfl) ?_
  refine lv_aload_n hx hb d_Row_cutTo_5 rfl (lv_at hl 0 rfl) ?_
  refine va_get (D := D) (ci := 3) (v := .int (nI r.2.1)) (C := R_Row) (T := F_Row) (N := 3) hx hb ht bi_Row hown hK hP 0 rfl rfl 1 (by decide) (ht _ bw_58) (fun _ h9 => h9) rfl d_Row_cutTo_6 ?_
  refine lv_icmp_gt (tgt := 22) hx hb d_Row_cutTo_9 (by decide) (fun c9 => ?_) (fun c9 => ?_)
  · skip
    have c9 : r.2.1 < j := (nI_ltI (by omega) (by omega)).mp c9
    exact ft_retv (r.1, r.2.1, r.2.2) hx hb hr hlocks hP hK hD hS (by show _ = rcut r j; unfold rcut; rw [if_neg (by omega)]) d_Row_cutTo_22
  · skip
    have c9 : ¬ r.2.1 < j := fun h => c9 ((nI_ltI (by omega) (by omega)).mpr h)
    refine lv_aload_n hx hb d_Row_cutTo_12 rfl (lv_at hl 0 rfl) ?_
    refine lv_iload_n hx hb d_Row_cutTo_13 rfl (lv_at hl 1 rfl) ?_
    refine va_put (D := D) (ci := 3) (v := .int (nI j)) (ty := .int) (C := R_Row) (T := F_Row) (N := 3) hx hb ht bi_Row t_Row t_Row_ok n_Row hown hK hP hD hS 0 rfl rfl 1 (by decide) (ht _ bw_58) (fun _ h9 => h9) rfl (by decide +kernel) rfl rfl (Nat.le_of_ble_eq_true rfl) d_Row_cutTo_14 (fun H locs hP hD hS => ?_)
    have hP : va_P D vwCl [(h, .inr (3, [.ref a, .int (nI j), .int r.2.2])), (a, .inl (cI, N, .inl r.1))] H := hP
    have hD : va_D A [(h, .inr (3, [.ref a, .int (nI j), .int r.2.2])), (a, .inl (cI, N, .inl r.1))] := hD
    refine lv_aload_n hx hb d_Row_cutTo_17 rfl (lv_at hl 0 rfl) ?_
    refine lv_iconst (v := 0) hx hb d_Row_cutTo_18 (by decide +kernel) ?_
    refine va_put (D := D) (ci := 3) (v := .int 0) (ty := .boolean) (C := R_Row) (T := F_Row) (N := 3) hx hb ht bi_Row t_Row t_Row_ok n_Row hown hK hP hD hS 0 rfl rfl 2 (by decide) (ht _ bw_64) (fun _ h9 => h9) rfl (by decide +kernel) rfl rfl (Nat.le_of_ble_eq_true rfl) d_Row_cutTo_19 (fun H locs hP hD hS => ?_)
    have hP : va_P D vwCl [(h, .inr (3, [.ref a, .int (nI j), .int 0])), (a, .inl (cI, N, .inl r.1))] H := hP
    have hD : va_D A [(h, .inr (3, [.ref a, .int (nI j), .int 0])), (a, .inl (cI, N, .inl r.1))] := hD
    exact ft_retv (r.1, j, 0) hx hb hr hlocks hP hK hD hS (by show _ = rcut r j; unfold rcut; rw [if_pos (by omega)]) d_Row_cutTo_22
end
