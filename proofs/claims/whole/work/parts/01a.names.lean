/-- a private method of a class that the tables say can be made, by its rows of tables_1 -/
def lw_okq (q : MethodName × Nat) : Prop := (q.1.cls ≠ "java/lang/invoke/MethodHandle" ∧ q.1.cls ≠ "java/lang/invoke/VarHandle") ∧ Cond.instantiable q.1.cls q.2 ∈ tables_1 ∧ Cond.privateMethod q.1 ∈ tables_1 ∧ Cond.instanceMethod q.1 ∈ tables_1
theorem lw_p0 : lw_okq (⟨"FramingTrio", "appendToTape", "(I)V"⟩, 4) := ⟨⟨by decide +kernel, by decide +kernel⟩, List.mem_of_getElem? (i := 10) (by decide +kernel), List.mem_of_getElem? (i := 167) (by decide +kernel), List.mem_of_getElem? (i := 168) (by decide +kernel)⟩
theorem lw_p1 : lw_okq (⟨"FramingTrio", "wayOf", "(I)LFramingTrio$Way;"⟩, 4) := ⟨⟨by decide +kernel, by decide +kernel⟩, List.mem_of_getElem? (i := 10) (by decide +kernel), List.mem_of_getElem? (i := 191) (by decide +kernel), List.mem_of_getElem? (i := 192) (by decide +kernel)⟩
theorem lw_p2 : lw_okq (⟨"FramingTrio", "mayTell", "(LFramingTrio$Way;)Z"⟩, 4) := ⟨⟨by decide +kernel, by decide +kernel⟩, List.mem_of_getElem? (i := 10) (by decide +kernel), List.mem_of_getElem? (i := 195) (by decide +kernel), List.mem_of_getElem? (i := 196) (by decide +kernel)⟩
theorem lw_p3 : lw_okq (⟨"FramingTrio", "writeFrame", "(LFramingTrio$Way;)Z"⟩, 4) := ⟨⟨by decide +kernel, by decide +kernel⟩, List.mem_of_getElem? (i := 10) (by decide +kernel), List.mem_of_getElem? (i := 199) (by decide +kernel), List.mem_of_getElem? (i := 200) (by decide +kernel)⟩
theorem lw_p4 : lw_okq (⟨"FramingTrio$Row", "holds", "(I)Z"⟩, 3) := ⟨⟨by decide +kernel, by decide +kernel⟩, List.mem_of_getElem? (i := 18) (by decide +kernel), List.mem_of_getElem? (i := 213) (by decide +kernel), List.mem_of_getElem? (i := 214) (by decide +kernel)⟩
theorem lw_p5 : lw_okq (⟨"FramingTrio$CheckedWay", "hold", "(I)V"⟩, 13) := ⟨⟨by decide +kernel, by decide +kernel⟩, List.mem_of_getElem? (i := 119) (by decide +kernel), List.mem_of_getElem? (i := 315) (by decide +kernel), List.mem_of_getElem? (i := 316) (by decide +kernel)⟩
theorem lw_p6 : lw_okq (⟨"FramingTrio$EscapedWay", "decodeEscaped", "(I)V"⟩, 9) := ⟨⟨by decide +kernel, by decide +kernel⟩, List.mem_of_getElem? (i := 101) (by decide +kernel), List.mem_of_getElem? (i := 322) (by decide +kernel), List.mem_of_getElem? (i := 323) (by decide +kernel)⟩
theorem lw_p7 : lw_okq (⟨"FramingTrio$GroupedWay", "beginGroup", "(I)V"⟩, 10) := ⟨⟨by decide +kernel, by decide +kernel⟩, List.mem_of_getElem? (i := 47) (by decide +kernel), List.mem_of_getElem? (i := 329) (by decide +kernel), List.mem_of_getElem? (i := 330) (by decide +kernel)⟩
theorem lw_p8 : lw_okq (⟨"FramingTrio", "drain", "(LFramingTrio$Row;LFramingTrio$Way;)I"⟩, 4) := ⟨⟨by decide +kernel, by decide +kernel⟩, List.mem_of_getElem? (i := 10) (by decide +kernel), List.mem_of_getElem? (i := 337) (by decide +kernel), List.mem_of_getElem? (i := 338) (by decide +kernel)⟩
theorem lw_p9 : lw_okq (⟨"FramingTrioModel", "put", "(I)V"⟩, 21) := ⟨⟨by decide +kernel, by decide +kernel⟩, List.mem_of_getElem? (i := 371) (by decide +kernel), List.mem_of_getElem? (i := 446) (by decide +kernel), List.mem_of_getElem? (i := 447) (by decide +kernel)⟩
theorem lw_p10 : lw_okq (⟨"FramingTrioModel", "sayGroups", "(I)V"⟩, 21) := ⟨⟨by decide +kernel, by decide +kernel⟩, List.mem_of_getElem? (i := 371) (by decide +kernel), List.mem_of_getElem? (i := 465) (by decide +kernel), List.mem_of_getElem? (i := 466) (by decide +kernel)⟩
theorem lw_p11 : lw_okq (⟨"FramingTrioModel", "groupEnd", "(II)I"⟩, 21) := ⟨⟨by decide +kernel, by decide +kernel⟩, List.mem_of_getElem? (i := 371) (by decide +kernel), List.mem_of_getElem? (i := 469) (by decide +kernel), List.mem_of_getElem? (i := 470) (by decide +kernel)⟩
theorem lw_p12 : lw_okq (⟨"FramingTrioModel", "say", "(I)V"⟩, 21) := ⟨⟨by decide +kernel, by decide +kernel⟩, List.mem_of_getElem? (i := 371) (by decide +kernel), List.mem_of_getElem? (i := 473) (by decide +kernel), List.mem_of_getElem? (i := 474) (by decide +kernel)⟩
theorem lw_p13 : lw_okq (⟨"FramingTrioModel", "sayTurned", "(II)V"⟩, 21) := ⟨⟨by decide +kernel, by decide +kernel⟩, List.mem_of_getElem? (i := 371) (by decide +kernel), List.mem_of_getElem? (i := 478) (by decide +kernel), List.mem_of_getElem? (i := 479) (by decide +kernel)⟩
theorem lw_p14 : lw_okq (⟨"FramingTrioModel", "take", "(II)I"⟩, 21) := ⟨⟨by decide +kernel, by decide +kernel⟩, List.mem_of_getElem? (i := 371) (by decide +kernel), List.mem_of_getElem? (i := 502) (by decide +kernel), List.mem_of_getElem? (i := 503) (by decide +kernel)⟩
theorem lw_p15 : lw_okq (⟨"FramingTrioModel", "ends", "(I)I"⟩, 21) := ⟨⟨by decide +kernel, by decide +kernel⟩, List.mem_of_getElem? (i := 371) (by decide +kernel), List.mem_of_getElem? (i := 506) (by decide +kernel), List.mem_of_getElem? (i := 507) (by decide +kernel)⟩
def lw_privs_1 : List (MethodName × Nat) := [(⟨"FramingTrio", "appendToTape", "(I)V"⟩, 4), (⟨"FramingTrio", "wayOf", "(I)LFramingTrio$Way;"⟩, 4), (⟨"FramingTrio", "mayTell", "(LFramingTrio$Way;)Z"⟩, 4), (⟨"FramingTrio", "writeFrame", "(LFramingTrio$Way;)Z"⟩, 4), (⟨"FramingTrio$Row", "holds", "(I)Z"⟩, 3), (⟨"FramingTrio$CheckedWay", "hold", "(I)V"⟩, 13), (⟨"FramingTrio$EscapedWay", "decodeEscaped", "(I)V"⟩, 9), (⟨"FramingTrio$GroupedWay", "beginGroup", "(I)V"⟩, 10), (⟨"FramingTrio", "drain", "(LFramingTrio$Row;LFramingTrio$Way;)I"⟩, 4), (⟨"FramingTrioModel", "put", "(I)V"⟩, 21), (⟨"FramingTrioModel", "sayGroups", "(I)V"⟩, 21), (⟨"FramingTrioModel", "groupEnd", "(II)I"⟩, 21), (⟨"FramingTrioModel", "say", "(I)V"⟩, 21), (⟨"FramingTrioModel", "sayTurned", "(II)V"⟩, 21), (⟨"FramingTrioModel", "take", "(II)I"⟩, 21), (⟨"FramingTrioModel", "ends", "(I)I"⟩, 21)]
theorem lw_r1 : ∀ q ∈ lw_privs_1, lw_okq q := List.forall_mem_cons.mpr ⟨lw_p0, List.forall_mem_cons.mpr ⟨lw_p1, List.forall_mem_cons.mpr ⟨lw_p2, List.forall_mem_cons.mpr ⟨lw_p3, List.forall_mem_cons.mpr ⟨lw_p4, List.forall_mem_cons.mpr ⟨lw_p5, List.forall_mem_cons.mpr ⟨lw_p6, List.forall_mem_cons.mpr ⟨lw_p7, List.forall_mem_cons.mpr ⟨lw_p8, List.forall_mem_cons.mpr ⟨lw_p9, List.forall_mem_cons.mpr ⟨lw_p10, List.forall_mem_cons.mpr ⟨lw_p11, List.forall_mem_cons.mpr ⟨lw_p12, List.forall_mem_cons.mpr ⟨lw_p13, List.forall_mem_cons.mpr ⟨lw_p14, List.forall_mem_cons.mpr ⟨lw_p15, fun _ h => absurd h List.not_mem_nil⟩⟩⟩⟩⟩⟩⟩⟩⟩⟩⟩⟩⟩⟩⟩⟩
theorem lw_p16 : lw_okq (⟨"FramingTrioModel", "isSo", "(I)Z"⟩, 21) := ⟨⟨by decide +kernel, by decide +kernel⟩, List.mem_of_getElem? (i := 371) (by decide +kernel), List.mem_of_getElem? (i := 510) (by decide +kernel), List.mem_of_getElem? (i := 511) (by decide +kernel)⟩
theorem lw_p17 : lw_okq (⟨"FramingTrioModel", "begin", "(I)V"⟩, 21) := ⟨⟨by decide +kernel, by decide +kernel⟩, List.mem_of_getElem? (i := 371) (by decide +kernel), List.mem_of_getElem? (i := 514) (by decide +kernel), List.mem_of_getElem? (i := 515) (by decide +kernel)⟩
theorem lw_p18 : lw_okq (⟨"FramingTrioModel", "comeGroup", "(I)V"⟩, 21) := ⟨⟨by decide +kernel, by decide +kernel⟩, List.mem_of_getElem? (i := 371) (by decide +kernel), List.mem_of_getElem? (i := 518) (by decide +kernel), List.mem_of_getElem? (i := 519) (by decide +kernel)⟩
theorem lw_p19 : lw_okq (⟨"FramingTrioModel", "keep", "(II)V"⟩, 21) := ⟨⟨by decide +kernel, by decide +kernel⟩, List.mem_of_getElem? (i := 371) (by decide +kernel), List.mem_of_getElem? (i := 522) (by decide +kernel), List.mem_of_getElem? (i := 523) (by decide +kernel)⟩
theorem lw_p20 : lw_okq (⟨"FramingTrioModel", "comeTurned", "(II)V"⟩, 21) := ⟨⟨by decide +kernel, by decide +kernel⟩, List.mem_of_getElem? (i := 371) (by decide +kernel), List.mem_of_getElem? (i := 526) (by decide +kernel), List.mem_of_getElem? (i := 527) (by decide +kernel)⟩
theorem lw_p21 : lw_okq (⟨"FramingTrioModel", "isTurned", "(II)Z"⟩, 21) := ⟨⟨by decide +kernel, by decide +kernel⟩, List.mem_of_getElem? (i := 371) (by decide +kernel), List.mem_of_getElem? (i := 530) (by decide +kernel), List.mem_of_getElem? (i := 531) (by decide +kernel)⟩
def lw_privs_2 : List (MethodName × Nat) := [(⟨"FramingTrioModel", "isSo", "(I)Z"⟩, 21), (⟨"FramingTrioModel", "begin", "(I)V"⟩, 21), (⟨"FramingTrioModel", "comeGroup", "(I)V"⟩, 21), (⟨"FramingTrioModel", "keep", "(II)V"⟩, 21), (⟨"FramingTrioModel", "comeTurned", "(II)V"⟩, 21), (⟨"FramingTrioModel", "isTurned", "(II)Z"⟩, 21)]
theorem lw_r2 : ∀ q ∈ lw_privs_2, lw_okq q := List.forall_mem_cons.mpr ⟨lw_p16, List.forall_mem_cons.mpr ⟨lw_p17, List.forall_mem_cons.mpr ⟨lw_p18, List.forall_mem_cons.mpr ⟨lw_p19, List.forall_mem_cons.mpr ⟨lw_p20, List.forall_mem_cons.mpr ⟨lw_p21, fun _ h => absurd h List.not_mem_nil⟩⟩⟩⟩⟩⟩
def lw_privs : List (MethodName × Nat) := lw_privs_1 ++ (lw_privs_2)
def lw_tbl : List Cond := k2_sels lw_privs ++ tables_1
theorem lw_privs_ok : ∀ q ∈ lw_privs, lw_okq q := by
  show ∀ q ∈ lw_privs_1 ++ (lw_privs_2), lw_okq q
  exact List.forall_mem_append.mpr ⟨lw_r1, lw_r2⟩
def R_law : String := "FramingTrioLaw"
def R_CW : String := "FramingTrio$CheckedWay"
def R_EW : String := "FramingTrio$EscapedWay"
def R_FT : String := "FramingTrio"
def R_GW : String := "FramingTrio$GroupedWay"
def R_L : String := "FramingTrioLaw"
def R_M : String := "FramingTrioModel"
def R_Row : String := "FramingTrio$Row"
def R_Way : String := "FramingTrio$Way"
def F_CW : u_T := fun k => match k with
  | 0 => ("FramingTrio$Way", "mark", "I", true)
  | 1 => ("FramingTrio$Way", "hasEmptyFrames", "Z", true)
  | 2 => ("FramingTrio$Way", "payload", "LFramingTrio$Row;", false)
  | 3 => ("FramingTrio$Way", "kept", "LFramingTrio$Row;", false)
  | 4 => ("FramingTrio$Way", "broken", "Z", false)
  | 5 => ("FramingTrio$Way", "begun", "Z", false)
  | 6 => ("FramingTrio$Way", "hasKept", "Z", false)
  | 7 => ("FramingTrio$Way", "tallies", "[I", true)
  | 8 => ("FramingTrio$CheckedWay", "escaping", "Z", false)
  | 9 => ("FramingTrio$CheckedWay", "check", "I", false)
  | 10 => ("FramingTrio$CheckedWay", "held", "I", false)
  | 11 => ("FramingTrio$CheckedWay", "older", "I", false)
  | _ => ("FramingTrio$CheckedWay", "newer", "I", false)
def t_CW : Nat → FieldType := fun k => match k with
  | 0 => .int
  | 1 => .boolean
  | 2 => .object "FramingTrio$Row"
  | 3 => .object "FramingTrio$Row"
  | 4 => .boolean
  | 5 => .boolean
  | 6 => .boolean
  | 7 => .array .int
  | 8 => .boolean
  | 9 => .int
  | 10 => .int
  | 11 => .int
  | _ => .int
abbrev w_CW : List Cond := u_ws R_CW F_CW 13
theorem n_CW : ∀ a, a < 13 → ∀ b, b < 13 → a ≠ b → (F_CW a).2.1 ≠ (F_CW b).2.1 := by decide +kernel
theorem t_CW_ok : ∀ k, k < 13 → parseFieldDescriptor (F_CW k).2.2.1 = some (t_CW k) := by decide +kernel
def F_EW : u_T := fun k => match k with
  | 0 => ("FramingTrio$Way", "mark", "I", true)
  | 1 => ("FramingTrio$Way", "hasEmptyFrames", "Z", true)
  | 2 => ("FramingTrio$Way", "payload", "LFramingTrio$Row;", false)
  | 3 => ("FramingTrio$Way", "kept", "LFramingTrio$Row;", false)
  | 4 => ("FramingTrio$Way", "broken", "Z", false)
  | 5 => ("FramingTrio$Way", "begun", "Z", false)
  | 6 => ("FramingTrio$Way", "hasKept", "Z", false)
  | 7 => ("FramingTrio$Way", "tallies", "[I", true)
  | _ => ("FramingTrio$EscapedWay", "escaping", "Z", false)
def t_EW : Nat → FieldType := fun k => match k with
  | 0 => .int
  | 1 => .boolean
  | 2 => .object "FramingTrio$Row"
  | 3 => .object "FramingTrio$Row"
  | 4 => .boolean
  | 5 => .boolean
  | 6 => .boolean
  | 7 => .array .int
  | _ => .boolean
abbrev w_EW : List Cond := u_ws R_EW F_EW 9
theorem n_EW : ∀ a, a < 9 → ∀ b, b < 9 → a ≠ b → (F_EW a).2.1 ≠ (F_EW b).2.1 := by decide +kernel
theorem t_EW_ok : ∀ k, k < 9 → parseFieldDescriptor (F_EW k).2.2.1 = some (t_EW k) := by decide +kernel
def F_GW : u_T := fun k => match k with
  | 0 => ("FramingTrio$Way", "mark", "I", true)
  | 1 => ("FramingTrio$Way", "hasEmptyFrames", "Z", true)
  | 2 => ("FramingTrio$Way", "payload", "LFramingTrio$Row;", false)
  | 3 => ("FramingTrio$Way", "kept", "LFramingTrio$Row;", false)
  | 4 => ("FramingTrio$Way", "broken", "Z", false)
  | 5 => ("FramingTrio$Way", "begun", "Z", false)
  | 6 => ("FramingTrio$Way", "hasKept", "Z", false)
  | 7 => ("FramingTrio$Way", "tallies", "[I", true)
  | 8 => ("FramingTrio$GroupedWay", "header", "I", false)
  | _ => ("FramingTrio$GroupedWay", "missing", "I", false)
def t_GW : Nat → FieldType := fun k => match k with
  | 0 => .int
  | 1 => .boolean
  | 2 => .object "FramingTrio$Row"
  | 3 => .object "FramingTrio$Row"
  | 4 => .boolean
  | 5 => .boolean
  | 6 => .boolean
  | 7 => .array .int
  | 8 => .int
  | _ => .int
abbrev w_GW : List Cond := u_ws R_GW F_GW 10
theorem n_GW : ∀ a, a < 10 → ∀ b, b < 10 → a ≠ b → (F_GW a).2.1 ≠ (F_GW b).2.1 := by decide +kernel
theorem t_GW_ok : ∀ k, k < 10 → parseFieldDescriptor (F_GW k).2.2.1 = some (t_GW k) := by decide +kernel
def F_Row : u_T := fun k => match k with
  | 0 => ("FramingTrio$Row", "bytes", "[I", true)
  | 1 => ("FramingTrio$Row", "size", "I", false)
  | _ => ("FramingTrio$Row", "spilt", "Z", false)
def t_Row : Nat → FieldType := fun k => match k with
  | 0 => .array .int
  | 1 => .int
  | _ => .boolean
abbrev w_Row : List Cond := u_ws R_Row F_Row 3
theorem n_Row : ∀ a, a < 3 → ∀ b, b < 3 → a ≠ b → (F_Row a).2.1 ≠ (F_Row b).2.1 := by decide +kernel
theorem t_Row_ok : ∀ k, k < 3 → parseFieldDescriptor (F_Row k).2.2.1 = some (t_Row k) := by decide +kernel
def F_FT : u_T := fun k => match k with
  | 0 => ("FramingTrio", "tape", "LFramingTrio$Row;", true)
  | 1 => ("FramingTrio", "stream", "LFramingTrio$Row;", true)
  | 2 => ("FramingTrio", "ways", "[LFramingTrio$Way;", true)
  | _ => ("FramingTrio", "most", "I", false)
def t_FT : Nat → FieldType := fun k => match k with
  | 0 => .object "FramingTrio$Row"
  | 1 => .object "FramingTrio$Row"
  | 2 => .array (.object "FramingTrio$Way")
  | _ => .int
abbrev w_FT : List Cond := u_ws R_FT F_FT 4
theorem n_FT : ∀ a, a < 4 → ∀ b, b < 4 → a ≠ b → (F_FT a).2.1 ≠ (F_FT b).2.1 := by decide +kernel
theorem t_FT_ok : ∀ k, k < 4 → parseFieldDescriptor (F_FT k).2.2.1 = some (t_FT k) := by decide +kernel
def F_M : u_T := fun k => match k with
  | 0 => ("FramingTrioModel", "thrown", "I", false)
  | 1 => ("FramingTrioModel", "tape", "[I", true)
  | 2 => ("FramingTrioModel", "taped", "I", false)
  | 3 => ("FramingTrioModel", "limit", "I", false)
  | 4 => ("FramingTrioModel", "out", "[I", true)
  | 5 => ("FramingTrioModel", "size", "I", false)
  | 6 => ("FramingTrioModel", "frame", "[I", true)
  | 7 => ("FramingTrioModel", "framed", "I", false)
  | 8 => ("FramingTrioModel", "came", "[I", true)
  | 9 => ("FramingTrioModel", "many", "[I", true)
  | 10 => ("FramingTrioModel", "kept", "[I", true)
  | 11 => ("FramingTrioModel", "bad", "[Z", true)
  | 12 => ("FramingTrioModel", "left", "I", false)
  | 13 => ("FramingTrioModel", "full", "Z", false)
  | 14 => ("FramingTrioModel", "turns", "[Z", true)
  | 15 => ("FramingTrioModel", "first", "I", false)
  | 16 => ("FramingTrioModel", "second", "I", false)
  | 17 => ("FramingTrioModel", "check", "I", false)
  | 18 => ("FramingTrioModel", "latest", "[I", true)
  | 19 => ("FramingTrioModel", "good", "[I", true)
  | _ => ("FramingTrioModel", "counts", "[I", true)
def t_M : Nat → FieldType := fun k => match k with
  | 0 => .int
  | 1 => .array .int
  | 2 => .int
  | 3 => .int
  | 4 => .array .int
  | 5 => .int
  | 6 => .array .int
  | 7 => .int
  | 8 => .array .int
  | 9 => .array .int
  | 10 => .array .int
  | 11 => .array .boolean
  | 12 => .int
  | 13 => .boolean
  | 14 => .array .boolean
  | 15 => .int
  | 16 => .int
  | 17 => .int
  | 18 => .array .int
  | 19 => .array .int
  | _ => .array .int
abbrev w_M : List Cond := u_ws R_M F_M 21
theorem n_M : ∀ a, a < 21 → ∀ b, b < 21 → a ≠ b → (F_M a).2.1 ≠ (F_M b).2.1 := by decide +kernel
theorem t_M_ok : ∀ k, k < 21 → parseFieldDescriptor (F_M k).2.2.1 = some (t_M k) := by decide +kernel
abbrev vwCl : List vw_C := [(R_CW, F_CW, 13), (R_EW, F_EW, 9), (R_GW, F_GW, 10), (R_Row, F_Row, 3), (R_FT, F_FT, 4), (R_M, F_M, 21)]
abbrev b_CW_init : ByteArray := prog_2_method_1_code
def y_CW_init : MethodName := ⟨R_CW, "<init>", "()V"⟩
abbrev b_CW_frame : ByteArray := prog_2_method_2_code
def y_CW_frame : MethodName := ⟨R_CW, "frame", "(LFramingTrio$Row;LFramingTrio$Row;)V"⟩
abbrev b_CW_writeByte : ByteArray := prog_2_method_3_code
def y_CW_writeByte : MethodName := ⟨R_CW, "writeByte", "(ILFramingTrio$Row;)V"⟩
abbrev b_CW_addToCheck : ByteArray := prog_2_method_4_code
def y_CW_addToCheck : MethodName := ⟨R_CW, "addToCheck", "(II)I"⟩
abbrev b_CW_finishedCheck : ByteArray := prog_2_method_5_code
def y_CW_finishedCheck : MethodName := ⟨R_CW, "finishedCheck", "(I)I"⟩
abbrev b_CW_decode : ByteArray := prog_2_method_6_code
def y_CW_decode : MethodName := ⟨R_CW, "decode", "(I)V"⟩
abbrev b_CW_hold : ByteArray := prog_2_method_7_code
def y_CW_hold : MethodName := ⟨R_CW, "hold", "(I)V"⟩
abbrev b_CW_isWhole : ByteArray := prog_2_method_8_code
def y_CW_isWhole : MethodName := ⟨R_CW, "isWhole", "()Z"⟩
abbrev b_CW_forgetChunk : ByteArray := prog_2_method_9_code
def y_CW_forgetChunk : MethodName := ⟨R_CW, "forgetChunk", "()V"⟩
abbrev b_EW_init : ByteArray := prog_3_method_1_code
def y_EW_init : MethodName := ⟨R_EW, "<init>", "()V"⟩
abbrev b_EW_frame : ByteArray := prog_3_method_2_code
def y_EW_frame : MethodName := ⟨R_EW, "frame", "(LFramingTrio$Row;LFramingTrio$Row;)V"⟩
abbrev b_EW_writeByte : ByteArray := prog_3_method_3_code
def y_EW_writeByte : MethodName := ⟨R_EW, "writeByte", "(ILFramingTrio$Row;)V"⟩
abbrev b_EW_decode : ByteArray := prog_3_method_4_code
def y_EW_decode : MethodName := ⟨R_EW, "decode", "(I)V"⟩
abbrev b_EW_decodeEscaped : ByteArray := prog_3_method_5_code
def y_EW_decodeEscaped : MethodName := ⟨R_EW, "decodeEscaped", "(I)V"⟩
abbrev b_EW_isWhole : ByteArray := prog_3_method_6_code
def y_EW_isWhole : MethodName := ⟨R_EW, "isWhole", "()Z"⟩
abbrev b_EW_forgetChunk : ByteArray := prog_3_method_7_code
def y_EW_forgetChunk : MethodName := ⟨R_EW, "forgetChunk", "()V"⟩
abbrev b_FT_init : ByteArray := prog_1_method_1_code
def y_FT_init : MethodName := ⟨R_FT, "<init>", "()V"⟩
abbrev b_FT_feed : ByteArray := prog_1_method_2_code
def y_FT_feed : MethodName := ⟨R_FT, "feed", "(IIIII)Z"⟩
abbrev b_FT_end : ByteArray := prog_1_method_3_code
def y_FT_end : MethodName := ⟨R_FT, "end", "(I)Z"⟩
abbrev b_FT_limit : ByteArray := prog_1_method_4_code
def y_FT_limit : MethodName := ⟨R_FT, "limit", "(I)Z"⟩
abbrev b_FT_tell : ByteArray := prog_1_method_5_code
def y_FT_tell : MethodName := ⟨R_FT, "tell", "(I)I"⟩
abbrev b_FT_written : ByteArray := prog_1_method_6_code
def y_FT_written : MethodName := ⟨R_FT, "written", "()I"⟩
abbrev b_FT_writtenAt : ByteArray := prog_1_method_7_code
def y_FT_writtenAt : MethodName := ⟨R_FT, "writtenAt", "(I)I"⟩
abbrev b_FT_spoil : ByteArray := prog_1_method_8_code
def y_FT_spoil : MethodName := ⟨R_FT, "spoil", "(II)Z"⟩
abbrev b_FT_come : ByteArray := prog_1_method_9_code
def y_FT_come : MethodName := ⟨R_FT, "come", "(II)I"⟩
abbrev b_FT_all : ByteArray := prog_1_method_10_code
def y_FT_all : MethodName := ⟨R_FT, "all", "(I)I"⟩
abbrev b_FT_raw : ByteArray := prog_1_method_11_code
def y_FT_raw : MethodName := ⟨R_FT, "raw", "(I)I"⟩
abbrev b_FT_latest : ByteArray := prog_1_method_12_code
def y_FT_latest : MethodName := ⟨R_FT, "latest", "(I)I"⟩
abbrev b_FT_latestAt : ByteArray := prog_1_method_13_code
def y_FT_latestAt : MethodName := ⟨R_FT, "latestAt", "(II)I"⟩
abbrev b_FT_count : ByteArray := prog_1_method_14_code
def y_FT_count : MethodName := ⟨R_FT, "count", "(II)I"⟩
abbrev b_FT_wayOf : ByteArray := prog_1_method_15_code
def y_FT_wayOf : MethodName := ⟨R_FT, "wayOf", "(I)LFramingTrio$Way;"⟩
abbrev b_FT_appendToTape : ByteArray := prog_1_method_16_code
def y_FT_appendToTape : MethodName := ⟨R_FT, "appendToTape", "(I)V"⟩
abbrev b_FT_mayTell : ByteArray := prog_1_method_17_code
def y_FT_mayTell : MethodName := ⟨R_FT, "mayTell", "(LFramingTrio$Way;)Z"⟩
abbrev b_FT_writeFrame : ByteArray := prog_1_method_18_code
def y_FT_writeFrame : MethodName := ⟨R_FT, "writeFrame", "(LFramingTrio$Way;)Z"⟩
abbrev b_FT_drain : ByteArray := prog_1_method_19_code
def y_FT_drain : MethodName := ⟨R_FT, "drain", "(LFramingTrio$Row;LFramingTrio$Way;)I"⟩
abbrev b_GW_init : ByteArray := prog_4_method_1_code
def y_GW_init : MethodName := ⟨R_GW, "<init>", "()V"⟩
abbrev b_GW_frame : ByteArray := prog_4_method_2_code
def y_GW_frame : MethodName := ⟨R_GW, "frame", "(LFramingTrio$Row;LFramingTrio$Row;)V"⟩
abbrev b_GW_writeGroup : ByteArray := prog_4_method_3_code
def y_GW_writeGroup : MethodName := ⟨R_GW, "writeGroup", "(LFramingTrio$Row;IILFramingTrio$Row;)V"⟩
abbrev b_GW_decode : ByteArray := prog_4_method_4_code
def y_GW_decode : MethodName := ⟨R_GW, "decode", "(I)V"⟩
abbrev b_GW_beginGroup : ByteArray := prog_4_method_5_code
def y_GW_beginGroup : MethodName := ⟨R_GW, "beginGroup", "(I)V"⟩
abbrev b_GW_isWhole : ByteArray := prog_4_method_6_code
def y_GW_isWhole : MethodName := ⟨R_GW, "isWhole", "()Z"⟩
abbrev b_GW_forgetChunk : ByteArray := prog_4_method_7_code
def y_GW_forgetChunk : MethodName := ⟨R_GW, "forgetChunk", "()V"⟩
abbrev b_M_init : ByteArray := prog_8_method_1_code
def y_M_init : MethodName := ⟨R_M, "<init>", "()V"⟩
abbrev b_M_isWay : ByteArray := prog_8_method_3_code
def y_M_isWay : MethodName := ⟨R_M, "isWay", "(I)Z"⟩
abbrev b_M_put : ByteArray := prog_8_method_4_code
def y_M_put : MethodName := ⟨R_M, "put", "(I)V"⟩
abbrev b_M_feed : ByteArray := prog_8_method_5_code
def y_M_feed : MethodName := ⟨R_M, "feed", "(IIIII)Z"⟩
abbrev b_M_end : ByteArray := prog_8_method_6_code
def y_M_end : MethodName := ⟨R_M, "end", "(I)Z"⟩
abbrev b_M_limit : ByteArray := prog_8_method_7_code
def y_M_limit : MethodName := ⟨R_M, "limit", "(I)Z"⟩
abbrev b_M_checked : ByteArray := prog_8_method_8_code
def y_M_checked : MethodName := ⟨R_M, "checked", "(II)I"⟩
abbrev b_M_say : ByteArray := prog_8_method_9_code
def y_M_say : MethodName := ⟨R_M, "say", "(I)V"⟩
abbrev b_M_sayTurned : ByteArray := prog_8_method_10_code
def y_M_sayTurned : MethodName := ⟨R_M, "sayTurned", "(II)V"⟩
abbrev b_M_groupEnd : ByteArray := prog_8_method_11_code
def y_M_groupEnd : MethodName := ⟨R_M, "groupEnd", "(II)I"⟩
abbrev b_M_sayGroups : ByteArray := prog_8_method_12_code
def y_M_sayGroups : MethodName := ⟨R_M, "sayGroups", "(I)V"⟩
abbrev b_M_tell : ByteArray := prog_8_method_13_code
def y_M_tell : MethodName := ⟨R_M, "tell", "(I)I"⟩
abbrev b_M_written : ByteArray := prog_8_method_14_code
def y_M_written : MethodName := ⟨R_M, "written", "()I"⟩
abbrev b_M_writtenAt : ByteArray := prog_8_method_15_code
def y_M_writtenAt : MethodName := ⟨R_M, "writtenAt", "(I)I"⟩
abbrev b_M_spoil : ByteArray := prog_8_method_16_code
def y_M_spoil : MethodName := ⟨R_M, "spoil", "(II)Z"⟩
abbrev b_M_keep : ByteArray := prog_8_method_17_code
def y_M_keep : MethodName := ⟨R_M, "keep", "(II)V"⟩
abbrev b_M_comeGroup : ByteArray := prog_8_method_18_code
def y_M_comeGroup : MethodName := ⟨R_M, "comeGroup", "(I)V"⟩
abbrev b_M_isTurned : ByteArray := prog_8_method_19_code
def y_M_isTurned : MethodName := ⟨R_M, "isTurned", "(II)Z"⟩
abbrev b_M_comeTurned : ByteArray := prog_8_method_20_code
def y_M_comeTurned : MethodName := ⟨R_M, "comeTurned", "(II)V"⟩
abbrev b_M_isSo : ByteArray := prog_8_method_21_code
def y_M_isSo : MethodName := ⟨R_M, "isSo", "(I)Z"⟩
abbrev b_M_begin : ByteArray := prog_8_method_22_code
def y_M_begin : MethodName := ⟨R_M, "begin", "(I)V"⟩
abbrev b_M_ends : ByteArray := prog_8_method_23_code
def y_M_ends : MethodName := ⟨R_M, "ends", "(I)I"⟩
abbrev b_M_take : ByteArray := prog_8_method_24_code
def y_M_take : MethodName := ⟨R_M, "take", "(II)I"⟩
abbrev b_M_come : ByteArray := prog_8_method_25_code
def y_M_come : MethodName := ⟨R_M, "come", "(II)I"⟩
abbrev b_M_all : ByteArray := prog_8_method_26_code
def y_M_all : MethodName := ⟨R_M, "all", "(I)I"⟩
abbrev b_M_raw : ByteArray := prog_8_method_27_code
def y_M_raw : MethodName := ⟨R_M, "raw", "(I)I"⟩
abbrev b_M_latest : ByteArray := prog_8_method_28_code
def y_M_latest : MethodName := ⟨R_M, "latest", "(I)I"⟩
abbrev b_M_latestAt : ByteArray := prog_8_method_29_code
def y_M_latestAt : MethodName := ⟨R_M, "latestAt", "(II)I"⟩
abbrev b_M_count : ByteArray := prog_8_method_30_code
def y_M_count : MethodName := ⟨R_M, "count", "(II)I"⟩
abbrev b_Row_init : ByteArray := prog_5_method_1_code
def y_Row_init : MethodName := ⟨R_Row, "<init>", "(I)V"⟩
abbrev b_Row_put : ByteArray := prog_5_method_2_code
def y_Row_put : MethodName := ⟨R_Row, "put", "(I)V"⟩
abbrev b_Row_byteAt : ByteArray := prog_5_method_3_code
def y_Row_byteAt : MethodName := ⟨R_Row, "byteAt", "(I)I"⟩
abbrev b_Row_turn : ByteArray := prog_5_method_4_code
def y_Row_turn : MethodName := ⟨R_Row, "turn", "(II)Z"⟩
abbrev b_Row_cutTo : ByteArray := prog_5_method_5_code
def y_Row_cutTo : MethodName := ⟨R_Row, "cutTo", "(I)V"⟩
abbrev b_Row_holds : ByteArray := prog_5_method_6_code
def y_Row_holds : MethodName := ⟨R_Row, "holds", "(I)Z"⟩
abbrev b_Way_init : ByteArray := prog_6_method_1_code
def y_Way_init : MethodName := ⟨R_Way, "<init>", "(IZ)V"⟩
abbrev b_Way_take : ByteArray := prog_6_method_6_code
def y_Way_take : MethodName := ⟨R_Way, "take", "(II)I"⟩
abbrev b_Way_keptSize : ByteArray := prog_6_method_7_code
def y_Way_keptSize : MethodName := ⟨R_Way, "keptSize", "()I"⟩
abbrev b_Way_tally : ByteArray := prog_6_method_8_code
def y_Way_tally : MethodName := ⟨R_Way, "tally", "(I)I"⟩
abbrev b_Way_finishChunk : ByteArray := prog_6_method_9_code
def y_Way_finishChunk : MethodName := ⟨R_Way, "finishChunk", "(I)I"⟩
abbrev b_Way_judge : ByteArray := prog_6_method_10_code
def y_Way_judge : MethodName := ⟨R_Way, "judge", "(I)I"⟩
abbrev b_Way_keepPayload : ByteArray := prog_6_method_11_code
def y_Way_keepPayload : MethodName := ⟨R_Way, "keepPayload", "()V"⟩
