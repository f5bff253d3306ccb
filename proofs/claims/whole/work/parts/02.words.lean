/-! Helpers: one row for an entry, a call, a return. The words that are kept beside the tables' list stand in ft_nw. -/
def ft_isN (w : Cond) : Bool := match w with
  | .fieldLinkNest .. => true
  | .methodLinkNest .. => true
  | .declares _ => true
  | .castable _ _ => true
  | .arrayOver (.object _) => true
  | _ => false
def ft_N (nw : List Cond) (U : State) : Prop := ∀ w ∈ nw, va_Nw w U
theorem ft_N_warm {nw : List Cond} {s U : State} (hn : nw.all ft_isN = true) (hW : s.WarmedH U.vm) (h : ft_N nw s) : ft_N nw U := by
  intro w hw
  have h1 := List.all_eq_true.mp hn w hw
  have h2 := h w hw
  unfold ft_isN at h1
  split at h1
  · exact va_Nw.warmF hW h2
  · exact va_Nw.warmM hW h2
  · exact va_Nw.warmD hW h2
  · exact va_Nw.warmC hW h2
  · exact va_AO.moved hW.alike h2
  · cases h1
theorem ft_N_same {nw : List Cond} {s U : State} (hn : nw.all ft_isN = true) (hv : s.vm = U.vm) (h : ft_N nw s) : ft_N nw U := by
  intro w hw
  have h1 := List.all_eq_true.mp hn w hw
  have h2 := h w hw
  unfold ft_isN at h1
  split at h1
  · exact va_Nw.same rfl hv h2
  · exact va_Nw.same rfl hv h2
  · exact va_Nw.same rfl hv h2
  · exact va_Nw.same rfl hv h2
  · exact va_AO.moved (by rw [← hv]; exact Vm.Alike.refl s.vm) h2
  · cases h1
/-! the words: the tables', with 'selects' of the private methods of Way on the objects of its three classes -/
def ft_ext : List Cond := [Cond.selects R_CW ⟨R_Way, "finishChunk", "(I)I"⟩ ⟨R_Way, "finishChunk", "(I)I"⟩, Cond.selects R_EW ⟨R_Way, "finishChunk", "(I)I"⟩ ⟨R_Way, "finishChunk", "(I)I"⟩, Cond.selects R_GW ⟨R_Way, "finishChunk", "(I)I"⟩ ⟨R_Way, "finishChunk", "(I)I"⟩, Cond.selects R_CW ⟨R_Way, "judge", "(I)I"⟩ ⟨R_Way, "judge", "(I)I"⟩, Cond.selects R_EW ⟨R_Way, "judge", "(I)I"⟩ ⟨R_Way, "judge", "(I)I"⟩, Cond.selects R_GW ⟨R_Way, "judge", "(I)I"⟩ ⟨R_Way, "judge", "(I)I"⟩, Cond.selects R_CW ⟨R_Way, "keepPayload", "()V"⟩ ⟨R_Way, "keepPayload", "()V"⟩, Cond.selects R_EW ⟨R_Way, "keepPayload", "()V"⟩ ⟨R_Way, "keepPayload", "()V"⟩, Cond.selects R_GW ⟨R_Way, "keepPayload", "()V"⟩ ⟨R_Way, "keepPayload", "()V"⟩]
def ft_tbl : List Cond := ft_ext ++ lw_tbl
def ft_big : List Cond := ft_tbl.filter goodWord
def ft_nw : List Cond := lw_tbl.filter ft_isN
theorem ft_nw_ok : ft_nw.all ft_isN = true := by
  rw [List.all_eq_true]
  intro w hw
  exact (List.mem_filter.mp hw).2
theorem ft_big_good : ∀ w ∈ ft_big, (w.onTables && w.keeps) = true ∨ ∃ ty, w = .arrayClass ty := fun w hw => good_of_word (List.mem_filter.mp hw).2
theorem ft_in {w : Cond} (i : Nat) (h : ft_tbl[i]? = some w) (hg : goodWord w = true) : w ∈ ft_big := List.mem_filter.mpr ⟨List.mem_of_getElem? h, hg⟩
theorem ft_inN {w : Cond} (i : Nat) (h : lw_tbl[i]? = some w) (hg : ft_isN w = true) : w ∈ ft_nw := List.mem_filter.mpr ⟨List.mem_of_getElem? h, hg⟩
theorem bw_0 : (.selects R_CW y_Way_finishChunk y_Way_finishChunk : Cond) ∈ ft_big := ft_in 0 (by decide +kernel) rfl
theorem bw_1 : (.selects R_EW y_Way_finishChunk y_Way_finishChunk : Cond) ∈ ft_big := ft_in 1 (by decide +kernel) rfl
theorem bw_2 : (.selects R_GW y_Way_finishChunk y_Way_finishChunk : Cond) ∈ ft_big := ft_in 2 (by decide +kernel) rfl
theorem bw_3 : (.selects R_CW y_Way_judge y_Way_judge : Cond) ∈ ft_big := ft_in 3 (by decide +kernel) rfl
theorem bw_4 : (.selects R_EW y_Way_judge y_Way_judge : Cond) ∈ ft_big := ft_in 4 (by decide +kernel) rfl
theorem bw_5 : (.selects R_GW y_Way_judge y_Way_judge : Cond) ∈ ft_big := ft_in 5 (by decide +kernel) rfl
theorem bw_6 : (.selects R_CW y_Way_keepPayload y_Way_keepPayload : Cond) ∈ ft_big := ft_in 6 (by decide +kernel) rfl
theorem bw_7 : (.selects R_EW y_Way_keepPayload y_Way_keepPayload : Cond) ∈ ft_big := ft_in 7 (by decide +kernel) rfl
theorem bw_8 : (.selects R_GW y_Way_keepPayload y_Way_keepPayload : Cond) ∈ ft_big := ft_in 8 (by decide +kernel) rfl
theorem bw_9 : (.selects R_FT y_FT_appendToTape y_FT_appendToTape : Cond) ∈ ft_big := ft_in 9 (by decide +kernel) rfl
theorem bw_10 : (.selects R_FT y_FT_wayOf y_FT_wayOf : Cond) ∈ ft_big := ft_in 10 (by decide +kernel) rfl
theorem bw_11 : (.selects R_FT y_FT_mayTell y_FT_mayTell : Cond) ∈ ft_big := ft_in 11 (by decide +kernel) rfl
theorem bw_12 : (.selects R_FT y_FT_writeFrame y_FT_writeFrame : Cond) ∈ ft_big := ft_in 12 (by decide +kernel) rfl
theorem bw_13 : (.selects R_Row y_Row_holds y_Row_holds : Cond) ∈ ft_big := ft_in 13 (by decide +kernel) rfl
theorem bw_14 : (.selects R_CW y_CW_hold y_CW_hold : Cond) ∈ ft_big := ft_in 14 (by decide +kernel) rfl
theorem bw_15 : (.selects R_EW y_EW_decodeEscaped y_EW_decodeEscaped : Cond) ∈ ft_big := ft_in 15 (by decide +kernel) rfl
theorem bw_16 : (.selects R_GW y_GW_beginGroup y_GW_beginGroup : Cond) ∈ ft_big := ft_in 16 (by decide +kernel) rfl
theorem bw_17 : (.selects R_FT y_FT_drain y_FT_drain : Cond) ∈ ft_big := ft_in 17 (by decide +kernel) rfl
theorem bw_32 : (.initialized R_FT : Cond) ∈ ft_big := ft_in 32 (by decide +kernel) rfl
theorem bw_33 : (.initialized R_Row : Cond) ∈ ft_big := ft_in 33 (by decide +kernel) rfl
theorem bw_34 : (.initialized "java/lang/Math" : Cond) ∈ ft_big := ft_in 34 (by decide +kernel) rfl
theorem bw_35 : (.initialized R_Way : Cond) ∈ ft_big := ft_in 35 (by decide +kernel) rfl
theorem bw_36 : (.initialized R_GW : Cond) ∈ ft_big := ft_in 36 (by decide +kernel) rfl
theorem bw_37 : (.initialized R_EW : Cond) ∈ ft_big := ft_in 37 (by decide +kernel) rfl
theorem bw_38 : (.initialized R_CW : Cond) ∈ ft_big := ft_in 38 (by decide +kernel) rfl
theorem bw_45 : (.methodLink R_FT 1 objectInit : Cond) ∈ ft_big := ft_in 45 (by decide +kernel) rfl
theorem bw_46 : (.instanceMethod objectInit : Cond) ∈ ft_big := ft_in 46 (by decide +kernel) rfl
theorem bw_47 : (.code objectInit ⟨#[0xb1]⟩ 1 none : Cond) ∈ ft_big := ft_in 47 rfl rfl
theorem bw_48 : (.classLink R_FT 7 R_Row : Cond) ∈ ft_big := ft_in 48 (by decide +kernel) rfl
theorem bw_49 : (.instantiable R_Row 3 : Cond) ∈ ft_big := ft_in 49 (by decide +kernel) rfl
theorem bw_50 : (.methodLink R_FT 11 y_Row_init : Cond) ∈ ft_big := ft_in 50 (by decide +kernel) rfl
theorem bw_51 : (.instanceMethod y_Row_init : Cond) ∈ ft_big := ft_in 51 (by decide +kernel) rfl
theorem bw_52 : (.code y_Row_init b_Row_init 2 none : Cond) ∈ ft_big := ft_in 52 rfl rfl
theorem bw_53 : (.methodLink R_Row 3 objectInit : Cond) ∈ ft_big := ft_in 53 (by decide +kernel) rfl
theorem bw_54 : (.methodLink R_Row 9 Lib.Math.max.name : Cond) ∈ ft_big := ft_in 54 (by decide +kernel) rfl
theorem bw_55 : (.static Lib.Math.max.name : Cond) ∈ ft_big := ft_in 55 (by decide +kernel) rfl
theorem bw_56 : (.code Lib.Math.max.name Lib.Math.max.code 2 (some .int) : Cond) ∈ ft_big := ft_in 56 rfl rfl
theorem bw_57 : (.fieldLink R_Row 15 "FramingTrio$Row" "bytes" "[I" : Cond) ∈ ft_big := ft_in 57 (by decide +kernel) rfl
theorem bw_58 : (.fieldLink R_Row 21 "FramingTrio$Row" "size" "I" : Cond) ∈ ft_big := ft_in 58 (by decide +kernel) rfl
theorem bw_64 : (.fieldLink R_Row 25 "FramingTrio$Row" "spilt" "Z" : Cond) ∈ ft_big := ft_in 64 (by decide +kernel) rfl
theorem bw_74 : (.arrayClass .int : Cond) ∈ ft_big := ft_in 74 (by decide +kernel) rfl
theorem bw_75 : (.classLink R_FT 21 R_Way : Cond) ∈ ft_big := ft_in 75 (by decide +kernel) rfl
theorem bw_77 : (.classLink R_FT 23 R_GW : Cond) ∈ ft_big := ft_in 77 (by decide +kernel) rfl
theorem bw_78 : (.instantiable R_GW 10 : Cond) ∈ ft_big := ft_in 78 (by decide +kernel) rfl
theorem bw_79 : (.methodLink R_FT 25 y_GW_init : Cond) ∈ ft_big := ft_in 79 (by decide +kernel) rfl
theorem bw_80 : (.instanceMethod y_GW_init : Cond) ∈ ft_big := ft_in 80 (by decide +kernel) rfl
theorem bw_81 : (.code y_GW_init b_GW_init 1 none : Cond) ∈ ft_big := ft_in 81 rfl rfl
theorem bw_82 : (.methodLink R_GW 3 y_Way_init : Cond) ∈ ft_big := ft_in 82 (by decide +kernel) rfl
theorem bw_83 : (.instanceMethod y_Way_init : Cond) ∈ ft_big := ft_in 83 (by decide +kernel) rfl
theorem bw_84 : (.code y_Way_init b_Way_init 3 none : Cond) ∈ ft_big := ft_in 84 rfl rfl
theorem bw_85 : (.methodLink R_Way 3 objectInit : Cond) ∈ ft_big := ft_in 85 (by decide +kernel) rfl
theorem bw_86 : (.classLink R_Way 19 R_Row : Cond) ∈ ft_big := ft_in 86 (by decide +kernel) rfl
theorem bw_87 : (.methodLink R_Way 21 y_Row_init : Cond) ∈ ft_big := ft_in 87 (by decide +kernel) rfl
theorem bw_88 : (.fieldLink R_GW 9 "FramingTrio$GroupedWay" "header" "I" : Cond) ∈ ft_big := ft_in 88 (by decide +kernel) rfl
theorem bw_89 : (.fieldLink R_GW 13 "FramingTrio$GroupedWay" "missing" "I" : Cond) ∈ ft_big := ft_in 89 (by decide +kernel) rfl
theorem bw_90 : (.fieldLink R_Way 9 "FramingTrio$Way" "mark" "I" : Cond) ∈ ft_big := ft_in 90 (by decide +kernel) rfl
theorem bw_91 : (.fieldLink R_Way 15 "FramingTrio$Way" "hasEmptyFrames" "Z" : Cond) ∈ ft_big := ft_in 91 (by decide +kernel) rfl
theorem bw_92 : (.fieldLink R_FT 89 "FramingTrio$Way" "hasEmptyFrames" "Z" : Cond) ∈ ft_big := ft_in 92 (by decide +kernel) rfl
theorem bw_93 : (.fieldLink R_Way 24 "FramingTrio$Way" "payload" "LFramingTrio$Row;" : Cond) ∈ ft_big := ft_in 93 (by decide +kernel) rfl
theorem bw_94 : (.fieldLink R_GW 33 "FramingTrio$GroupedWay" "payload" "LFramingTrio$Row;" : Cond) ∈ ft_big := ft_in 94 (by decide +kernel) rfl
theorem bw_95 : (.sameField "FramingTrio$GroupedWay" "FramingTrio$Way" "payload" "LFramingTrio$Row;" : Cond) ∈ ft_big := ft_in 95 (by decide +kernel) rfl
theorem bw_96 : (.fieldLink R_EW 34 "FramingTrio$EscapedWay" "payload" "LFramingTrio$Row;" : Cond) ∈ ft_big := ft_in 96 (by decide +kernel) rfl
theorem bw_97 : (.sameField "FramingTrio$EscapedWay" "FramingTrio$Way" "payload" "LFramingTrio$Row;" : Cond) ∈ ft_big := ft_in 97 (by decide +kernel) rfl
theorem bw_98 : (.fieldLink R_CW 60 "FramingTrio$CheckedWay" "payload" "LFramingTrio$Row;" : Cond) ∈ ft_big := ft_in 98 (by decide +kernel) rfl
theorem bw_99 : (.sameField "FramingTrio$CheckedWay" "FramingTrio$Way" "payload" "LFramingTrio$Row;" : Cond) ∈ ft_big := ft_in 99 (by decide +kernel) rfl
theorem bw_100 : (.fieldLink R_Way 28 "FramingTrio$Way" "kept" "LFramingTrio$Row;" : Cond) ∈ ft_big := ft_in 100 (by decide +kernel) rfl
theorem bw_101 : (.fieldLink R_FT 80 "FramingTrio$Way" "kept" "LFramingTrio$Row;" : Cond) ∈ ft_big := ft_in 101 (by decide +kernel) rfl
theorem bw_102 : (.fieldLink R_Way 31 "FramingTrio$Way" "broken" "Z" : Cond) ∈ ft_big := ft_in 102 (by decide +kernel) rfl
theorem bw_103 : (.fieldLink R_EW 38 "FramingTrio$EscapedWay" "broken" "Z" : Cond) ∈ ft_big := ft_in 103 (by decide +kernel) rfl
theorem bw_104 : (.sameField "FramingTrio$EscapedWay" "FramingTrio$Way" "broken" "Z" : Cond) ∈ ft_big := ft_in 104 (by decide +kernel) rfl
theorem bw_105 : (.fieldLink R_CW 54 "FramingTrio$CheckedWay" "broken" "Z" : Cond) ∈ ft_big := ft_in 105 (by decide +kernel) rfl
theorem bw_106 : (.sameField "FramingTrio$CheckedWay" "FramingTrio$Way" "broken" "Z" : Cond) ∈ ft_big := ft_in 106 (by decide +kernel) rfl
theorem bw_107 : (.fieldLink R_Way 34 "FramingTrio$Way" "begun" "Z" : Cond) ∈ ft_big := ft_in 107 (by decide +kernel) rfl
theorem bw_108 : (.fieldLink R_Way 37 "FramingTrio$Way" "hasKept" "Z" : Cond) ∈ ft_big := ft_in 108 (by decide +kernel) rfl
theorem bw_109 : (.fieldLink R_Way 40 "FramingTrio$Way" "tallies" "[I" : Cond) ∈ ft_big := ft_in 109 (by decide +kernel) rfl
theorem bw_131 : (.classLink R_FT 26 R_EW : Cond) ∈ ft_big := ft_in 131 (by decide +kernel) rfl
theorem bw_132 : (.instantiable R_EW 9 : Cond) ∈ ft_big := ft_in 132 (by decide +kernel) rfl
theorem bw_133 : (.methodLink R_FT 28 y_EW_init : Cond) ∈ ft_big := ft_in 133 (by decide +kernel) rfl
theorem bw_134 : (.instanceMethod y_EW_init : Cond) ∈ ft_big := ft_in 134 (by decide +kernel) rfl
theorem bw_135 : (.code y_EW_init b_EW_init 1 none : Cond) ∈ ft_big := ft_in 135 rfl rfl
theorem bw_136 : (.methodLink R_EW 3 y_Way_init : Cond) ∈ ft_big := ft_in 136 (by decide +kernel) rfl
theorem bw_137 : (.fieldLink R_EW 9 "FramingTrio$EscapedWay" "escaping" "Z" : Cond) ∈ ft_big := ft_in 137 (by decide +kernel) rfl
theorem bw_149 : (.classLink R_FT 29 R_CW : Cond) ∈ ft_big := ft_in 149 (by decide +kernel) rfl
theorem bw_150 : (.instantiable R_CW 13 : Cond) ∈ ft_big := ft_in 150 (by decide +kernel) rfl
theorem bw_151 : (.methodLink R_FT 31 y_CW_init : Cond) ∈ ft_big := ft_in 151 (by decide +kernel) rfl
theorem bw_152 : (.instanceMethod y_CW_init : Cond) ∈ ft_big := ft_in 152 (by decide +kernel) rfl
theorem bw_153 : (.code y_CW_init b_CW_init 1 none : Cond) ∈ ft_big := ft_in 153 rfl rfl
theorem bw_154 : (.methodLink R_CW 5 y_Way_init : Cond) ∈ ft_big := ft_in 154 (by decide +kernel) rfl
theorem bw_155 : (.constant R_CW 15 65535 : Cond) ∈ ft_big := ft_in 155 (by decide +kernel) rfl
theorem bw_156 : (.fieldLink R_CW 11 "FramingTrio$CheckedWay" "escaping" "Z" : Cond) ∈ ft_big := ft_in 156 (by decide +kernel) rfl
theorem bw_157 : (.fieldLink R_CW 16 "FramingTrio$CheckedWay" "check" "I" : Cond) ∈ ft_big := ft_in 157 (by decide +kernel) rfl
theorem bw_158 : (.fieldLink R_CW 20 "FramingTrio$CheckedWay" "held" "I" : Cond) ∈ ft_big := ft_in 158 (by decide +kernel) rfl
theorem bw_159 : (.fieldLink R_CW 23 "FramingTrio$CheckedWay" "older" "I" : Cond) ∈ ft_big := ft_in 159 (by decide +kernel) rfl
theorem bw_160 : (.fieldLink R_CW 26 "FramingTrio$CheckedWay" "newer" "I" : Cond) ∈ ft_big := ft_in 160 (by decide +kernel) rfl
theorem bw_180 : (.fieldLink R_FT 14 "FramingTrio" "tape" "LFramingTrio$Row;" : Cond) ∈ ft_big := ft_in 180 (by decide +kernel) rfl
theorem bw_181 : (.fieldLink R_FT 18 "FramingTrio" "stream" "LFramingTrio$Row;" : Cond) ∈ ft_big := ft_in 181 (by decide +kernel) rfl
theorem bw_182 : (.fieldLink R_FT 32 "FramingTrio" "ways" "[LFramingTrio$Way;" : Cond) ∈ ft_big := ft_in 182 (by decide +kernel) rfl
theorem bw_183 : (.fieldLink R_FT 36 "FramingTrio" "most" "I" : Cond) ∈ ft_big := ft_in 183 (by decide +kernel) rfl
theorem bw_197 : (.methodLink R_FT 43 y_FT_appendToTape : Cond) ∈ ft_big := ft_in 197 (by decide +kernel) rfl
theorem bw_199 : (.instanceMethod y_FT_appendToTape : Cond) ∈ ft_big := ft_in 199 (by decide +kernel) rfl
theorem bw_200 : (.code y_FT_appendToTape b_FT_appendToTape 3 none : Cond) ∈ ft_big := ft_in 200 rfl rfl
theorem bw_201 : (.methodLink R_FT 86 y_Row_put : Cond) ∈ ft_big := ft_in 201 (by decide +kernel) rfl
theorem bw_202 : (.instanceMethod y_Row_put : Cond) ∈ ft_big := ft_in 202 (by decide +kernel) rfl
theorem bw_203 : (.selects R_Row y_Row_put y_Row_put : Cond) ∈ ft_big := ft_in 203 (by decide +kernel) rfl
theorem bw_204 : (.code y_Row_put b_Row_put 2 none : Cond) ∈ ft_big := ft_in 204 rfl rfl
theorem bw_209 : (.methodLink R_FT 46 y_Row_cutTo : Cond) ∈ ft_big := ft_in 209 (by decide +kernel) rfl
theorem bw_210 : (.instanceMethod y_Row_cutTo : Cond) ∈ ft_big := ft_in 210 (by decide +kernel) rfl
theorem bw_211 : (.selects R_Row y_Row_cutTo y_Row_cutTo : Cond) ∈ ft_big := ft_in 211 (by decide +kernel) rfl
theorem bw_212 : (.code y_Row_cutTo b_Row_cutTo 2 none : Cond) ∈ ft_big := ft_in 212 rfl rfl
theorem bw_221 : (.methodLink R_FT 49 y_FT_wayOf : Cond) ∈ ft_big := ft_in 221 (by decide +kernel) rfl
theorem bw_223 : (.instanceMethod y_FT_wayOf : Cond) ∈ ft_big := ft_in 223 (by decide +kernel) rfl
theorem bw_224 : (.code y_FT_wayOf b_FT_wayOf 2 (some (.object "FramingTrio$Way")) : Cond) ∈ ft_big := ft_in 224 rfl rfl
theorem bw_225 : (.methodLink R_FT 53 y_FT_mayTell : Cond) ∈ ft_big := ft_in 225 (by decide +kernel) rfl
theorem bw_227 : (.instanceMethod y_FT_mayTell : Cond) ∈ ft_big := ft_in 227 (by decide +kernel) rfl
theorem bw_228 : (.code y_FT_mayTell b_FT_mayTell 2 (some .boolean) : Cond) ∈ ft_big := ft_in 228 rfl rfl
theorem bw_229 : (.methodLink R_FT 57 y_FT_writeFrame : Cond) ∈ ft_big := ft_in 229 (by decide +kernel) rfl
theorem bw_231 : (.instanceMethod y_FT_writeFrame : Cond) ∈ ft_big := ft_in 231 (by decide +kernel) rfl
theorem bw_232 : (.code y_FT_writeFrame b_FT_writeFrame 4 (some .boolean) : Cond) ∈ ft_big := ft_in 232 rfl rfl
theorem bw_233 : (.methodLink R_FT 93 ⟨R_Way, "frame", "(LFramingTrio$Row;LFramingTrio$Row;)V"⟩ : Cond) ∈ ft_big := ft_in 233 (by decide +kernel) rfl
theorem bw_235 : (.sameMethod "FramingTrio$Way" "FramingTrio$Way" "frame" "(LFramingTrio$Row;LFramingTrio$Row;)V" : Cond) ∈ ft_big := ft_in 235 (by decide +kernel) rfl
theorem bw_236 : (.selects R_CW ⟨R_Way, "frame", "(LFramingTrio$Row;LFramingTrio$Row;)V"⟩ y_CW_frame : Cond) ∈ ft_big := ft_in 236 (by decide +kernel) rfl
theorem bw_237 : (.instanceMethod y_CW_frame : Cond) ∈ ft_big := ft_in 237 (by decide +kernel) rfl
theorem bw_238 : (.code y_CW_frame b_CW_frame 7 none : Cond) ∈ ft_big := ft_in 238 rfl rfl
theorem bw_239 : (.methodLink R_CW 34 y_Row_byteAt : Cond) ∈ ft_big := ft_in 239 (by decide +kernel) rfl
theorem bw_240 : (.instanceMethod y_Row_byteAt : Cond) ∈ ft_big := ft_in 240 (by decide +kernel) rfl
theorem bw_241 : (.selects R_Row y_Row_byteAt y_Row_byteAt : Cond) ∈ ft_big := ft_in 241 (by decide +kernel) rfl
theorem bw_242 : (.code y_Row_byteAt b_Row_byteAt 2 (some .int) : Cond) ∈ ft_big := ft_in 242 rfl rfl
theorem bw_243 : (.methodLink R_Row 29 y_Row_holds : Cond) ∈ ft_big := ft_in 243 (by decide +kernel) rfl
theorem bw_245 : (.instanceMethod y_Row_holds : Cond) ∈ ft_big := ft_in 245 (by decide +kernel) rfl
theorem bw_246 : (.code y_Row_holds b_Row_holds 2 (some .boolean) : Cond) ∈ ft_big := ft_in 246 rfl rfl
theorem bw_247 : (.methodLink R_CW 38 y_CW_addToCheck : Cond) ∈ ft_big := ft_in 247 (by decide +kernel) rfl
theorem bw_248 : (.static y_CW_addToCheck : Cond) ∈ ft_big := ft_in 248 (by decide +kernel) rfl
theorem bw_249 : (.code y_CW_addToCheck b_CW_addToCheck 4 (some .int) : Cond) ∈ ft_big := ft_in 249 rfl rfl
theorem bw_250 : (.constant R_CW 53 33800 : Cond) ∈ ft_big := ft_in 250 (by decide +kernel) rfl
theorem bw_251 : (.methodLink R_CW 42 y_CW_writeByte : Cond) ∈ ft_big := ft_in 251 (by decide +kernel) rfl
theorem bw_252 : (.static y_CW_writeByte : Cond) ∈ ft_big := ft_in 252 (by decide +kernel) rfl
theorem bw_253 : (.code y_CW_writeByte b_CW_writeByte 2 none : Cond) ∈ ft_big := ft_in 253 rfl rfl
theorem bw_254 : (.methodLink R_CW 49 y_Row_put : Cond) ∈ ft_big := ft_in 254 (by decide +kernel) rfl
theorem bw_255 : (.methodLink R_CW 46 y_CW_finishedCheck : Cond) ∈ ft_big := ft_in 255 (by decide +kernel) rfl
theorem bw_256 : (.static y_CW_finishedCheck : Cond) ∈ ft_big := ft_in 256 (by decide +kernel) rfl
theorem bw_257 : (.code y_CW_finishedCheck b_CW_finishedCheck 1 (some .int) : Cond) ∈ ft_big := ft_in 257 rfl rfl
theorem bw_258 : (.selects R_EW ⟨R_Way, "frame", "(LFramingTrio$Row;LFramingTrio$Row;)V"⟩ y_EW_frame : Cond) ∈ ft_big := ft_in 258 (by decide +kernel) rfl
theorem bw_259 : (.instanceMethod y_EW_frame : Cond) ∈ ft_big := ft_in 259 (by decide +kernel) rfl
theorem bw_260 : (.code y_EW_frame b_EW_frame 5 none : Cond) ∈ ft_big := ft_in 260 rfl rfl
theorem bw_261 : (.methodLink R_EW 19 y_Row_byteAt : Cond) ∈ ft_big := ft_in 261 (by decide +kernel) rfl
theorem bw_262 : (.methodLink R_EW 23 y_EW_writeByte : Cond) ∈ ft_big := ft_in 262 (by decide +kernel) rfl
theorem bw_263 : (.static y_EW_writeByte : Cond) ∈ ft_big := ft_in 263 (by decide +kernel) rfl
theorem bw_264 : (.code y_EW_writeByte b_EW_writeByte 2 none : Cond) ∈ ft_big := ft_in 264 rfl rfl
theorem bw_265 : (.methodLink R_EW 27 y_Row_put : Cond) ∈ ft_big := ft_in 265 (by decide +kernel) rfl
theorem bw_266 : (.selects R_GW ⟨R_Way, "frame", "(LFramingTrio$Row;LFramingTrio$Row;)V"⟩ y_GW_frame : Cond) ∈ ft_big := ft_in 266 (by decide +kernel) rfl
theorem bw_267 : (.instanceMethod y_GW_frame : Cond) ∈ ft_big := ft_in 267 (by decide +kernel) rfl
theorem bw_268 : (.code y_GW_frame b_GW_frame 7 none : Cond) ∈ ft_big := ft_in 268 rfl rfl
theorem bw_269 : (.methodLink R_GW 21 y_Row_byteAt : Cond) ∈ ft_big := ft_in 269 (by decide +kernel) rfl
theorem bw_270 : (.methodLink R_GW 25 y_GW_writeGroup : Cond) ∈ ft_big := ft_in 270 (by decide +kernel) rfl
theorem bw_271 : (.static y_GW_writeGroup : Cond) ∈ ft_big := ft_in 271 (by decide +kernel) rfl
theorem bw_272 : (.code y_GW_writeGroup b_GW_writeGroup 5 none : Cond) ∈ ft_big := ft_in 272 rfl rfl
theorem bw_273 : (.methodLink R_GW 29 y_Row_put : Cond) ∈ ft_big := ft_in 273 (by decide +kernel) rfl
theorem bw_282 : (.methodLink R_FT 60 y_Row_byteAt : Cond) ∈ ft_big := ft_in 282 (by decide +kernel) rfl
theorem bw_287 : (.methodLink R_FT 64 y_Row_turn : Cond) ∈ ft_big := ft_in 287 (by decide +kernel) rfl
theorem bw_288 : (.instanceMethod y_Row_turn : Cond) ∈ ft_big := ft_in 288 (by decide +kernel) rfl
theorem bw_289 : (.selects R_Row y_Row_turn y_Row_turn : Cond) ∈ ft_big := ft_in 289 (by decide +kernel) rfl
theorem bw_290 : (.code y_Row_turn b_Row_turn 3 (some .boolean) : Cond) ∈ ft_big := ft_in 290 rfl rfl
theorem bw_295 : (.methodLink R_FT 68 y_Way_take : Cond) ∈ ft_big := ft_in 295 (by decide +kernel) rfl
theorem bw_296 : (.instanceMethod y_Way_take : Cond) ∈ ft_big := ft_in 296 (by decide +kernel) rfl
theorem bw_297 : (.sameMethod "FramingTrio$Way" "FramingTrio$Way" "take" "(II)I" : Cond) ∈ ft_big := ft_in 297 (by decide +kernel) rfl
theorem bw_298 : (.selects R_CW y_Way_take y_Way_take : Cond) ∈ ft_big := ft_in 298 (by decide +kernel) rfl
theorem bw_299 : (.selects R_EW y_Way_take y_Way_take : Cond) ∈ ft_big := ft_in 299 (by decide +kernel) rfl
theorem bw_300 : (.selects R_GW y_Way_take y_Way_take : Cond) ∈ ft_big := ft_in 300 (by decide +kernel) rfl
set_option maxRecDepth 100000 in
theorem bw_301 : (.code y_Way_take b_Way_take 3 (some .int) : Cond) ∈ ft_big := ft_in 301 rfl rfl
theorem bw_302 : (.methodLink R_Way 44 y_Way_finishChunk : Cond) ∈ ft_big := ft_in 302 (by decide +kernel) rfl
theorem bw_304 : (.instanceMethod y_Way_finishChunk : Cond) ∈ ft_big := ft_in 304 (by decide +kernel) rfl
set_option maxRecDepth 100000 in
theorem bw_305 : (.code y_Way_finishChunk b_Way_finishChunk 3 (some .int) : Cond) ∈ ft_big := ft_in 305 rfl rfl
theorem bw_306 : (.methodLink R_Way 54 y_Way_judge : Cond) ∈ ft_big := ft_in 306 (by decide +kernel) rfl
theorem bw_308 : (.instanceMethod y_Way_judge : Cond) ∈ ft_big := ft_in 308 (by decide +kernel) rfl
set_option maxRecDepth 100000 in
theorem bw_309 : (.code y_Way_judge b_Way_judge 2 (some .int) : Cond) ∈ ft_big := ft_in 309 rfl rfl
theorem bw_310 : (.methodLink R_Way 66 ⟨R_Way, "isWhole", "()Z"⟩ : Cond) ∈ ft_big := ft_in 310 (by decide +kernel) rfl
theorem bw_312 : (.sameMethod "FramingTrio$Way" "FramingTrio$Way" "isWhole" "()Z" : Cond) ∈ ft_big := ft_in 312 (by decide +kernel) rfl
theorem bw_313 : (.selects R_CW ⟨R_Way, "isWhole", "()Z"⟩ y_CW_isWhole : Cond) ∈ ft_big := ft_in 313 (by decide +kernel) rfl
theorem bw_314 : (.instanceMethod y_CW_isWhole : Cond) ∈ ft_big := ft_in 314 (by decide +kernel) rfl
set_option maxRecDepth 100000 in
theorem bw_315 : (.code y_CW_isWhole b_CW_isWhole 1 (some .boolean) : Cond) ∈ ft_big := ft_in 315 rfl rfl
theorem bw_316 : (.selects R_EW ⟨R_Way, "isWhole", "()Z"⟩ y_EW_isWhole : Cond) ∈ ft_big := ft_in 316 (by decide +kernel) rfl
theorem bw_317 : (.instanceMethod y_EW_isWhole : Cond) ∈ ft_big := ft_in 317 (by decide +kernel) rfl
set_option maxRecDepth 100000 in
theorem bw_318 : (.code y_EW_isWhole b_EW_isWhole 1 (some .boolean) : Cond) ∈ ft_big := ft_in 318 rfl rfl
theorem bw_319 : (.selects R_GW ⟨R_Way, "isWhole", "()Z"⟩ y_GW_isWhole : Cond) ∈ ft_big := ft_in 319 (by decide +kernel) rfl
theorem bw_320 : (.instanceMethod y_GW_isWhole : Cond) ∈ ft_big := ft_in 320 (by decide +kernel) rfl
set_option maxRecDepth 100000 in
theorem bw_321 : (.code y_GW_isWhole b_GW_isWhole 1 (some .boolean) : Cond) ∈ ft_big := ft_in 321 rfl rfl
theorem bw_322 : (.methodLink R_Way 57 y_Way_keepPayload : Cond) ∈ ft_big := ft_in 322 (by decide +kernel) rfl
theorem bw_324 : (.instanceMethod y_Way_keepPayload : Cond) ∈ ft_big := ft_in 324 (by decide +kernel) rfl
set_option maxRecDepth 100000 in
theorem bw_325 : (.code y_Way_keepPayload b_Way_keepPayload 2 none : Cond) ∈ ft_big := ft_in 325 rfl rfl
theorem bw_326 : (.methodLink R_Way 60 y_Row_cutTo : Cond) ∈ ft_big := ft_in 326 (by decide +kernel) rfl
theorem bw_327 : (.methodLink R_Way 63 ⟨R_Way, "forgetChunk", "()V"⟩ : Cond) ∈ ft_big := ft_in 327 (by decide +kernel) rfl
theorem bw_329 : (.sameMethod "FramingTrio$Way" "FramingTrio$Way" "forgetChunk" "()V" : Cond) ∈ ft_big := ft_in 329 (by decide +kernel) rfl
theorem bw_330 : (.selects R_CW ⟨R_Way, "forgetChunk", "()V"⟩ y_CW_forgetChunk : Cond) ∈ ft_big := ft_in 330 (by decide +kernel) rfl
theorem bw_331 : (.instanceMethod y_CW_forgetChunk : Cond) ∈ ft_big := ft_in 331 (by decide +kernel) rfl
set_option maxRecDepth 100000 in
theorem bw_332 : (.code y_CW_forgetChunk b_CW_forgetChunk 1 none : Cond) ∈ ft_big := ft_in 332 rfl rfl
theorem bw_333 : (.selects R_EW ⟨R_Way, "forgetChunk", "()V"⟩ y_EW_forgetChunk : Cond) ∈ ft_big := ft_in 333 (by decide +kernel) rfl
theorem bw_334 : (.instanceMethod y_EW_forgetChunk : Cond) ∈ ft_big := ft_in 334 (by decide +kernel) rfl
set_option maxRecDepth 100000 in
theorem bw_335 : (.code y_EW_forgetChunk b_EW_forgetChunk 1 none : Cond) ∈ ft_big := ft_in 335 rfl rfl
theorem bw_336 : (.selects R_GW ⟨R_Way, "forgetChunk", "()V"⟩ y_GW_forgetChunk : Cond) ∈ ft_big := ft_in 336 (by decide +kernel) rfl
theorem bw_337 : (.instanceMethod y_GW_forgetChunk : Cond) ∈ ft_big := ft_in 337 (by decide +kernel) rfl
set_option maxRecDepth 100000 in
theorem bw_338 : (.code y_GW_forgetChunk b_GW_forgetChunk 1 none : Cond) ∈ ft_big := ft_in 338 rfl rfl
theorem bw_339 : (.methodLink R_Way 48 ⟨R_Way, "decode", "(I)V"⟩ : Cond) ∈ ft_big := ft_in 339 (by decide +kernel) rfl
theorem bw_341 : (.sameMethod "FramingTrio$Way" "FramingTrio$Way" "decode" "(I)V" : Cond) ∈ ft_big := ft_in 341 (by decide +kernel) rfl
theorem bw_342 : (.selects R_CW ⟨R_Way, "decode", "(I)V"⟩ y_CW_decode : Cond) ∈ ft_big := ft_in 342 (by decide +kernel) rfl
theorem bw_343 : (.instanceMethod y_CW_decode : Cond) ∈ ft_big := ft_in 343 (by decide +kernel) rfl
set_option maxRecDepth 100000 in
theorem bw_344 : (.code y_CW_decode b_CW_decode 2 none : Cond) ∈ ft_big := ft_in 344 rfl rfl
theorem bw_345 : (.methodLink R_CW 57 y_CW_hold : Cond) ∈ ft_big := ft_in 345 (by decide +kernel) rfl
theorem bw_347 : (.instanceMethod y_CW_hold : Cond) ∈ ft_big := ft_in 347 (by decide +kernel) rfl
set_option maxRecDepth 100000 in
theorem bw_348 : (.code y_CW_hold b_CW_hold 2 none : Cond) ∈ ft_big := ft_in 348 rfl rfl
theorem bw_349 : (.selects R_EW ⟨R_Way, "decode", "(I)V"⟩ y_EW_decode : Cond) ∈ ft_big := ft_in 349 (by decide +kernel) rfl
theorem bw_350 : (.instanceMethod y_EW_decode : Cond) ∈ ft_big := ft_in 350 (by decide +kernel) rfl
set_option maxRecDepth 100000 in
theorem bw_351 : (.code y_EW_decode b_EW_decode 2 none : Cond) ∈ ft_big := ft_in 351 rfl rfl
theorem bw_352 : (.methodLink R_EW 31 y_EW_decodeEscaped : Cond) ∈ ft_big := ft_in 352 (by decide +kernel) rfl
theorem bw_354 : (.instanceMethod y_EW_decodeEscaped : Cond) ∈ ft_big := ft_in 354 (by decide +kernel) rfl
set_option maxRecDepth 100000 in
theorem bw_355 : (.code y_EW_decodeEscaped b_EW_decodeEscaped 2 none : Cond) ∈ ft_big := ft_in 355 rfl rfl
theorem bw_356 : (.selects R_GW ⟨R_Way, "decode", "(I)V"⟩ y_GW_decode : Cond) ∈ ft_big := ft_in 356 (by decide +kernel) rfl
theorem bw_357 : (.instanceMethod y_GW_decode : Cond) ∈ ft_big := ft_in 357 (by decide +kernel) rfl
set_option maxRecDepth 100000 in
theorem bw_358 : (.code y_GW_decode b_GW_decode 2 none : Cond) ∈ ft_big := ft_in 358 rfl rfl
theorem bw_359 : (.methodLink R_GW 37 y_GW_beginGroup : Cond) ∈ ft_big := ft_in 359 (by decide +kernel) rfl
theorem bw_361 : (.instanceMethod y_GW_beginGroup : Cond) ∈ ft_big := ft_in 361 (by decide +kernel) rfl
set_option maxRecDepth 100000 in
theorem bw_362 : (.code y_GW_beginGroup b_GW_beginGroup 2 none : Cond) ∈ ft_big := ft_in 362 rfl rfl
theorem bw_367 : (.methodLink R_FT 72 y_FT_drain : Cond) ∈ ft_big := ft_in 367 (by decide +kernel) rfl
theorem bw_369 : (.instanceMethod y_FT_drain : Cond) ∈ ft_big := ft_in 369 (by decide +kernel) rfl
set_option maxRecDepth 100000 in
theorem bw_370 : (.code y_FT_drain b_FT_drain 6 (some .int) : Cond) ∈ ft_big := ft_in 370 rfl rfl
theorem bw_379 : (.methodLink R_FT 76 y_Way_keptSize : Cond) ∈ ft_big := ft_in 379 (by decide +kernel) rfl
theorem bw_380 : (.instanceMethod y_Way_keptSize : Cond) ∈ ft_big := ft_in 380 (by decide +kernel) rfl
theorem bw_381 : (.sameMethod "FramingTrio$Way" "FramingTrio$Way" "keptSize" "()I" : Cond) ∈ ft_big := ft_in 381 (by decide +kernel) rfl
theorem bw_382 : (.selects R_CW y_Way_keptSize y_Way_keptSize : Cond) ∈ ft_big := ft_in 382 (by decide +kernel) rfl
theorem bw_383 : (.selects R_EW y_Way_keptSize y_Way_keptSize : Cond) ∈ ft_big := ft_in 383 (by decide +kernel) rfl
theorem bw_384 : (.selects R_GW y_Way_keptSize y_Way_keptSize : Cond) ∈ ft_big := ft_in 384 (by decide +kernel) rfl
set_option maxRecDepth 100000 in
theorem bw_385 : (.code y_Way_keptSize b_Way_keptSize 1 (some .int) : Cond) ∈ ft_big := ft_in 385 rfl rfl
theorem bw_394 : (.methodLink R_FT 83 y_Way_tally : Cond) ∈ ft_big := ft_in 394 (by decide +kernel) rfl
theorem bw_395 : (.instanceMethod y_Way_tally : Cond) ∈ ft_big := ft_in 395 (by decide +kernel) rfl
theorem bw_396 : (.sameMethod "FramingTrio$Way" "FramingTrio$Way" "tally" "(I)I" : Cond) ∈ ft_big := ft_in 396 (by decide +kernel) rfl
theorem bw_397 : (.selects R_CW y_Way_tally y_Way_tally : Cond) ∈ ft_big := ft_in 397 (by decide +kernel) rfl
theorem bw_398 : (.selects R_EW y_Way_tally y_Way_tally : Cond) ∈ ft_big := ft_in 398 (by decide +kernel) rfl
theorem bw_399 : (.selects R_GW y_Way_tally y_Way_tally : Cond) ∈ ft_big := ft_in 399 (by decide +kernel) rfl
set_option maxRecDepth 100000 in
theorem bw_400 : (.code y_Way_tally b_Way_tally 2 (some .int) : Cond) ∈ ft_big := ft_in 400 rfl rfl
theorem bw_584 : (.sameMethod "FramingTrio$Way" "FramingTrio$Way" "finishChunk" "(I)I" : Cond) ∈ ft_big := ft_in 584 (by decide +kernel) rfl
theorem bw_585 : (.sameMethod "FramingTrio$Way" "FramingTrio$Way" "judge" "(I)I" : Cond) ∈ ft_big := ft_in 585 (by decide +kernel) rfl
theorem bw_586 : (.sameMethod "FramingTrio$Way" "FramingTrio$Way" "keepPayload" "()V" : Cond) ∈ ft_big := ft_in 586 (by decide +kernel) rfl
theorem bn_59 : (.fieldLinkNest R_CW 29 "FramingTrio$Row" "size" "I" "FramingTrio" : Cond) ∈ ft_nw := ft_inN 50 (by decide +kernel) rfl
theorem bn_60 : (.fieldLinkNest R_EW 13 "FramingTrio$Row" "size" "I" "FramingTrio" : Cond) ∈ ft_nw := ft_inN 51 (by decide +kernel) rfl
theorem bn_61 : (.fieldLinkNest R_GW 16 "FramingTrio$Row" "size" "I" "FramingTrio" : Cond) ∈ ft_nw := ft_inN 52 (by decide +kernel) rfl
theorem bn_62 : (.fieldLinkNest R_FT 40 "FramingTrio$Row" "size" "I" "FramingTrio" : Cond) ∈ ft_nw := ft_inN 53 (by decide +kernel) rfl
theorem bn_63 : (.fieldLinkNest R_Way 51 "FramingTrio$Row" "size" "I" "FramingTrio" : Cond) ∈ ft_nw := ft_inN 54 (by decide +kernel) rfl
theorem bn_65 : (.fieldLinkNest R_Way 70 "FramingTrio$Row" "spilt" "Z" "FramingTrio" : Cond) ∈ ft_nw := ft_inN 56 (by decide +kernel) rfl
theorem bn_66 : (.fieldLinkNest R_FT 97 "FramingTrio$Row" "spilt" "Z" "FramingTrio" : Cond) ∈ ft_nw := ft_inN 57 (by decide +kernel) rfl
theorem bn_76 : (.arrayOver (.object R_Way) : Cond) ∈ ft_nw := ft_inN 67 (by decide +kernel) rfl
theorem bn_234 : (.declares ⟨R_Way, "frame", "(LFramingTrio$Row;LFramingTrio$Row;)V"⟩ : Cond) ∈ ft_nw := ft_inN 225 (by decide +kernel) rfl
theorem bn_311 : (.declares ⟨R_Way, "isWhole", "()Z"⟩ : Cond) ∈ ft_nw := ft_inN 302 (by decide +kernel) rfl
theorem bn_328 : (.declares ⟨R_Way, "forgetChunk", "()V"⟩ : Cond) ∈ ft_nw := ft_inN 319 (by decide +kernel) rfl
theorem bn_340 : (.declares ⟨R_Way, "decode", "(I)V"⟩ : Cond) ∈ ft_nw := ft_inN 331 (by decide +kernel) rfl
theorem bn_587 : (.castable R_CW R_Way : Cond) ∈ ft_nw := ft_inN 578 (by decide +kernel) rfl
theorem bn_588 : (.castable R_EW R_Way : Cond) ∈ ft_nw := ft_inN 579 (by decide +kernel) rfl
theorem bn_589 : (.castable R_GW R_Way : Cond) ∈ ft_nw := ft_inN 580 (by decide +kernel) rfl
theorem bi_CW : ∀ w ∈ w_CW, w ∈ ft_big := by
  intro w hw
  have h : w_CW = ([171, 172, 173, 174, 175, 176, 177, 178, 161, 163, 165, 167, 169] : List Nat).filterMap (fun i => ft_tbl[i]?) := by decide +kernel
  have hg : (w_CW).all goodWord = true := by decide +kernel
  have hw2 := hw
  rw [h] at hw2
  obtain ⟨i, -, hi⟩ := List.mem_filterMap.mp hw2
  exact ft_in i hi (List.all_eq_true.mp hg w hw)
theorem bi_EW : ∀ w ∈ w_EW, w ∈ ft_big := by
  intro w hw
  have h : w_EW = ([140, 141, 142, 143, 144, 145, 146, 147, 138] : List Nat).filterMap (fun i => ft_tbl[i]?) := by decide +kernel
  have hg : (w_EW).all goodWord = true := by decide +kernel
  have hw2 := hw
  rw [h] at hw2
  obtain ⟨i, -, hi⟩ := List.mem_filterMap.mp hw2
  exact ft_in i hi (List.all_eq_true.mp hg w hw)
theorem bi_GW : ∀ w ∈ w_GW, w ∈ ft_big := by
  intro w hw
  have h : w_GW = ([114, 116, 118, 120, 122, 124, 126, 128, 110, 112] : List Nat).filterMap (fun i => ft_tbl[i]?) := by decide +kernel
  have hg : (w_GW).all goodWord = true := by decide +kernel
  have hw2 := hw
  rw [h] at hw2
  obtain ⟨i, -, hi⟩ := List.mem_filterMap.mp hw2
  exact ft_in i hi (List.all_eq_true.mp hg w hw)
theorem bi_Row : ∀ w ∈ w_Row, w ∈ ft_big := by
  intro w hw
  have h : w_Row = ([67, 69, 71] : List Nat).filterMap (fun i => ft_tbl[i]?) := by decide +kernel
  have hg : (w_Row).all goodWord = true := by decide +kernel
  have hw2 := hw
  rw [h] at hw2
  obtain ⟨i, -, hi⟩ := List.mem_filterMap.mp hw2
  exact ft_in i hi (List.all_eq_true.mp hg w hw)
theorem bi_FT : ∀ w ∈ w_FT, w ∈ ft_big := by
  intro w hw
  have h : w_FT = ([184, 186, 188, 190] : List Nat).filterMap (fun i => ft_tbl[i]?) := by decide +kernel
  have hg : (w_FT).all goodWord = true := by decide +kernel
  have hw2 := hw
  rw [h] at hw2
  obtain ⟨i, -, hi⟩ := List.mem_filterMap.mp hw2
  exact ft_in i hi (List.all_eq_true.mp hg w hw)
theorem bi_M : ∀ w ∈ w_M, w ∈ ft_big := by
  intro w hw
  have h : w_M = ([428, 430, 432, 434, 436, 438, 440, 442, 444, 446, 448, 450, 452, 454, 456, 458, 460, 462, 464, 466, 468] : List Nat).filterMap (fun i => ft_tbl[i]?) := by decide +kernel
  have hg : (w_M).all goodWord = true := by decide +kernel
  have hw2 := hw
  rw [h] at hw2
  obtain ⟨i, -, hi⟩ := List.mem_filterMap.mp hw2
  exact ft_in i hi (List.all_eq_true.mp hg w hw)
