/-! names and tables, written by a program out of the Statement -/
def R_TR : String := "GlyphCompiler$TokenRow"
def T_TR : u_T := fun k => match k with
  | 0 => ("GlyphCompiler$TokenRow", "kinds", "[I", true)
  | 1 => ("GlyphCompiler$TokenRow", "values", "[I", true)
  | 2 => ("GlyphCompiler$TokenRow", "depths", "[I", true)
  | _ => ("GlyphCompiler$TokenRow", "length", "I", false)
def R_EX : String := "GlyphCompiler$Expander"
def T_EX : u_T := fun k => match k with
  | 0 => ("GlyphCompiler$Expander", "bodies", "[LGlyphCompiler$TokenRow;", true)
  | 1 => ("GlyphCompiler$Expander", "parameters", "[I", true)
  | 2 => ("GlyphCompiler$Expander", "spare", "LGlyphCompiler$TokenRow;", true)
  | 3 => ("GlyphCompiler$Expander", "starts", "[I", true)
  | 4 => ("GlyphCompiler$Expander", "ends", "[I", true)
  | 5 => ("GlyphCompiler$Expander", "at", "I", false)
  | _ => ("GlyphCompiler$Expander", "replacements", "I", false)
def R_RD : String := "GlyphCompiler$Reader"
def T_RD : u_T := fun k => match k with
  | 0 => ("GlyphCompiler$Reader", "row", "LGlyphCompiler$TokenRow;", true)
  | 1 => ("GlyphCompiler$Reader", "variables", "LGlyphCompiler$Variables;", true)
  | 2 => ("GlyphCompiler$Reader", "at", "I", false)
  | 3 => ("GlyphCompiler$Reader", "error", "I", false)
  | 4 => ("GlyphCompiler$Reader", "verb", "I", false)
  | 5 => ("GlyphCompiler$Reader", "kept", "[LGlyphCompiler$Form;", true)
  | 6 => ("GlyphCompiler$Reader", "keptCount", "I", false)
  | 7 => ("GlyphCompiler$Reader", "inRange", "Z", false)
  | 8 => ("GlyphCompiler$Reader", "curves", "[Z", true)
  | 9 => ("GlyphCompiler$Reader", "legCount", "I", false)
  | 10 => ("GlyphCompiler$Reader", "sums", "[LGlyphCompiler$Form;", true)
  | 11 => ("GlyphCompiler$Reader", "terms", "[LGlyphCompiler$Form;", true)
  | _ => ("GlyphCompiler$Reader", "firsts", "[LGlyphCompiler$Form;", true)
def R_VA : String := "GlyphCompiler$Variables"
def T_VA : u_T := fun k => match k with
  | 0 => ("GlyphCompiler$Variables", "states", "[I", true)
  | 1 => ("GlyphCompiler$Variables", "forms", "[LGlyphCompiler$Form;", true)
  | 2 => ("GlyphCompiler$Variables", "difference", "LGlyphCompiler$Form;", true)
  | _ => ("GlyphCompiler$Variables", "spare", "LGlyphCompiler$Form;", true)
def R_FO : String := "GlyphCompiler$Form"
def T_FO : u_T := fun k => match k with
  | _ => ("GlyphCompiler$Form", "parts", "[J", true)
def R_OU : String := "GlyphCompiler$Outline"
def T_OU : u_T := fun k => match k with
  | 0 => ("GlyphCompiler$Outline", "numbers", "[I", true)
  | 1 => ("GlyphCompiler$Outline", "xs", "[I", true)
  | 2 => ("GlyphCompiler$Outline", "ys", "[I", true)
  | _ => ("GlyphCompiler$Outline", "points", "I", false)
def R_PI : String := "GlyphCompiler$Picture"
def T_PI : u_T := fun k => match k with
  | 0 => ("GlyphCompiler$Picture", "points", "[Z", true)
  | _ => ("GlyphCompiler$Picture", "windings", "[I", true)
def R_GC : String := "GlyphCompiler"
def T_GC : u_T := fun k => match k with
  | 0 => ("GlyphCompiler", "input", "LGlyphCompiler$TokenRow;", true)
  | 1 => ("GlyphCompiler", "expander", "LGlyphCompiler$Expander;", true)
  | 2 => ("GlyphCompiler", "reader", "LGlyphCompiler$Reader;", true)
  | 3 => ("GlyphCompiler", "before", "LGlyphCompiler$Variables;", true)
  | 4 => ("GlyphCompiler", "outline", "LGlyphCompiler$Outline;", true)
  | 5 => ("GlyphCompiler", "picture", "LGlyphCompiler$Picture;", true)
  | 6 => ("GlyphCompiler", "notes", "[J", true)
  | 7 => ("GlyphCompiler", "noted", "I", false)
  | 8 => ("GlyphCompiler", "carriedOut", "I", false)
  | _ => ("GlyphCompiler", "lastPlace", "I", false)
def R_GM : String := "GlyphCompilerModel"
def T_GM : u_T := fun k => match k with
  | 0 => ("GlyphCompilerModel", "size", "I", false)
  | 1 => ("GlyphCompilerModel", "row", "I", false)
  | 2 => ("GlyphCompilerModel", "replaced", "I", false)
  | 3 => ("GlyphCompilerModel", "lastPlace", "I", false)
  | 4 => ("GlyphCompilerModel", "p", "I", false)
  | 5 => ("GlyphCompilerModel", "error", "I", false)
  | 6 => ("GlyphCompilerModel", "place", "I", false)
  | 7 => ("GlyphCompilerModel", "notes", "I", false)
  | 8 => ("GlyphCompilerModel", "done", "I", false)
  | 9 => ("GlyphCompilerModel", "forms", "I", false)
  | 10 => ("GlyphCompilerModel", "pieces", "I", false)
  | 11 => ("GlyphCompilerModel", "pairs", "I", false)
  | 12 => ("GlyphCompilerModel", "legs", "I", false)
  | 13 => ("GlyphCompilerModel", "top", "I", false)
  | 14 => ("GlyphCompilerModel", "nests", "I", false)
  | 15 => ("GlyphCompilerModel", "range", "Z", false)
  | 16 => ("GlyphCompilerModel", "inKind", "[I", true)
  | 17 => ("GlyphCompilerModel", "inValue", "[I", true)
  | 18 => ("GlyphCompilerModel", "macroKind", "[I", true)
  | 19 => ("GlyphCompilerModel", "macroValue", "[I", true)
  | 20 => ("GlyphCompilerModel", "macroSize", "[I", true)
  | 21 => ("GlyphCompilerModel", "params", "[I", true)
  | 22 => ("GlyphCompilerModel", "kind", "[I", true)
  | 23 => ("GlyphCompilerModel", "value", "[I", true)
  | 24 => ("GlyphCompilerModel", "depth", "[I", true)
  | 25 => ("GlyphCompilerModel", "newKind", "[I", true)
  | 26 => ("GlyphCompilerModel", "newValue", "[I", true)
  | 27 => ("GlyphCompilerModel", "newDepth", "[I", true)
  | 28 => ("GlyphCompilerModel", "argFrom", "[I", true)
  | 29 => ("GlyphCompilerModel", "argTo", "[I", true)
  | 30 => ("GlyphCompilerModel", "state", "[I", true)
  | 31 => ("GlyphCompilerModel", "form", "[J", true)
  | 32 => ("GlyphCompilerModel", "noted", "[J", true)
  | 33 => ("GlyphCompilerModel", "wholes", "[J", true)
  | 34 => ("GlyphCompilerModel", "parts", "[J", true)
  | 35 => ("GlyphCompilerModel", "work", "[J", true)
  | 36 => ("GlyphCompilerModel", "wait", "[I", true)
  | 37 => ("GlyphCompilerModel", "waitAt", "[I", true)
  | 38 => ("GlyphCompilerModel", "waitNumber", "[J", true)
  | 39 => ("GlyphCompilerModel", "outline", "[J", true)
  | 40 => ("GlyphCompilerModel", "fromX", "[J", true)
  | 41 => ("GlyphCompilerModel", "fromY", "[J", true)
  | 42 => ("GlyphCompilerModel", "toX", "[J", true)
  | 43 => ("GlyphCompilerModel", "toY", "[J", true)
  | 44 => ("GlyphCompilerModel", "curve", "[I", true)
  | _ => ("GlyphCompilerModel", "black", "[Z", true)
def jCl : List vw_C := [(R_TR, T_TR, 4), (R_EX, T_EX, 7), (R_RD, T_RD, 13), (R_VA, T_VA, 4), (R_FO, T_FO, 1), (R_OU, T_OU, 4), (R_PI, T_PI, 2), (R_GC, T_GC, 10), (R_GM, T_GM, 46)]
def jTy : List FieldType := [.int, .long, .boolean, .object "GlyphCompiler$TokenRow", .object "GlyphCompiler$Form"]
theorem jTy_0 : jTy[0]? = some (.int) := rfl
theorem jTy_1 : jTy[1]? = some (.long) := rfl
theorem jTy_2 : jTy[2]? = some (.boolean) := rfl
theorem jTy_3 : jTy[3]? = some (.object "GlyphCompiler$TokenRow") := rfl
theorem jTy_4 : jTy[4]? = some (.object "GlyphCompiler$Form") := rfl
def jAo : List String := ["GlyphCompiler$TokenRow", "GlyphCompiler$Form"]
def jNw : List Cond := [(Jvm.Cond.methodLinkNest "GlyphCompiler" (27 : Nat) ({ cls := "GlyphCompiler$Reader", name := "<init>", desc := "()V" } : Jvm.MethodName) "GlyphCompiler"), (Jvm.Cond.methodLinkNest "GlyphCompiler$Variables" (25 : Nat) ({ cls := "GlyphCompiler$Form", name := "<init>", desc := "()V" } : Jvm.MethodName) "GlyphCompiler"), (Jvm.Cond.methodLinkNest "GlyphCompiler" (41 : Nat) ({ cls := "GlyphCompiler$Outline", name := "<init>", desc := "()V" } : Jvm.MethodName) "GlyphCompiler"), (Jvm.Cond.methodLinkNest "GlyphCompiler" (48 : Nat) ({ cls := "GlyphCompiler$Picture", name := "<init>", desc := "()V" } : Jvm.MethodName) "GlyphCompiler")]
def jisNest : Cond → Bool
  | .fieldLinkNest .. => true
  | .methodLinkNest .. => true
  | _ => false
theorem jNw_ok : ∀ w ∈ jNw, jisNest w = true := List.all_eq_true.mp rfl
def jTs : List Cond := lw_tbl.filter goodWord
theorem jTs_good : ∀ w ∈ jTs, (w.onTables && w.keeps) = true ∨ ∃ ty, w = .arrayClass ty := fun _ h => good_of_word (List.mem_filter.mp h).2
theorem jTs_in : ∀ w ∈ jTs, w ∈ lw_tbl := fun _ h => (List.mem_filter.mp h).1
theorem jin_t {w : Cond} (h : w ∈ tables_1) (g : goodWord w = true) : w ∈ jTs := List.mem_filter.mpr ⟨List.mem_append_right _ h, g⟩
theorem jin_p {w : Cond} (h : w ∈ k2_sels lw_privs) (g : goodWord w = true) : w ∈ jTs := List.mem_filter.mpr ⟨List.mem_append_left _ h, g⟩
theorem jin_1 {w : Cond} (i : Nat) (h : tables_1_1[i]? = some w) : w ∈ tables_1 := List.mem_append_left _ (List.mem_of_getElem? h)
theorem jin_2 {w : Cond} (i : Nat) (h : tables_1_2[i]? = some w) : w ∈ tables_1 := List.mem_append_right _ (List.mem_append_left _ (List.mem_of_getElem? h))
theorem jin_3 {w : Cond} (i : Nat) (h : tables_1_3[i]? = some w) : w ∈ tables_1 := List.mem_append_right _ (List.mem_append_right _ (List.mem_append_left _ (List.mem_of_getElem? h)))
theorem jin_4 {w : Cond} (i : Nat) (h : tables_1_4[i]? = some w) : w ∈ tables_1 := List.mem_append_right _ (List.mem_append_right _ (List.mem_append_right _ (List.mem_append_left _ (List.mem_of_getElem? h))))
theorem jin_5 {w : Cond} (i : Nat) (h : tables_1_5[i]? = some w) : w ∈ tables_1 := List.mem_append_right _ (List.mem_append_right _ (List.mem_append_right _ (List.mem_append_right _ (List.mem_of_getElem? h))))
theorem wd_1_40 : Jvm.Cond.laysFinal "GlyphCompiler$TokenRow" "GlyphCompiler$TokenRow" "kinds" "[I" ∈ jTs := jin_t (jin_1 40 rfl) rfl
theorem wd_1_42 : Jvm.Cond.laysFinal "GlyphCompiler$TokenRow" "GlyphCompiler$TokenRow" "values" "[I" ∈ jTs := jin_t (jin_1 42 rfl) rfl
theorem wd_1_44 : Jvm.Cond.laysFinal "GlyphCompiler$TokenRow" "GlyphCompiler$TokenRow" "depths" "[I" ∈ jTs := jin_t (jin_1 44 rfl) rfl
theorem wd_1_46 : Jvm.Cond.lays "GlyphCompiler$TokenRow" "GlyphCompiler$TokenRow" "length" "I" ∈ jTs := jin_t (jin_1 46 rfl) rfl
theorem wd_1_68 : Jvm.Cond.laysFinal "GlyphCompiler$Expander" "GlyphCompiler$Expander" "bodies" "[LGlyphCompiler$TokenRow;" ∈ jTs := jin_t (jin_1 68 rfl) rfl
theorem wd_1_70 : Jvm.Cond.laysFinal "GlyphCompiler$Expander" "GlyphCompiler$Expander" "parameters" "[I" ∈ jTs := jin_t (jin_1 70 rfl) rfl
theorem wd_1_72 : Jvm.Cond.laysFinal "GlyphCompiler$Expander" "GlyphCompiler$Expander" "spare" "LGlyphCompiler$TokenRow;" ∈ jTs := jin_t (jin_1 72 rfl) rfl
theorem wd_1_74 : Jvm.Cond.laysFinal "GlyphCompiler$Expander" "GlyphCompiler$Expander" "starts" "[I" ∈ jTs := jin_t (jin_1 74 rfl) rfl
theorem wd_1_76 : Jvm.Cond.laysFinal "GlyphCompiler$Expander" "GlyphCompiler$Expander" "ends" "[I" ∈ jTs := jin_t (jin_1 76 rfl) rfl
theorem wd_1_78 : Jvm.Cond.lays "GlyphCompiler$Expander" "GlyphCompiler$Expander" "at" "I" ∈ jTs := jin_t (jin_1 78 rfl) rfl
theorem wd_1_80 : Jvm.Cond.lays "GlyphCompiler$Expander" "GlyphCompiler$Expander" "replacements" "I" ∈ jTs := jin_t (jin_1 80 rfl) rfl
theorem wd_1_162 : Jvm.Cond.laysFinal "GlyphCompiler$Reader" "GlyphCompiler$Reader" "row" "LGlyphCompiler$TokenRow;" ∈ jTs := jin_t (jin_1 162 rfl) rfl
theorem wd_1_164 : Jvm.Cond.laysFinal "GlyphCompiler$Reader" "GlyphCompiler$Reader" "variables" "LGlyphCompiler$Variables;" ∈ jTs := jin_t (jin_1 164 rfl) rfl
theorem wd_1_166 : Jvm.Cond.lays "GlyphCompiler$Reader" "GlyphCompiler$Reader" "at" "I" ∈ jTs := jin_t (jin_1 166 rfl) rfl
theorem wd_1_168 : Jvm.Cond.lays "GlyphCompiler$Reader" "GlyphCompiler$Reader" "error" "I" ∈ jTs := jin_t (jin_1 168 rfl) rfl
theorem wd_1_170 : Jvm.Cond.lays "GlyphCompiler$Reader" "GlyphCompiler$Reader" "verb" "I" ∈ jTs := jin_t (jin_1 170 rfl) rfl
theorem wd_1_172 : Jvm.Cond.laysFinal "GlyphCompiler$Reader" "GlyphCompiler$Reader" "kept" "[LGlyphCompiler$Form;" ∈ jTs := jin_t (jin_1 172 rfl) rfl
theorem wd_1_174 : Jvm.Cond.lays "GlyphCompiler$Reader" "GlyphCompiler$Reader" "keptCount" "I" ∈ jTs := jin_t (jin_1 174 rfl) rfl
theorem wd_1_176 : Jvm.Cond.lays "GlyphCompiler$Reader" "GlyphCompiler$Reader" "inRange" "Z" ∈ jTs := jin_t (jin_1 176 rfl) rfl
theorem wd_1_178 : Jvm.Cond.laysFinal "GlyphCompiler$Reader" "GlyphCompiler$Reader" "curves" "[Z" ∈ jTs := jin_t (jin_1 178 rfl) rfl
theorem wd_1_180 : Jvm.Cond.lays "GlyphCompiler$Reader" "GlyphCompiler$Reader" "legCount" "I" ∈ jTs := jin_t (jin_1 180 rfl) rfl
theorem wd_1_182 : Jvm.Cond.laysFinal "GlyphCompiler$Reader" "GlyphCompiler$Reader" "sums" "[LGlyphCompiler$Form;" ∈ jTs := jin_t (jin_1 182 rfl) rfl
theorem wd_1_184 : Jvm.Cond.laysFinal "GlyphCompiler$Reader" "GlyphCompiler$Reader" "terms" "[LGlyphCompiler$Form;" ∈ jTs := jin_t (jin_1 184 rfl) rfl
theorem wd_1_186 : Jvm.Cond.laysFinal "GlyphCompiler$Reader" "GlyphCompiler$Reader" "firsts" "[LGlyphCompiler$Form;" ∈ jTs := jin_t (jin_1 186 rfl) rfl
theorem wd_1_129 : Jvm.Cond.laysFinal "GlyphCompiler$Variables" "GlyphCompiler$Variables" "states" "[I" ∈ jTs := jin_t (jin_1 129 rfl) rfl
theorem wd_1_131 : Jvm.Cond.laysFinal "GlyphCompiler$Variables" "GlyphCompiler$Variables" "forms" "[LGlyphCompiler$Form;" ∈ jTs := jin_t (jin_1 131 rfl) rfl
theorem wd_1_133 : Jvm.Cond.laysFinal "GlyphCompiler$Variables" "GlyphCompiler$Variables" "difference" "LGlyphCompiler$Form;" ∈ jTs := jin_t (jin_1 133 rfl) rfl
theorem wd_1_135 : Jvm.Cond.laysFinal "GlyphCompiler$Variables" "GlyphCompiler$Variables" "spare" "LGlyphCompiler$Form;" ∈ jTs := jin_t (jin_1 135 rfl) rfl
theorem wd_1_111 : Jvm.Cond.laysFinal "GlyphCompiler$Form" "GlyphCompiler$Form" "parts" "[J" ∈ jTs := jin_t (jin_1 111 rfl) rfl
theorem wd_1_205 : Jvm.Cond.laysFinal "GlyphCompiler$Outline" "GlyphCompiler$Outline" "numbers" "[I" ∈ jTs := jin_t (jin_1 205 rfl) rfl
theorem wd_1_207 : Jvm.Cond.laysFinal "GlyphCompiler$Outline" "GlyphCompiler$Outline" "xs" "[I" ∈ jTs := jin_t (jin_1 207 rfl) rfl
theorem wd_1_209 : Jvm.Cond.laysFinal "GlyphCompiler$Outline" "GlyphCompiler$Outline" "ys" "[I" ∈ jTs := jin_t (jin_1 209 rfl) rfl
theorem wd_1_211 : Jvm.Cond.lays "GlyphCompiler$Outline" "GlyphCompiler$Outline" "points" "I" ∈ jTs := jin_t (jin_1 211 rfl) rfl
theorem wd_1_222 : Jvm.Cond.laysFinal "GlyphCompiler$Picture" "GlyphCompiler$Picture" "points" "[Z" ∈ jTs := jin_t (jin_1 222 rfl) rfl
theorem wd_1_224 : Jvm.Cond.laysFinal "GlyphCompiler$Picture" "GlyphCompiler$Picture" "windings" "[I" ∈ jTs := jin_t (jin_1 224 rfl) rfl
theorem wd_1_237 : Jvm.Cond.laysFinal "GlyphCompiler" "GlyphCompiler" "input" "LGlyphCompiler$TokenRow;" ∈ jTs := jin_t (jin_1 237 rfl) rfl
theorem wd_1_239 : Jvm.Cond.laysFinal "GlyphCompiler" "GlyphCompiler" "expander" "LGlyphCompiler$Expander;" ∈ jTs := jin_t (jin_1 239 rfl) rfl
theorem wd_2_1 : Jvm.Cond.laysFinal "GlyphCompiler" "GlyphCompiler" "reader" "LGlyphCompiler$Reader;" ∈ jTs := jin_t (jin_2 1 rfl) rfl
theorem wd_2_3 : Jvm.Cond.laysFinal "GlyphCompiler" "GlyphCompiler" "before" "LGlyphCompiler$Variables;" ∈ jTs := jin_t (jin_2 3 rfl) rfl
theorem wd_2_5 : Jvm.Cond.laysFinal "GlyphCompiler" "GlyphCompiler" "outline" "LGlyphCompiler$Outline;" ∈ jTs := jin_t (jin_2 5 rfl) rfl
theorem wd_2_7 : Jvm.Cond.laysFinal "GlyphCompiler" "GlyphCompiler" "picture" "LGlyphCompiler$Picture;" ∈ jTs := jin_t (jin_2 7 rfl) rfl
theorem wd_2_9 : Jvm.Cond.laysFinal "GlyphCompiler" "GlyphCompiler" "notes" "[J" ∈ jTs := jin_t (jin_2 9 rfl) rfl
theorem wd_2_11 : Jvm.Cond.lays "GlyphCompiler" "GlyphCompiler" "noted" "I" ∈ jTs := jin_t (jin_2 11 rfl) rfl
theorem wd_2_13 : Jvm.Cond.lays "GlyphCompiler" "GlyphCompiler" "carriedOut" "I" ∈ jTs := jin_t (jin_2 13 rfl) rfl
theorem wd_2_15 : Jvm.Cond.lays "GlyphCompiler" "GlyphCompiler" "lastPlace" "I" ∈ jTs := jin_t (jin_2 15 rfl) rfl
theorem wd_3_168 : Jvm.Cond.lays "GlyphCompilerModel" "GlyphCompilerModel" "size" "I" ∈ jTs := jin_t (jin_3 168 rfl) rfl
theorem wd_3_170 : Jvm.Cond.lays "GlyphCompilerModel" "GlyphCompilerModel" "row" "I" ∈ jTs := jin_t (jin_3 170 rfl) rfl
theorem wd_3_172 : Jvm.Cond.lays "GlyphCompilerModel" "GlyphCompilerModel" "replaced" "I" ∈ jTs := jin_t (jin_3 172 rfl) rfl
theorem wd_3_174 : Jvm.Cond.lays "GlyphCompilerModel" "GlyphCompilerModel" "lastPlace" "I" ∈ jTs := jin_t (jin_3 174 rfl) rfl
theorem wd_3_176 : Jvm.Cond.lays "GlyphCompilerModel" "GlyphCompilerModel" "p" "I" ∈ jTs := jin_t (jin_3 176 rfl) rfl
theorem wd_3_178 : Jvm.Cond.lays "GlyphCompilerModel" "GlyphCompilerModel" "error" "I" ∈ jTs := jin_t (jin_3 178 rfl) rfl
theorem wd_3_180 : Jvm.Cond.lays "GlyphCompilerModel" "GlyphCompilerModel" "place" "I" ∈ jTs := jin_t (jin_3 180 rfl) rfl
theorem wd_3_182 : Jvm.Cond.lays "GlyphCompilerModel" "GlyphCompilerModel" "notes" "I" ∈ jTs := jin_t (jin_3 182 rfl) rfl
theorem wd_3_184 : Jvm.Cond.lays "GlyphCompilerModel" "GlyphCompilerModel" "done" "I" ∈ jTs := jin_t (jin_3 184 rfl) rfl
theorem wd_3_186 : Jvm.Cond.lays "GlyphCompilerModel" "GlyphCompilerModel" "forms" "I" ∈ jTs := jin_t (jin_3 186 rfl) rfl
theorem wd_3_188 : Jvm.Cond.lays "GlyphCompilerModel" "GlyphCompilerModel" "pieces" "I" ∈ jTs := jin_t (jin_3 188 rfl) rfl
theorem wd_3_190 : Jvm.Cond.lays "GlyphCompilerModel" "GlyphCompilerModel" "pairs" "I" ∈ jTs := jin_t (jin_3 190 rfl) rfl
theorem wd_3_192 : Jvm.Cond.lays "GlyphCompilerModel" "GlyphCompilerModel" "legs" "I" ∈ jTs := jin_t (jin_3 192 rfl) rfl
theorem wd_3_194 : Jvm.Cond.lays "GlyphCompilerModel" "GlyphCompilerModel" "top" "I" ∈ jTs := jin_t (jin_3 194 rfl) rfl
theorem wd_3_196 : Jvm.Cond.lays "GlyphCompilerModel" "GlyphCompilerModel" "nests" "I" ∈ jTs := jin_t (jin_3 196 rfl) rfl
theorem wd_3_198 : Jvm.Cond.lays "GlyphCompilerModel" "GlyphCompilerModel" "range" "Z" ∈ jTs := jin_t (jin_3 198 rfl) rfl
theorem wd_3_200 : Jvm.Cond.laysFinal "GlyphCompilerModel" "GlyphCompilerModel" "inKind" "[I" ∈ jTs := jin_t (jin_3 200 rfl) rfl
theorem wd_3_202 : Jvm.Cond.laysFinal "GlyphCompilerModel" "GlyphCompilerModel" "inValue" "[I" ∈ jTs := jin_t (jin_3 202 rfl) rfl
theorem wd_3_204 : Jvm.Cond.laysFinal "GlyphCompilerModel" "GlyphCompilerModel" "macroKind" "[I" ∈ jTs := jin_t (jin_3 204 rfl) rfl
theorem wd_3_206 : Jvm.Cond.laysFinal "GlyphCompilerModel" "GlyphCompilerModel" "macroValue" "[I" ∈ jTs := jin_t (jin_3 206 rfl) rfl
theorem wd_3_208 : Jvm.Cond.laysFinal "GlyphCompilerModel" "GlyphCompilerModel" "macroSize" "[I" ∈ jTs := jin_t (jin_3 208 rfl) rfl
theorem wd_3_210 : Jvm.Cond.laysFinal "GlyphCompilerModel" "GlyphCompilerModel" "params" "[I" ∈ jTs := jin_t (jin_3 210 rfl) rfl
theorem wd_3_212 : Jvm.Cond.laysFinal "GlyphCompilerModel" "GlyphCompilerModel" "kind" "[I" ∈ jTs := jin_t (jin_3 212 rfl) rfl
theorem wd_3_214 : Jvm.Cond.laysFinal "GlyphCompilerModel" "GlyphCompilerModel" "value" "[I" ∈ jTs := jin_t (jin_3 214 rfl) rfl
theorem wd_3_216 : Jvm.Cond.laysFinal "GlyphCompilerModel" "GlyphCompilerModel" "depth" "[I" ∈ jTs := jin_t (jin_3 216 rfl) rfl
theorem wd_3_218 : Jvm.Cond.laysFinal "GlyphCompilerModel" "GlyphCompilerModel" "newKind" "[I" ∈ jTs := jin_t (jin_3 218 rfl) rfl
theorem wd_3_220 : Jvm.Cond.laysFinal "GlyphCompilerModel" "GlyphCompilerModel" "newValue" "[I" ∈ jTs := jin_t (jin_3 220 rfl) rfl
theorem wd_3_222 : Jvm.Cond.laysFinal "GlyphCompilerModel" "GlyphCompilerModel" "newDepth" "[I" ∈ jTs := jin_t (jin_3 222 rfl) rfl
theorem wd_3_224 : Jvm.Cond.laysFinal "GlyphCompilerModel" "GlyphCompilerModel" "argFrom" "[I" ∈ jTs := jin_t (jin_3 224 rfl) rfl
theorem wd_3_226 : Jvm.Cond.laysFinal "GlyphCompilerModel" "GlyphCompilerModel" "argTo" "[I" ∈ jTs := jin_t (jin_3 226 rfl) rfl
theorem wd_3_228 : Jvm.Cond.laysFinal "GlyphCompilerModel" "GlyphCompilerModel" "state" "[I" ∈ jTs := jin_t (jin_3 228 rfl) rfl
theorem wd_3_230 : Jvm.Cond.laysFinal "GlyphCompilerModel" "GlyphCompilerModel" "form" "[J" ∈ jTs := jin_t (jin_3 230 rfl) rfl
theorem wd_3_232 : Jvm.Cond.laysFinal "GlyphCompilerModel" "GlyphCompilerModel" "noted" "[J" ∈ jTs := jin_t (jin_3 232 rfl) rfl
theorem wd_3_234 : Jvm.Cond.laysFinal "GlyphCompilerModel" "GlyphCompilerModel" "wholes" "[J" ∈ jTs := jin_t (jin_3 234 rfl) rfl
theorem wd_3_236 : Jvm.Cond.laysFinal "GlyphCompilerModel" "GlyphCompilerModel" "parts" "[J" ∈ jTs := jin_t (jin_3 236 rfl) rfl
theorem wd_3_238 : Jvm.Cond.laysFinal "GlyphCompilerModel" "GlyphCompilerModel" "work" "[J" ∈ jTs := jin_t (jin_3 238 rfl) rfl
theorem wd_4_0 : Jvm.Cond.laysFinal "GlyphCompilerModel" "GlyphCompilerModel" "wait" "[I" ∈ jTs := jin_t (jin_4 0 rfl) rfl
theorem wd_4_2 : Jvm.Cond.laysFinal "GlyphCompilerModel" "GlyphCompilerModel" "waitAt" "[I" ∈ jTs := jin_t (jin_4 2 rfl) rfl
theorem wd_4_4 : Jvm.Cond.laysFinal "GlyphCompilerModel" "GlyphCompilerModel" "waitNumber" "[J" ∈ jTs := jin_t (jin_4 4 rfl) rfl
theorem wd_4_6 : Jvm.Cond.laysFinal "GlyphCompilerModel" "GlyphCompilerModel" "outline" "[J" ∈ jTs := jin_t (jin_4 6 rfl) rfl
theorem wd_4_8 : Jvm.Cond.laysFinal "GlyphCompilerModel" "GlyphCompilerModel" "fromX" "[J" ∈ jTs := jin_t (jin_4 8 rfl) rfl
theorem wd_4_10 : Jvm.Cond.laysFinal "GlyphCompilerModel" "GlyphCompilerModel" "fromY" "[J" ∈ jTs := jin_t (jin_4 10 rfl) rfl
theorem wd_4_12 : Jvm.Cond.laysFinal "GlyphCompilerModel" "GlyphCompilerModel" "toX" "[J" ∈ jTs := jin_t (jin_4 12 rfl) rfl
theorem wd_4_14 : Jvm.Cond.laysFinal "GlyphCompilerModel" "GlyphCompilerModel" "toY" "[J" ∈ jTs := jin_t (jin_4 14 rfl) rfl
theorem wd_4_16 : Jvm.Cond.laysFinal "GlyphCompilerModel" "GlyphCompilerModel" "curve" "[I" ∈ jTs := jin_t (jin_4 16 rfl) rfl
theorem wd_4_18 : Jvm.Cond.laysFinal "GlyphCompilerModel" "GlyphCompilerModel" "black" "[Z" ∈ jTs := jin_t (jin_4 18 rfl) rfl
theorem in_TR : ∀ w ∈ u_ws R_TR T_TR 4, w ∈ jTs := by
  intro w hw
  obtain ⟨k, hk, rfl⟩ := List.mem_map.mp hw
  have hk := List.mem_range.mp hk
  rcases (show k = 0 ∨ k = 1 ∨ k = 2 ∨ k = 3 by omega) with rfl | rfl | rfl | rfl
  · exact wd_1_40
  · exact wd_1_42
  · exact wd_1_44
  · exact wd_1_46
theorem ty_TR : ∀ k, k < 4 → parseFieldDescriptor (T_TR k).2.2.1 = some ((parseFieldDescriptor (T_TR k).2.2.1).getD .int) := by decide +kernel
theorem nm_TR : ∀ a, a < 4 → ∀ b, b < 4 → a ≠ b → (T_TR a).2.1 ≠ (T_TR b).2.1 := by decide +kernel
theorem in_EX : ∀ w ∈ u_ws R_EX T_EX 7, w ∈ jTs := by
  intro w hw
  obtain ⟨k, hk, rfl⟩ := List.mem_map.mp hw
  have hk := List.mem_range.mp hk
  rcases (show k = 0 ∨ k = 1 ∨ k = 2 ∨ k = 3 ∨ k = 4 ∨ k = 5 ∨ k = 6 by omega) with rfl | rfl | rfl | rfl | rfl | rfl | rfl
  · exact wd_1_68
  · exact wd_1_70
  · exact wd_1_72
  · exact wd_1_74
  · exact wd_1_76
  · exact wd_1_78
  · exact wd_1_80
theorem ty_EX : ∀ k, k < 7 → parseFieldDescriptor (T_EX k).2.2.1 = some ((parseFieldDescriptor (T_EX k).2.2.1).getD .int) := by decide +kernel
theorem nm_EX : ∀ a, a < 7 → ∀ b, b < 7 → a ≠ b → (T_EX a).2.1 ≠ (T_EX b).2.1 := by decide +kernel
theorem in_RD : ∀ w ∈ u_ws R_RD T_RD 13, w ∈ jTs := by
  intro w hw
  obtain ⟨k, hk, rfl⟩ := List.mem_map.mp hw
  have hk := List.mem_range.mp hk
  rcases (show k = 0 ∨ k = 1 ∨ k = 2 ∨ k = 3 ∨ k = 4 ∨ k = 5 ∨ k = 6 ∨ k = 7 ∨ k = 8 ∨ k = 9 ∨ k = 10 ∨ k = 11 ∨ k = 12 by omega) with rfl | rfl | rfl | rfl | rfl | rfl | rfl | rfl | rfl | rfl | rfl | rfl | rfl
  · exact wd_1_162
  · exact wd_1_164
  · exact wd_1_166
  · exact wd_1_168
  · exact wd_1_170
  · exact wd_1_172
  · exact wd_1_174
  · exact wd_1_176
  · exact wd_1_178
  · exact wd_1_180
  · exact wd_1_182
  · exact wd_1_184
  · exact wd_1_186
theorem ty_RD : ∀ k, k < 13 → parseFieldDescriptor (T_RD k).2.2.1 = some ((parseFieldDescriptor (T_RD k).2.2.1).getD .int) := by decide +kernel
theorem nm_RD : ∀ a, a < 13 → ∀ b, b < 13 → a ≠ b → (T_RD a).2.1 ≠ (T_RD b).2.1 := by decide +kernel
theorem in_VA : ∀ w ∈ u_ws R_VA T_VA 4, w ∈ jTs := by
  intro w hw
  obtain ⟨k, hk, rfl⟩ := List.mem_map.mp hw
  have hk := List.mem_range.mp hk
  rcases (show k = 0 ∨ k = 1 ∨ k = 2 ∨ k = 3 by omega) with rfl | rfl | rfl | rfl
  · exact wd_1_129
  · exact wd_1_131
  · exact wd_1_133
  · exact wd_1_135
theorem ty_VA : ∀ k, k < 4 → parseFieldDescriptor (T_VA k).2.2.1 = some ((parseFieldDescriptor (T_VA k).2.2.1).getD .int) := by decide +kernel
theorem nm_VA : ∀ a, a < 4 → ∀ b, b < 4 → a ≠ b → (T_VA a).2.1 ≠ (T_VA b).2.1 := by decide +kernel
theorem in_FO : ∀ w ∈ u_ws R_FO T_FO 1, w ∈ jTs := by
  intro w hw
  obtain ⟨k, hk, rfl⟩ := List.mem_map.mp hw
  have hk := List.mem_range.mp hk
  rcases (show k = 0 by omega) with rfl
  · exact wd_1_111
theorem ty_FO : ∀ k, k < 1 → parseFieldDescriptor (T_FO k).2.2.1 = some ((parseFieldDescriptor (T_FO k).2.2.1).getD .int) := by decide +kernel
theorem nm_FO : ∀ a, a < 1 → ∀ b, b < 1 → a ≠ b → (T_FO a).2.1 ≠ (T_FO b).2.1 := by decide +kernel
theorem in_OU : ∀ w ∈ u_ws R_OU T_OU 4, w ∈ jTs := by
  intro w hw
  obtain ⟨k, hk, rfl⟩ := List.mem_map.mp hw
  have hk := List.mem_range.mp hk
  rcases (show k = 0 ∨ k = 1 ∨ k = 2 ∨ k = 3 by omega) with rfl | rfl | rfl | rfl
  · exact wd_1_205
  · exact wd_1_207
  · exact wd_1_209
  · exact wd_1_211
theorem ty_OU : ∀ k, k < 4 → parseFieldDescriptor (T_OU k).2.2.1 = some ((parseFieldDescriptor (T_OU k).2.2.1).getD .int) := by decide +kernel
theorem nm_OU : ∀ a, a < 4 → ∀ b, b < 4 → a ≠ b → (T_OU a).2.1 ≠ (T_OU b).2.1 := by decide +kernel
theorem in_PI : ∀ w ∈ u_ws R_PI T_PI 2, w ∈ jTs := by
  intro w hw
  obtain ⟨k, hk, rfl⟩ := List.mem_map.mp hw
  have hk := List.mem_range.mp hk
  rcases (show k = 0 ∨ k = 1 by omega) with rfl | rfl
  · exact wd_1_222
  · exact wd_1_224
theorem ty_PI : ∀ k, k < 2 → parseFieldDescriptor (T_PI k).2.2.1 = some ((parseFieldDescriptor (T_PI k).2.2.1).getD .int) := by decide +kernel
theorem nm_PI : ∀ a, a < 2 → ∀ b, b < 2 → a ≠ b → (T_PI a).2.1 ≠ (T_PI b).2.1 := by decide +kernel
theorem in_GC : ∀ w ∈ u_ws R_GC T_GC 10, w ∈ jTs := by
  intro w hw
  obtain ⟨k, hk, rfl⟩ := List.mem_map.mp hw
  have hk := List.mem_range.mp hk
  rcases (show k = 0 ∨ k = 1 ∨ k = 2 ∨ k = 3 ∨ k = 4 ∨ k = 5 ∨ k = 6 ∨ k = 7 ∨ k = 8 ∨ k = 9 by omega) with rfl | rfl | rfl | rfl | rfl | rfl | rfl | rfl | rfl | rfl
  · exact wd_1_237
  · exact wd_1_239
  · exact wd_2_1
  · exact wd_2_3
  · exact wd_2_5
  · exact wd_2_7
  · exact wd_2_9
  · exact wd_2_11
  · exact wd_2_13
  · exact wd_2_15
theorem ty_GC : ∀ k, k < 10 → parseFieldDescriptor (T_GC k).2.2.1 = some ((parseFieldDescriptor (T_GC k).2.2.1).getD .int) := by decide +kernel
theorem nm_GC : ∀ a, a < 10 → ∀ b, b < 10 → a ≠ b → (T_GC a).2.1 ≠ (T_GC b).2.1 := by decide +kernel
theorem in_GM : ∀ w ∈ u_ws R_GM T_GM 46, w ∈ jTs := by
  intro w hw
  obtain ⟨k, hk, rfl⟩ := List.mem_map.mp hw
  have hk := List.mem_range.mp hk
  rcases (show k = 0 ∨ k = 1 ∨ k = 2 ∨ k = 3 ∨ k = 4 ∨ k = 5 ∨ k = 6 ∨ k = 7 ∨ k = 8 ∨ k = 9 ∨ k = 10 ∨ k = 11 ∨ k = 12 ∨ k = 13 ∨ k = 14 ∨ k = 15 ∨ k = 16 ∨ k = 17 ∨ k = 18 ∨ k = 19 ∨ k = 20 ∨ k = 21 ∨ k = 22 ∨ k = 23 ∨ k = 24 ∨ k = 25 ∨ k = 26 ∨ k = 27 ∨ k = 28 ∨ k = 29 ∨ k = 30 ∨ k = 31 ∨ k = 32 ∨ k = 33 ∨ k = 34 ∨ k = 35 ∨ k = 36 ∨ k = 37 ∨ k = 38 ∨ k = 39 ∨ k = 40 ∨ k = 41 ∨ k = 42 ∨ k = 43 ∨ k = 44 ∨ k = 45 by omega) with rfl | rfl | rfl | rfl | rfl | rfl | rfl | rfl | rfl | rfl | rfl | rfl | rfl | rfl | rfl | rfl | rfl | rfl | rfl | rfl | rfl | rfl | rfl | rfl | rfl | rfl | rfl | rfl | rfl | rfl | rfl | rfl | rfl | rfl | rfl | rfl | rfl | rfl | rfl | rfl | rfl | rfl | rfl | rfl | rfl | rfl
  · exact wd_3_168
  · exact wd_3_170
  · exact wd_3_172
  · exact wd_3_174
  · exact wd_3_176
  · exact wd_3_178
  · exact wd_3_180
  · exact wd_3_182
  · exact wd_3_184
  · exact wd_3_186
  · exact wd_3_188
  · exact wd_3_190
  · exact wd_3_192
  · exact wd_3_194
  · exact wd_3_196
  · exact wd_3_198
  · exact wd_3_200
  · exact wd_3_202
  · exact wd_3_204
  · exact wd_3_206
  · exact wd_3_208
  · exact wd_3_210
  · exact wd_3_212
  · exact wd_3_214
  · exact wd_3_216
  · exact wd_3_218
  · exact wd_3_220
  · exact wd_3_222
  · exact wd_3_224
  · exact wd_3_226
  · exact wd_3_228
  · exact wd_3_230
  · exact wd_3_232
  · exact wd_3_234
  · exact wd_3_236
  · exact wd_3_238
  · exact wd_4_0
  · exact wd_4_2
  · exact wd_4_4
  · exact wd_4_6
  · exact wd_4_8
  · exact wd_4_10
  · exact wd_4_12
  · exact wd_4_14
  · exact wd_4_16
  · exact wd_4_18
theorem ty_GM : ∀ k, k < 46 → parseFieldDescriptor (T_GM k).2.2.1 = some ((parseFieldDescriptor (T_GM k).2.2.1).getD .int) := by decide +kernel
theorem nm_GM : ∀ a, a < 46 → ∀ b, b < 46 → a ≠ b → (T_GM a).2.1 ≠ (T_GM b).2.1 := by decide +kernel
def jclP (q : vw_C) : Prop := (∀ w ∈ u_ws q.1 q.2.1 q.2.2, w ∈ jTs) ∧ (∀ k, k < q.2.2 → parseFieldDescriptor (q.2.1 k).2.2.1 = some ((parseFieldDescriptor (q.2.1 k).2.2.1).getD .int)) ∧ ∀ a, a < q.2.2 → ∀ b, b < q.2.2 → a ≠ b → (q.2.1 a).2.1 ≠ (q.2.1 b).2.1
theorem jCl_ok : ∀ q ∈ jCl, jclP q := List.forall_mem_cons.mpr ⟨(⟨in_TR, ty_TR, nm_TR⟩ : jclP (R_TR, T_TR, 4)), List.forall_mem_cons.mpr ⟨(⟨in_EX, ty_EX, nm_EX⟩ : jclP (R_EX, T_EX, 7)), List.forall_mem_cons.mpr ⟨(⟨in_RD, ty_RD, nm_RD⟩ : jclP (R_RD, T_RD, 13)), List.forall_mem_cons.mpr ⟨(⟨in_VA, ty_VA, nm_VA⟩ : jclP (R_VA, T_VA, 4)), List.forall_mem_cons.mpr ⟨(⟨in_FO, ty_FO, nm_FO⟩ : jclP (R_FO, T_FO, 1)), List.forall_mem_cons.mpr ⟨(⟨in_OU, ty_OU, nm_OU⟩ : jclP (R_OU, T_OU, 4)), List.forall_mem_cons.mpr ⟨(⟨in_PI, ty_PI, nm_PI⟩ : jclP (R_PI, T_PI, 2)), List.forall_mem_cons.mpr ⟨(⟨in_GC, ty_GC, nm_GC⟩ : jclP (R_GC, T_GC, 10)), List.forall_mem_cons.mpr ⟨(⟨in_GM, ty_GM, nm_GM⟩ : jclP (R_GM, T_GM, 46)), fun _ h => absurd h List.not_mem_nil⟩⟩⟩⟩⟩⟩⟩⟩⟩
abbrev Y_GC_init : MethodName × ByteArray × Nat × Option FieldType := (({ cls := "GlyphCompiler", name := "<init>", desc := "()V" } : Jvm.MethodName), prog_1_method_1_code, 1, (Option.none : Option Jvm.ClassFile.FieldType))
abbrev Y_TR_init : MethodName × ByteArray × Nat × Option FieldType := (({ cls := "GlyphCompiler$TokenRow", name := "<init>", desc := "(I)V" } : Jvm.MethodName), prog_7_method_1_code, 2, (Option.none : Option Jvm.ClassFile.FieldType))
abbrev Y_EX_init : MethodName × ByteArray × Nat × Option FieldType := (({ cls := "GlyphCompiler$Expander", name := "<init>", desc := "()V" } : Jvm.MethodName), prog_2_method_1_code, 2, (Option.none : Option Jvm.ClassFile.FieldType))
abbrev Y_RD_init : MethodName × ByteArray × Nat × Option FieldType := (({ cls := "GlyphCompiler$Reader", name := "<init>", desc := "()V" } : Jvm.MethodName), prog_6_method_1_code, 1, (Option.none : Option Jvm.ClassFile.FieldType))
abbrev Y_VA_init : MethodName × ByteArray × Nat × Option FieldType := (({ cls := "GlyphCompiler$Variables", name := "<init>", desc := "()V" } : Jvm.MethodName), prog_8_method_1_code, 2, (Option.none : Option Jvm.ClassFile.FieldType))
abbrev Y_FO_row : MethodName × ByteArray × Nat × Option FieldType := (({ cls := "GlyphCompiler$Form", name := "row", desc := "(I)[LGlyphCompiler$Form;" } : Jvm.MethodName), prog_3_method_2_code, 3, (Option.some (Jvm.ClassFile.FieldType.array (Jvm.ClassFile.FieldType.object "GlyphCompiler$Form"))))
abbrev Y_FO_init : MethodName × ByteArray × Nat × Option FieldType := (({ cls := "GlyphCompiler$Form", name := "<init>", desc := "()V" } : Jvm.MethodName), prog_3_method_1_code, 1, (Option.none : Option Jvm.ClassFile.FieldType))
abbrev Y_FO_set : MethodName × ByteArray × Nat × Option FieldType := (({ cls := "GlyphCompiler$Form", name := "set", desc := "(IJ)V" } : Jvm.MethodName), prog_3_method_6_code, 5, (Option.none : Option Jvm.ClassFile.FieldType))
abbrev Y_OU_init : MethodName × ByteArray × Nat × Option FieldType := (({ cls := "GlyphCompiler$Outline", name := "<init>", desc := "()V" } : Jvm.MethodName), prog_4_method_1_code, 1, (Option.none : Option Jvm.ClassFile.FieldType))
abbrev Y_PI_init : MethodName × ByteArray × Nat × Option FieldType := (({ cls := "GlyphCompiler$Picture", name := "<init>", desc := "()V" } : Jvm.MethodName), prog_5_method_1_code, 1, (Option.none : Option Jvm.ClassFile.FieldType))
abbrev Y_GC_feed : MethodName × ByteArray × Nat × Option FieldType := (({ cls := "GlyphCompiler", name := "feed", desc := "(II)I" } : Jvm.MethodName), prog_1_method_2_code, 3, (Option.some Jvm.ClassFile.FieldType.int))
abbrev Y_GC_isToken : MethodName × ByteArray × Nat × Option FieldType := (({ cls := "GlyphCompiler", name := "isToken", desc := "(II)Z" } : Jvm.MethodName), prog_1_method_3_code, 2, (Option.some Jvm.ClassFile.FieldType.boolean))
abbrev Y_GC_isBelow : MethodName × ByteArray × Nat × Option FieldType := (({ cls := "GlyphCompiler", name := "isBelow", desc := "(II)Z" } : Jvm.MethodName), prog_1_method_4_code, 2, (Option.some Jvm.ClassFile.FieldType.boolean))
abbrev Y_TR_add : MethodName × ByteArray × Nat × Option FieldType := (({ cls := "GlyphCompiler$TokenRow", name := "add", desc := "(III)V" } : Jvm.MethodName), prog_7_method_5_code, 4, (Option.none : Option Jvm.ClassFile.FieldType))
abbrev Y_GC_wipe : MethodName × ByteArray × Nat × Option FieldType := (({ cls := "GlyphCompiler", name := "wipe", desc := "()I" } : Jvm.MethodName), prog_1_method_5_code, 2, (Option.some Jvm.ClassFile.FieldType.int))
abbrev Y_GC_macro : MethodName × ByteArray × Nat × Option FieldType := (({ cls := "GlyphCompiler", name := "macro", desc := "(II)I" } : Jvm.MethodName), prog_1_method_6_code, 3, (Option.some Jvm.ClassFile.FieldType.int))
abbrev Y_TR_greatestArgument : MethodName × ByteArray × Nat × Option FieldType := (({ cls := "GlyphCompiler$TokenRow", name := "greatestArgument", desc := "()I" } : Jvm.MethodName), prog_7_method_4_code, 3, (Option.some Jvm.ClassFile.FieldType.int))
abbrev Y_Ma_max : MethodName × ByteArray × Nat × Option FieldType := (({ cls := "java/lang/Math", name := "max", desc := "(II)I" } : Jvm.MethodName), prog_12_method_65_code, 2, (Option.some Jvm.ClassFile.FieldType.int))
abbrev Y_EX_define : MethodName × ByteArray × Nat × Option FieldType := (({ cls := "GlyphCompiler$Expander", name := "define", desc := "(IILGlyphCompiler$TokenRow;)V" } : Jvm.MethodName), prog_2_method_2_code, 4, (Option.none : Option Jvm.ClassFile.FieldType))
abbrev Y_TR_copy : MethodName × ByteArray × Nat × Option FieldType := (({ cls := "GlyphCompiler$TokenRow", name := "copy", desc := "(LGlyphCompiler$TokenRow;)V" } : Jvm.MethodName), prog_7_method_7_code, 2, (Option.none : Option Jvm.ClassFile.FieldType))
abbrev Y_TR_addAll : MethodName × ByteArray × Nat × Option FieldType := (({ cls := "GlyphCompiler$TokenRow", name := "addAll", desc := "(LGlyphCompiler$TokenRow;II)V" } : Jvm.MethodName), prog_7_method_6_code, 5, (Option.none : Option Jvm.ClassFile.FieldType))
abbrev Y_Ma_min : MethodName × ByteArray × Nat × Option FieldType := (({ cls := "java/lang/Math", name := "min", desc := "(II)I" } : Jvm.MethodName), prog_12_method_69_code, 2, (Option.some Jvm.ClassFile.FieldType.int))
abbrev Y_GC_run : MethodName × ByteArray × Nat × Option FieldType := (({ cls := "GlyphCompiler", name := "run", desc := "()I" } : Jvm.MethodName), prog_1_method_7_code, 3, (Option.some Jvm.ClassFile.FieldType.int))
abbrev Y_EX_expand : MethodName × ByteArray × Nat × Option FieldType := (({ cls := "GlyphCompiler$Expander", name := "expand", desc := "(LGlyphCompiler$TokenRow;LGlyphCompiler$TokenRow;)I" } : Jvm.MethodName), prog_2_method_4_code, 5, (Option.some Jvm.ClassFile.FieldType.int))
abbrev Y_EX_replaceCall : MethodName × ByteArray × Nat × Option FieldType := (({ cls := "GlyphCompiler$Expander", name := "replaceCall", desc := "(LGlyphCompiler$TokenRow;)I" } : Jvm.MethodName), prog_2_method_5_code, 4, (Option.some Jvm.ClassFile.FieldType.int))
abbrev Y_EX_findArguments : MethodName × ByteArray × Nat × Option FieldType := (({ cls := "GlyphCompiler$Expander", name := "findArguments", desc := "(LGlyphCompiler$TokenRow;I)I" } : Jvm.MethodName), prog_2_method_6_code, 5, (Option.some Jvm.ClassFile.FieldType.int))
abbrev Y_TR_isWord : MethodName × ByteArray × Nat × Option FieldType := (({ cls := "GlyphCompiler$TokenRow", name := "isWord", desc := "(II)Z" } : Jvm.MethodName), prog_7_method_3_code, 3, (Option.some Jvm.ClassFile.FieldType.boolean))
abbrev Y_EX_endOfArgument : MethodName × ByteArray × Nat × Option FieldType := (({ cls := "GlyphCompiler$Expander", name := "endOfArgument", desc := "(LGlyphCompiler$TokenRow;I)I" } : Jvm.MethodName), prog_2_method_7_code, 5, (Option.some Jvm.ClassFile.FieldType.int))
abbrev Y_EX_lengthAfter : MethodName × ByteArray × Nat × Option FieldType := (({ cls := "GlyphCompiler$Expander", name := "lengthAfter", desc := "(LGlyphCompiler$TokenRow;LGlyphCompiler$TokenRow;I)I" } : Jvm.MethodName), prog_2_method_8_code, 7, (Option.some Jvm.ClassFile.FieldType.int))
abbrev Y_EX_putBody : MethodName × ByteArray × Nat × Option FieldType := (({ cls := "GlyphCompiler$Expander", name := "putBody", desc := "(LGlyphCompiler$TokenRow;LGlyphCompiler$TokenRow;I)V" } : Jvm.MethodName), prog_2_method_9_code, 7, (Option.none : Option Jvm.ClassFile.FieldType))
abbrev Y_RD_readStatement : MethodName × ByteArray × Nat × Option FieldType := (({ cls := "GlyphCompiler$Reader", name := "readStatement", desc := "()Z" } : Jvm.MethodName), prog_6_method_2_code, 2, (Option.some Jvm.ClassFile.FieldType.boolean))
abbrev Y_TR_isKind : MethodName × ByteArray × Nat × Option FieldType := (({ cls := "GlyphCompiler$TokenRow", name := "isKind", desc := "(II)Z" } : Jvm.MethodName), prog_7_method_2_code, 3, (Option.some Jvm.ClassFile.FieldType.boolean))
abbrev Y_RD_readExpression : MethodName × ByteArray × Nat × Option FieldType := (({ cls := "GlyphCompiler$Reader", name := "readExpression", desc := "(I)Z" } : Jvm.MethodName), prog_6_method_9_code, 6, (Option.some Jvm.ClassFile.FieldType.boolean))
abbrev Y_RD_readTerm : MethodName × ByteArray × Nat × Option FieldType := (({ cls := "GlyphCompiler$Reader", name := "readTerm", desc := "(I)Z" } : Jvm.MethodName), prog_6_method_10_code, 5, (Option.some Jvm.ClassFile.FieldType.boolean))
abbrev Y_RD_readPrimary : MethodName × ByteArray × Nat × Option FieldType := (({ cls := "GlyphCompiler$Reader", name := "readPrimary", desc := "(I)Z" } : Jvm.MethodName), prog_6_method_12_code, 2, (Option.some Jvm.ClassFile.FieldType.boolean))
abbrev Y_FO_copy : MethodName × ByteArray × Nat × Option FieldType := (({ cls := "GlyphCompiler$Form", name := "copy", desc := "(LGlyphCompiler$Form;)V" } : Jvm.MethodName), prog_3_method_7_code, 3, (Option.none : Option Jvm.ClassFile.FieldType))
abbrev Y_RD_take : MethodName × ByteArray × Nat × Option FieldType := (({ cls := "GlyphCompiler$Reader", name := "take", desc := "(I)Z" } : Jvm.MethodName), prog_6_method_8_code, 3, (Option.some Jvm.ClassFile.FieldType.boolean))
abbrev Y_FO_multiply : MethodName × ByteArray × Nat × Option FieldType := (({ cls := "GlyphCompiler$Form", name := "multiply", desc := "(I)Z" } : Jvm.MethodName), prog_3_method_10_code, 6, (Option.some Jvm.ClassFile.FieldType.boolean))
abbrev Y_FO_isNumber : MethodName × ByteArray × Nat × Option FieldType := (({ cls := "GlyphCompiler$Form", name := "isNumber", desc := "(J)Z" } : Jvm.MethodName), prog_3_method_3_code, 2, (Option.some Jvm.ClassFile.FieldType.boolean))
abbrev Y_RD_check : MethodName × ByteArray × Nat × Option FieldType := (({ cls := "GlyphCompiler$Reader", name := "check", desc := "(Z)Z" } : Jvm.MethodName), prog_6_method_11_code, 2, (Option.some Jvm.ClassFile.FieldType.boolean))
abbrev Y_RD_readEnds : MethodName × ByteArray × Nat × Option FieldType := (({ cls := "GlyphCompiler$Reader", name := "readEnds", desc := "(I)Z" } : Jvm.MethodName), prog_6_method_13_code, 2, (Option.some Jvm.ClassFile.FieldType.boolean))
abbrev Y_FO_setBetween : MethodName × ByteArray × Nat × Option FieldType := (({ cls := "GlyphCompiler$Form", name := "setBetween", desc := "(ILGlyphCompiler$Form;LGlyphCompiler$Form;)Z" } : Jvm.MethodName), prog_3_method_11_code, 8, (Option.some Jvm.ClassFile.FieldType.boolean))
abbrev Y_FO_subtract : MethodName × ByteArray × Nat × Option FieldType := (({ cls := "GlyphCompiler$Form", name := "subtract", desc := "(LGlyphCompiler$Form;)V" } : Jvm.MethodName), prog_3_method_9_code, 3, (Option.none : Option Jvm.ClassFile.FieldType))
abbrev Y_FO_add : MethodName × ByteArray × Nat × Option FieldType := (({ cls := "GlyphCompiler$Form", name := "add", desc := "(LGlyphCompiler$Form;)V" } : Jvm.MethodName), prog_3_method_8_code, 3, (Option.none : Option Jvm.ClassFile.FieldType))
abbrev Y_FO_hasNumbers : MethodName × ByteArray × Nat × Option FieldType := (({ cls := "GlyphCompiler$Form", name := "hasNumbers", desc := "()Z" } : Jvm.MethodName), prog_3_method_4_code, 3, (Option.some Jvm.ClassFile.FieldType.boolean))
abbrev Y_RD_keep : MethodName × ByteArray × Nat × Option FieldType := (({ cls := "GlyphCompiler$Reader", name := "keep", desc := "()Z" } : Jvm.MethodName), prog_6_method_7_code, 1, (Option.some Jvm.ClassFile.FieldType.boolean))
abbrev Y_RD_readPath : MethodName × ByteArray × Nat × Option FieldType := (({ cls := "GlyphCompiler$Reader", name := "readPath", desc := "()Z" } : Jvm.MethodName), prog_6_method_4_code, 4, (Option.some Jvm.ClassFile.FieldType.boolean))
abbrev Y_RD_readPair : MethodName × ByteArray × Nat × Option FieldType := (({ cls := "GlyphCompiler$Reader", name := "readPair", desc := "()Z" } : Jvm.MethodName), prog_6_method_6_code, 1, (Option.some Jvm.ClassFile.FieldType.boolean))
abbrev Y_RD_countLeg : MethodName × ByteArray × Nat × Option FieldType := (({ cls := "GlyphCompiler$Reader", name := "countLeg", desc := "(Z)V" } : Jvm.MethodName), prog_6_method_5_code, 2, (Option.none : Option Jvm.ClassFile.FieldType))
abbrev Y_RD_readEquation : MethodName × ByteArray × Nat × Option FieldType := (({ cls := "GlyphCompiler$Reader", name := "readEquation", desc := "()Z" } : Jvm.MethodName), prog_6_method_3_code, 3, (Option.some Jvm.ClassFile.FieldType.boolean))
abbrev Y_GC_carryOut : MethodName × ByteArray × Nat × Option FieldType := (({ cls := "GlyphCompiler", name := "carryOut", desc := "()I" } : Jvm.MethodName), prog_1_method_8_code, 1, (Option.some Jvm.ClassFile.FieldType.int))
abbrev Y_GC_note : MethodName × ByteArray × Nat × Option FieldType := (({ cls := "GlyphCompiler", name := "note", desc := "(LGlyphCompiler$Form;)I" } : Jvm.MethodName), prog_1_method_9_code, 2, (Option.some Jvm.ClassFile.FieldType.int))
abbrev Y_FO_isPlain : MethodName × ByteArray × Nat × Option FieldType := (({ cls := "GlyphCompiler$Form", name := "isPlain", desc := "()Z" } : Jvm.MethodName), prog_3_method_5_code, 3, (Option.some Jvm.ClassFile.FieldType.boolean))
abbrev Y_GC_paint : MethodName × ByteArray × Nat × Option FieldType := (({ cls := "GlyphCompiler", name := "paint", desc := "(Z)I" } : Jvm.MethodName), prog_1_method_11_code, 3, (Option.some Jvm.ClassFile.FieldType.int))
abbrev Y_OU_takeNumbers : MethodName × ByteArray × Nat × Option FieldType := (({ cls := "GlyphCompiler$Outline", name := "takeNumbers", desc := "([LGlyphCompiler$Form;I)I" } : Jvm.MethodName), prog_4_method_2_code, 6, (Option.some Jvm.ClassFile.FieldType.int))
abbrev Y_OU_trace : MethodName × ByteArray × Nat × Option FieldType := (({ cls := "GlyphCompiler$Outline", name := "trace", desc := "([ZI)V" } : Jvm.MethodName), prog_4_method_3_code, 5, (Option.none : Option Jvm.ClassFile.FieldType))
abbrev Y_OU_addPoint : MethodName × ByteArray × Nat × Option FieldType := (({ cls := "GlyphCompiler$Outline", name := "addPoint", desc := "(II)V" } : Jvm.MethodName), prog_4_method_4_code, 3, (Option.none : Option Jvm.ClassFile.FieldType))
abbrev Y_OU_addCurve : MethodName × ByteArray × Nat × Option FieldType := (({ cls := "GlyphCompiler$Outline", name := "addCurve", desc := "(I)V" } : Jvm.MethodName), prog_4_method_5_code, 3, (Option.none : Option Jvm.ClassFile.FieldType))
abbrev Y_OU_onCurve : MethodName × ByteArray × Nat × Option FieldType := (({ cls := "GlyphCompiler$Outline", name := "onCurve", desc := "(II)I" } : Jvm.MethodName), prog_4_method_6_code, 4, (Option.some Jvm.ClassFile.FieldType.int))
abbrev Y_PI_paint : MethodName × ByteArray × Nat × Option FieldType := (({ cls := "GlyphCompiler$Picture", name := "paint", desc := "(LGlyphCompiler$Outline;Z)V" } : Jvm.MethodName), prog_5_method_4_code, 5, (Option.none : Option Jvm.ClassFile.FieldType))
abbrev Y_Ar_fill : MethodName × ByteArray × Nat × Option FieldType := (({ cls := "java/util/Arrays", name := "fill", desc := "([II)V" } : Jvm.MethodName), prog_14_method_103_code, 4, (Option.none : Option Jvm.ClassFile.FieldType))
abbrev Y_PI_middle : MethodName × ByteArray × Nat × Option FieldType := (({ cls := "GlyphCompiler$Picture", name := "middle", desc := "(I)J" } : Jvm.MethodName), prog_5_method_5_code, 1, (Option.some Jvm.ClassFile.FieldType.long))
abbrev Y_PI_wind : MethodName × ByteArray × Nat × Option FieldType := (({ cls := "GlyphCompiler$Picture", name := "wind", desc := "(LGlyphCompiler$Outline;IJ)V" } : Jvm.MethodName), prog_5_method_6_code, 16, (Option.none : Option Jvm.ClassFile.FieldType))
abbrev Y_GC_equateAll : MethodName × ByteArray × Nat × Option FieldType := (({ cls := "GlyphCompiler", name := "equateAll", desc := "()I" } : Jvm.MethodName), prog_1_method_10_code, 3, (Option.some Jvm.ClassFile.FieldType.int))
abbrev Y_VA_copy : MethodName × ByteArray × Nat × Option FieldType := (({ cls := "GlyphCompiler$Variables", name := "copy", desc := "(LGlyphCompiler$Variables;)V" } : Jvm.MethodName), prog_8_method_3_code, 3, (Option.none : Option Jvm.ClassFile.FieldType))
abbrev Y_VA_equate : MethodName × ByteArray × Nat × Option FieldType := (({ cls := "GlyphCompiler$Variables", name := "equate", desc := "(LGlyphCompiler$Form;LGlyphCompiler$Form;)I" } : Jvm.MethodName), prog_8_method_4_code, 4, (Option.some Jvm.ClassFile.FieldType.int))
abbrev Y_FO_setReplaced : MethodName × ByteArray × Nat × Option FieldType := (({ cls := "GlyphCompiler$Form", name := "setReplaced", desc := "(LGlyphCompiler$Form;[LGlyphCompiler$Form;)Z" } : Jvm.MethodName), prog_3_method_12_code, 12, (Option.some Jvm.ClassFile.FieldType.boolean))
abbrev Y_VA_chooseSolved : MethodName × ByteArray × Nat × Option FieldType := (({ cls := "GlyphCompiler$Variables", name := "chooseSolved", desc := "()I" } : Jvm.MethodName), prog_8_method_5_code, 7, (Option.some Jvm.ClassFile.FieldType.int))
abbrev Y_Ma_abs : MethodName × ByteArray × Nat × Option FieldType := (({ cls := "java/lang/Math", name := "abs", desc := "(J)J" } : Jvm.MethodName), prog_12_method_61_code, 2, (Option.some Jvm.ClassFile.FieldType.long))
abbrev Y_Lo_bitCount : MethodName × ByteArray × Nat × Option FieldType := (({ cls := "java/lang/Long", name := "bitCount", desc := "(J)I" } : Jvm.MethodName), prog_11_method_50_code, 2, (Option.some Jvm.ClassFile.FieldType.int))
abbrev Y_FO_setSolved : MethodName × ByteArray × Nat × Option FieldType := (({ cls := "GlyphCompiler$Form", name := "setSolved", desc := "(LGlyphCompiler$Form;I)Z" } : Jvm.MethodName), prog_3_method_13_code, 9, (Option.some Jvm.ClassFile.FieldType.boolean))
abbrev Y_VA_replaceInAll : MethodName × ByteArray × Nat × Option FieldType := (({ cls := "GlyphCompiler$Variables", name := "replaceInAll", desc := "(I)Z" } : Jvm.MethodName), prog_8_method_6_code, 3, (Option.some Jvm.ClassFile.FieldType.boolean))
abbrev Y_VA_settle : MethodName × ByteArray × Nat × Option FieldType := (({ cls := "GlyphCompiler$Variables", name := "settle", desc := "(I)V" } : Jvm.MethodName), prog_8_method_7_code, 2, (Option.none : Option Jvm.ClassFile.FieldType))
abbrev Y_GC_place : MethodName × ByteArray × Nat × Option FieldType := (({ cls := "GlyphCompiler", name := "place", desc := "()I" } : Jvm.MethodName), prog_1_method_12_code, 1, (Option.some Jvm.ClassFile.FieldType.int))
abbrev Y_GC_forget : MethodName × ByteArray × Nat × Option FieldType := (({ cls := "GlyphCompiler", name := "forget", desc := "()I" } : Jvm.MethodName), prog_1_method_13_code, 1, (Option.some Jvm.ClassFile.FieldType.int))
abbrev Y_VA_free : MethodName × ByteArray × Nat × Option FieldType := (({ cls := "GlyphCompiler$Variables", name := "free", desc := "()V" } : Jvm.MethodName), prog_8_method_2_code, 2, (Option.none : Option Jvm.ClassFile.FieldType))
abbrev Y_GC_clean : MethodName × ByteArray × Nat × Option FieldType := (({ cls := "GlyphCompiler", name := "clean", desc := "()I" } : Jvm.MethodName), prog_1_method_14_code, 1, (Option.some Jvm.ClassFile.FieldType.int))
abbrev Y_PI_whiten : MethodName × ByteArray × Nat × Option FieldType := (({ cls := "GlyphCompiler$Picture", name := "whiten", desc := "()V" } : Jvm.MethodName), prog_5_method_3_code, 2, (Option.none : Option Jvm.ClassFile.FieldType))
abbrev Y_GC_state : MethodName × ByteArray × Nat × Option FieldType := (({ cls := "GlyphCompiler", name := "state", desc := "(I)I" } : Jvm.MethodName), prog_1_method_15_code, 2, (Option.some Jvm.ClassFile.FieldType.int))
abbrev Y_GC_number : MethodName × ByteArray × Nat × Option FieldType := (({ cls := "GlyphCompiler", name := "number", desc := "(I)J" } : Jvm.MethodName), prog_1_method_16_code, 2, (Option.some Jvm.ClassFile.FieldType.long))
abbrev Y_GC_factor : MethodName × ByteArray × Nat × Option FieldType := (({ cls := "GlyphCompiler", name := "factor", desc := "(II)J" } : Jvm.MethodName), prog_1_method_17_code, 3, (Option.some Jvm.ClassFile.FieldType.long))
abbrev Y_GC_black : MethodName × ByteArray × Nat × Option FieldType := (({ cls := "GlyphCompiler", name := "black", desc := "(II)Z" } : Jvm.MethodName), prog_1_method_18_code, 3, (Option.some Jvm.ClassFile.FieldType.boolean))
abbrev Y_PI_isBlack : MethodName × ByteArray × Nat × Option FieldType := (({ cls := "GlyphCompiler$Picture", name := "isBlack", desc := "(II)Z" } : Jvm.MethodName), prog_5_method_2_code, 3, (Option.some Jvm.ClassFile.FieldType.boolean))
abbrev Y_GC_stretch : MethodName × ByteArray × Nat × Option FieldType := (({ cls := "GlyphCompiler", name := "stretch", desc := "(II)I" } : Jvm.MethodName), prog_1_method_19_code, 3, (Option.some Jvm.ClassFile.FieldType.int))
abbrev Y_PI_lengthOfRun : MethodName × ByteArray × Nat × Option FieldType := (({ cls := "GlyphCompiler$Picture", name := "lengthOfRun", desc := "(II)I" } : Jvm.MethodName), prog_5_method_9_code, 7, (Option.some Jvm.ClassFile.FieldType.int))
abbrev Y_GC_shown : MethodName × ByteArray × Nat × Option FieldType := (({ cls := "GlyphCompiler", name := "shown", desc := "(I)J" } : Jvm.MethodName), prog_1_method_20_code, 2, (Option.some Jvm.ClassFile.FieldType.long))
abbrev Y_GC_count : MethodName × ByteArray × Nat × Option FieldType := (({ cls := "GlyphCompiler", name := "count", desc := "(I)I" } : Jvm.MethodName), prog_1_method_21_code, 2, (Option.some Jvm.ClassFile.FieldType.int))
abbrev Y_PI_blackPoints : MethodName × ByteArray × Nat × Option FieldType := (({ cls := "GlyphCompiler$Picture", name := "blackPoints", desc := "()I" } : Jvm.MethodName), prog_5_method_7_code, 3, (Option.some Jvm.ClassFile.FieldType.int))
abbrev Y_PI_edge : MethodName × ByteArray × Nat × Option FieldType := (({ cls := "GlyphCompiler$Picture", name := "edge", desc := "(ZZ)I" } : Jvm.MethodName), prog_5_method_8_code, 6, (Option.some Jvm.ClassFile.FieldType.int))
abbrev Y_EX_bodyLength : MethodName × ByteArray × Nat × Option FieldType := (({ cls := "GlyphCompiler$Expander", name := "bodyLength", desc := "(I)I" } : Jvm.MethodName), prog_2_method_3_code, 2, (Option.some Jvm.ClassFile.FieldType.int))
abbrev Y_GM_init : MethodName × ByteArray × Nat × Option FieldType := (({ cls := "GlyphCompilerModel", name := "<init>", desc := "()V" } : Jvm.MethodName), prog_10_method_1_code, 2, (Option.none : Option Jvm.ClassFile.FieldType))
abbrev Y_GM_feed : MethodName × ByteArray × Nat × Option FieldType := (({ cls := "GlyphCompilerModel", name := "feed", desc := "(II)I" } : Jvm.MethodName), prog_10_method_3_code, 3, (Option.some Jvm.ClassFile.FieldType.int))
abbrev Y_GM_out : MethodName × ByteArray × Nat × Option FieldType := (({ cls := "GlyphCompilerModel", name := "out", desc := "(III)Z" } : Jvm.MethodName), prog_10_method_2_code, 4, (Option.some Jvm.ClassFile.FieldType.boolean))
abbrev Y_GM_wipe : MethodName × ByteArray × Nat × Option FieldType := (({ cls := "GlyphCompilerModel", name := "wipe", desc := "()I" } : Jvm.MethodName), prog_10_method_4_code, 2, (Option.some Jvm.ClassFile.FieldType.int))
abbrev Y_GM_macro : MethodName × ByteArray × Nat × Option FieldType := (({ cls := "GlyphCompilerModel", name := "macro", desc := "(II)I" } : Jvm.MethodName), prog_10_method_5_code, 4, (Option.some Jvm.ClassFile.FieldType.int))
abbrev Y_GM_run : MethodName × ByteArray × Nat × Option FieldType := (({ cls := "GlyphCompilerModel", name := "run", desc := "()I" } : Jvm.MethodName), prog_10_method_51_code, 1, (Option.some Jvm.ClassFile.FieldType.int))
abbrev Y_GM_expand : MethodName × ByteArray × Nat × Option FieldType := (({ cls := "GlyphCompilerModel", name := "expand", desc := "()V" } : Jvm.MethodName), prog_10_method_11_code, 2, (Option.none : Option Jvm.ClassFile.FieldType))
abbrev Y_GM_stop : MethodName × ByteArray × Nat × Option FieldType := (({ cls := "GlyphCompilerModel", name := "stop", desc := "(II)V" } : Jvm.MethodName), prog_10_method_10_code, 3, (Option.none : Option Jvm.ClassFile.FieldType))
abbrev Y_GM_call : MethodName × ByteArray × Nat × Option FieldType := (({ cls := "GlyphCompilerModel", name := "call", desc := "(II)V" } : Jvm.MethodName), prog_10_method_12_code, 6, (Option.none : Option Jvm.ClassFile.FieldType))
abbrev Y_GM_arguments : MethodName × ByteArray × Nat × Option FieldType := (({ cls := "GlyphCompilerModel", name := "arguments", desc := "(II)I" } : Jvm.MethodName), prog_10_method_7_code, 6, (Option.some Jvm.ClassFile.FieldType.int))
abbrev Y_GM_isWord : MethodName × ByteArray × Nat × Option FieldType := (({ cls := "GlyphCompilerModel", name := "isWord", desc := "(II)Z" } : Jvm.MethodName), prog_10_method_6_code, 3, (Option.some Jvm.ClassFile.FieldType.boolean))
abbrev Y_GM_replace : MethodName × ByteArray × Nat × Option FieldType := (({ cls := "GlyphCompilerModel", name := "replace", desc := "(III)I" } : Jvm.MethodName), prog_10_method_9_code, 8, (Option.some Jvm.ClassFile.FieldType.int))
abbrev Y_GM_putToken : MethodName × ByteArray × Nat × Option FieldType := (({ cls := "GlyphCompilerModel", name := "putToken", desc := "(IIII)I" } : Jvm.MethodName), prog_10_method_8_code, 5, (Option.some Jvm.ClassFile.FieldType.int))
abbrev Y_GM_statement : MethodName × ByteArray × Nat × Option FieldType := (({ cls := "GlyphCompilerModel", name := "statement", desc := "()V" } : Jvm.MethodName), prog_10_method_50_code, 1, (Option.none : Option Jvm.ClassFile.FieldType))
abbrev Y_GM_word : MethodName × ByteArray × Nat × Option FieldType := (({ cls := "GlyphCompilerModel", name := "word", desc := "(I)Z" } : Jvm.MethodName), prog_10_method_25_code, 2, (Option.some Jvm.ClassFile.FieldType.boolean))
abbrev Y_GM_showIt : MethodName × ByteArray × Nat × Option FieldType := (({ cls := "GlyphCompilerModel", name := "showIt", desc := "()V" } : Jvm.MethodName), prog_10_method_49_code, 2, (Option.none : Option Jvm.ClassFile.FieldType))
abbrev Y_GM_expr : MethodName × ByteArray × Nat × Option FieldType := (({ cls := "GlyphCompilerModel", name := "expr", desc := "(I)V" } : Jvm.MethodName), prog_10_method_33_code, 5, (Option.none : Option Jvm.ClassFile.FieldType))
abbrev Y_GM_begin : MethodName × ByteArray × Nat × Option FieldType := (({ cls := "GlyphCompilerModel", name := "begin", desc := "()Z" } : Jvm.MethodName), prog_10_method_30_code, 3, (Option.some Jvm.ClassFile.FieldType.boolean))
abbrev Y_GM_push : MethodName × ByteArray × Nat × Option FieldType := (({ cls := "GlyphCompilerModel", name := "push", desc := "(I)V" } : Jvm.MethodName), prog_10_method_28_code, 2, (Option.none : Option Jvm.ClassFile.FieldType))
abbrev Y_GM_openBracket : MethodName × ByteArray × Nat × Option FieldType := (({ cls := "GlyphCompilerModel", name := "openBracket", desc := "()V" } : Jvm.MethodName), prog_10_method_29_code, 1, (Option.none : Option Jvm.ClassFile.FieldType))
abbrev Y_GM_syntax : MethodName × ByteArray × Nat × Option FieldType := (({ cls := "GlyphCompilerModel", name := "syntax", desc := "()V" } : Jvm.MethodName), prog_10_method_26_code, 1, (Option.none : Option Jvm.ClassFile.FieldType))
abbrev Y_GM_clear : MethodName × ByteArray × Nat × Option FieldType := (({ cls := "GlyphCompilerModel", name := "clear", desc := "(I)V" } : Jvm.MethodName), prog_10_method_15_code, 3, (Option.none : Option Jvm.ClassFile.FieldType))
abbrev Y_GM_loadVariable : MethodName × ByteArray × Nat × Option FieldType := (({ cls := "GlyphCompilerModel", name := "loadVariable", desc := "(II)V" } : Jvm.MethodName), prog_10_method_20_code, 4, (Option.none : Option Jvm.ClassFile.FieldType))
abbrev Y_GM_finishTerm : MethodName × ByteArray × Nat × Option FieldType := (({ cls := "GlyphCompilerModel", name := "finishTerm", desc := "(I)V" } : Jvm.MethodName), prog_10_method_31_code, 2, (Option.none : Option Jvm.ClassFile.FieldType))
abbrev Y_GM_scale : MethodName × ByteArray × Nat × Option FieldType := (({ cls := "GlyphCompilerModel", name := "scale", desc := "(IJ)V" } : Jvm.MethodName), prog_10_method_19_code, 5, (Option.none : Option Jvm.ClassFile.FieldType))
abbrev Y_GM_times : MethodName × ByteArray × Nat × Option FieldType := (({ cls := "GlyphCompilerModel", name := "times", desc := "(JJ)J" } : Jvm.MethodName), prog_10_method_14_code, 14, (Option.some Jvm.ClassFile.FieldType.long))
abbrev Y_GM_kept : MethodName × ByteArray × Nat × Option FieldType := (({ cls := "GlyphCompilerModel", name := "kept", desc := "(J)J" } : Jvm.MethodName), prog_10_method_13_code, 3, (Option.some Jvm.ClassFile.FieldType.long))
abbrev Y_GM_addForm : MethodName × ByteArray × Nat × Option FieldType := (({ cls := "GlyphCompilerModel", name := "addForm", desc := "(III)V" } : Jvm.MethodName), prog_10_method_17_code, 5, (Option.none : Option Jvm.ClassFile.FieldType))
abbrev Y_GM_check : MethodName × ByteArray × Nat × Option FieldType := (({ cls := "GlyphCompilerModel", name := "check", desc := "(I)V" } : Jvm.MethodName), prog_10_method_18_code, 3, (Option.none : Option Jvm.ClassFile.FieldType))
abbrev Y_GM_need : MethodName × ByteArray × Nat × Option FieldType := (({ cls := "GlyphCompilerModel", name := "need", desc := "(I)V" } : Jvm.MethodName), prog_10_method_27_code, 2, (Option.none : Option Jvm.ClassFile.FieldType))
abbrev Y_GM_finishBetween : MethodName × ByteArray × Nat × Option FieldType := (({ cls := "GlyphCompilerModel", name := "finishBetween", desc := "()V" } : Jvm.MethodName), prog_10_method_32_code, 8, (Option.none : Option Jvm.ClassFile.FieldType))
abbrev Y_GM_copyForm : MethodName × ByteArray × Nat × Option FieldType := (({ cls := "GlyphCompilerModel", name := "copyForm", desc := "(II)V" } : Jvm.MethodName), prog_10_method_16_code, 4, (Option.none : Option Jvm.ClassFile.FieldType))
abbrev Y_GM_isNumber : MethodName × ByteArray × Nat × Option FieldType := (({ cls := "GlyphCompilerModel", name := "isNumber", desc := "(I)Z" } : Jvm.MethodName), prog_10_method_21_code, 3, (Option.some Jvm.ClassFile.FieldType.boolean))
abbrev Y_GM_path : MethodName × ByteArray × Nat × Option FieldType := (({ cls := "GlyphCompilerModel", name := "path", desc := "(Z)V" } : Jvm.MethodName), prog_10_method_35_code, 4, (Option.none : Option Jvm.ClassFile.FieldType))
abbrev Y_GM_pair : MethodName × ByteArray × Nat × Option FieldType := (({ cls := "GlyphCompilerModel", name := "pair", desc := "()V" } : Jvm.MethodName), prog_10_method_34_code, 1, (Option.none : Option Jvm.ClassFile.FieldType))
abbrev Y_GM_area : MethodName × ByteArray × Nat × Option FieldType := (({ cls := "GlyphCompilerModel", name := "area", desc := "(Z)V" } : Jvm.MethodName), prog_10_method_36_code, 6, (Option.none : Option Jvm.ClassFile.FieldType))
abbrev Y_GM_paint : MethodName × ByteArray × Nat × Option FieldType := (({ cls := "GlyphCompilerModel", name := "paint", desc := "(Z)V" } : Jvm.MethodName), prog_10_method_42_code, 4, (Option.none : Option Jvm.ClassFile.FieldType))
abbrev Y_GM_makePieces : MethodName × ByteArray × Nat × Option FieldType := (({ cls := "GlyphCompilerModel", name := "makePieces", desc := "()V" } : Jvm.MethodName), prog_10_method_40_code, 4, (Option.none : Option Jvm.ClassFile.FieldType))
abbrev Y_GM_coordinate : MethodName × ByteArray × Nat × Option FieldType := (({ cls := "GlyphCompilerModel", name := "coordinate", desc := "(II)J" } : Jvm.MethodName), prog_10_method_38_code, 3, (Option.some Jvm.ClassFile.FieldType.long))
abbrev Y_GM_piece : MethodName × ByteArray × Nat × Option FieldType := (({ cls := "GlyphCompilerModel", name := "piece", desc := "(JJJJ)V" } : Jvm.MethodName), prog_10_method_37_code, 9, (Option.none : Option Jvm.ClassFile.FieldType))
abbrev Y_GM_bend : MethodName × ByteArray × Nat × Option FieldType := (({ cls := "GlyphCompilerModel", name := "bend", desc := "(III)J" } : Jvm.MethodName), prog_10_method_39_code, 14, (Option.some Jvm.ClassFile.FieldType.long))
abbrev Y_GM_winding : MethodName × ByteArray × Nat × Option FieldType := (({ cls := "GlyphCompilerModel", name := "winding", desc := "(JJ)I" } : Jvm.MethodName), prog_10_method_41_code, 9, (Option.some Jvm.ClassFile.FieldType.int))
abbrev Y_GM_equations : MethodName × ByteArray × Nat × Option FieldType := (({ cls := "GlyphCompilerModel", name := "equations", desc := "()V" } : Jvm.MethodName), prog_10_method_48_code, 5, (Option.none : Option Jvm.ClassFile.FieldType))
abbrev Y_GM_equate : MethodName × ByteArray × Nat × Option FieldType := (({ cls := "GlyphCompilerModel", name := "equate", desc := "(III)V" } : Jvm.MethodName), prog_10_method_47_code, 5, (Option.none : Option Jvm.ClassFile.FieldType))
abbrev Y_GM_refresh : MethodName × ByteArray × Nat × Option FieldType := (({ cls := "GlyphCompilerModel", name := "refresh", desc := "(I)V" } : Jvm.MethodName), prog_10_method_44_code, 4, (Option.none : Option Jvm.ClassFile.FieldType))
abbrev Y_GM_beginSums : MethodName × ByteArray × Nat × Option FieldType := (({ cls := "GlyphCompilerModel", name := "beginSums", desc := "()V" } : Jvm.MethodName), prog_10_method_23_code, 2, (Option.none : Option Jvm.ClassFile.FieldType))
abbrev Y_GM_replaceIn : MethodName × ByteArray × Nat × Option FieldType := (({ cls := "GlyphCompilerModel", name := "replaceIn", desc := "(III)V" } : Jvm.MethodName), prog_10_method_22_code, 11, (Option.none : Option Jvm.ClassFile.FieldType))
abbrev Y_GM_addSums : MethodName × ByteArray × Nat × Option FieldType := (({ cls := "GlyphCompilerModel", name := "addSums", desc := "(I)V" } : Jvm.MethodName), prog_10_method_24_code, 3, (Option.none : Option Jvm.ClassFile.FieldType))
abbrev Y_GM_pivot : MethodName × ByteArray × Nat × Option FieldType := (({ cls := "GlyphCompilerModel", name := "pivot", desc := "(I)I" } : Jvm.MethodName), prog_10_method_43_code, 10, (Option.some Jvm.ClassFile.FieldType.int))
abbrev Y_GM_solve : MethodName × ByteArray × Nat × Option FieldType := (({ cls := "GlyphCompilerModel", name := "solve", desc := "(I)V" } : Jvm.MethodName), prog_10_method_46_code, 6, (Option.none : Option Jvm.ClassFile.FieldType))
abbrev Y_GM_over : MethodName × ByteArray × Nat × Option FieldType := (({ cls := "GlyphCompilerModel", name := "over", desc := "(JJ)J" } : Jvm.MethodName), prog_10_method_45_code, 11, (Option.some Jvm.ClassFile.FieldType.long))
abbrev Y_GM_place : MethodName × ByteArray × Nat × Option FieldType := (({ cls := "GlyphCompilerModel", name := "place", desc := "()I" } : Jvm.MethodName), prog_10_method_52_code, 1, (Option.some Jvm.ClassFile.FieldType.int))
abbrev Y_GM_forget : MethodName × ByteArray × Nat × Option FieldType := (({ cls := "GlyphCompilerModel", name := "forget", desc := "()I" } : Jvm.MethodName), prog_10_method_53_code, 2, (Option.some Jvm.ClassFile.FieldType.int))
abbrev Y_GM_clean : MethodName × ByteArray × Nat × Option FieldType := (({ cls := "GlyphCompilerModel", name := "clean", desc := "()I" } : Jvm.MethodName), prog_10_method_54_code, 2, (Option.some Jvm.ClassFile.FieldType.int))
abbrev Y_GM_state : MethodName × ByteArray × Nat × Option FieldType := (({ cls := "GlyphCompilerModel", name := "state", desc := "(I)I" } : Jvm.MethodName), prog_10_method_55_code, 2, (Option.some Jvm.ClassFile.FieldType.int))
abbrev Y_GM_number : MethodName × ByteArray × Nat × Option FieldType := (({ cls := "GlyphCompilerModel", name := "number", desc := "(I)J" } : Jvm.MethodName), prog_10_method_56_code, 2, (Option.some Jvm.ClassFile.FieldType.long))
abbrev Y_GM_factor : MethodName × ByteArray × Nat × Option FieldType := (({ cls := "GlyphCompilerModel", name := "factor", desc := "(II)J" } : Jvm.MethodName), prog_10_method_57_code, 3, (Option.some Jvm.ClassFile.FieldType.long))
abbrev Y_GM_black : MethodName × ByteArray × Nat × Option FieldType := (({ cls := "GlyphCompilerModel", name := "black", desc := "(II)Z" } : Jvm.MethodName), prog_10_method_58_code, 3, (Option.some Jvm.ClassFile.FieldType.boolean))
abbrev Y_GM_stretch : MethodName × ByteArray × Nat × Option FieldType := (({ cls := "GlyphCompilerModel", name := "stretch", desc := "(II)I" } : Jvm.MethodName), prog_10_method_59_code, 8, (Option.some Jvm.ClassFile.FieldType.int))
abbrev Y_GM_shown : MethodName × ByteArray × Nat × Option FieldType := (({ cls := "GlyphCompilerModel", name := "shown", desc := "(I)J" } : Jvm.MethodName), prog_10_method_60_code, 2, (Option.some Jvm.ClassFile.FieldType.long))
abbrev Y_GM_count : MethodName × ByteArray × Nat × Option FieldType := (({ cls := "GlyphCompilerModel", name := "count", desc := "(I)I" } : Jvm.MethodName), prog_10_method_61_code, 8, (Option.some Jvm.ClassFile.FieldType.int))
