abbrev R_Law : String := "MarkRecoveryLaw"
abbrev R_MR : String := "MarkRecovery"
def T_MR : u_T := fun k => match k with
  | 0 => ("MarkRecovery", "kind", "I", true)
  | 1 => ("MarkRecovery", "steps", "I", true)
  | 2 => ("MarkRecovery", "bytes", "[I", true)
  | 3 => ("MarkRecovery", "parts", "[[I", true)
  | 4 => ("MarkRecovery", "decoder", "LMarkRecovery$Decoder;", true)
  | 5 => ("MarkRecovery", "map", "LMarkRecovery$SampleMap;", true)
  | 6 => ("MarkRecovery", "byteCount", "I", false)
  | 7 => ("MarkRecovery", "partCount", "I", false)
  | 8 => ("MarkRecovery", "stepsTaken", "I", false)
  | 9 => ("MarkRecovery", "hasRun", "Z", false)
  | 10 => ("MarkRecovery", "lackedSteps", "Z", false)
  | 11 => ("MarkRecovery", "decodings", "I", false)
  | _ => ("MarkRecovery", "thrownDecodings", "I", false)
def ty_MR : Nat → FieldType := fun k => match k with
  | 0 => .int
  | 1 => .int
  | 2 => .array .int
  | 3 => .array (.array .int)
  | 4 => .object "MarkRecovery$Decoder"
  | 5 => .object "MarkRecovery$SampleMap"
  | 6 => .int
  | 7 => .int
  | 8 => .int
  | 9 => .boolean
  | 10 => .boolean
  | 11 => .int
  | _ => .int
theorem nd_MR : ∀ a, a < 13 → ∀ b, b < 13 → a ≠ b → (T_MR a).2.1 ≠ (T_MR b).2.1 := by decide +kernel
theorem tyok_MR : ∀ k, k < 13 → parseFieldDescriptor (T_MR k).2.2.1 = some (ty_MR k) := by decide +kernel
abbrev R_Dec : String := "MarkRecovery$Decoder"
def T_Dec : u_T := fun k => match k with
  | 0 => ("MarkRecovery$Decoder", "data", "[I", true)
  | 1 => ("MarkRecovery$Decoder", "made", "[I", true)
  | 2 => ("MarkRecovery$Decoder", "boxes", "LMarkRecovery$Boxes;", true)
  | 3 => ("MarkRecovery$Decoder", "size", "I", false)
  | _ => ("MarkRecovery$Decoder", "count", "I", false)
def ty_Dec : Nat → FieldType := fun k => match k with
  | 0 => .array .int
  | 1 => .array .int
  | 2 => .object "MarkRecovery$Boxes"
  | 3 => .int
  | _ => .int
theorem nd_Dec : ∀ a, a < 5 → ∀ b, b < 5 → a ≠ b → (T_Dec a).2.1 ≠ (T_Dec b).2.1 := by decide +kernel
theorem tyok_Dec : ∀ k, k < 5 → parseFieldDescriptor (T_Dec k).2.2.1 = some (ty_Dec k) := by decide +kernel
abbrev R_Boxes : String := "MarkRecovery$Boxes"
def T_Boxes : u_T := fun k => match k with
  | 0 => ("MarkRecovery$Boxes", "holds", "[I", true)
  | 1 => ("MarkRecovery$Boxes", "numbers", "[I", true)
  | 2 => ("MarkRecovery$Boxes", "lengths", "[I", true)
  | _ => ("MarkRecovery$Boxes", "rows", "[[I", true)
def ty_Boxes : Nat → FieldType := fun k => match k with
  | 0 => .array .int
  | 1 => .array .int
  | 2 => .array .int
  | _ => .array (.array .int)
theorem nd_Boxes : ∀ a, a < 4 → ∀ b, b < 4 → a ≠ b → (T_Boxes a).2.1 ≠ (T_Boxes b).2.1 := by decide +kernel
theorem tyok_Boxes : ∀ k, k < 4 → parseFieldDescriptor (T_Boxes k).2.2.1 = some (ty_Boxes k) := by decide +kernel
abbrev R_Map : String := "MarkRecovery$SampleMap"
def T_Map : u_T := fun k => match k with
  | 0 => ("MarkRecovery$SampleMap", "values", "[I", true)
  | _ => ("MarkRecovery$SampleMap", "states", "[I", true)
def ty_Map : Nat → FieldType := fun k => match k with
  | 0 => .array .int
  | _ => .array .int
theorem nd_Map : ∀ a, a < 2 → ∀ b, b < 2 → a ≠ b → (T_Map a).2.1 ≠ (T_Map b).2.1 := by decide +kernel
theorem tyok_Map : ∀ k, k < 2 → parseFieldDescriptor (T_Map k).2.2.1 = some (ty_Map k) := by decide +kernel
abbrev R_Mod : String := "MarkRecoveryModel"
def T_Mod : u_T := fun k => match k with
  | 0 => ("MarkRecoveryModel", "thrown", "I", false)
  | 1 => ("MarkRecoveryModel", "kind", "I", true)
  | 2 => ("MarkRecoveryModel", "steps", "I", true)
  | 3 => ("MarkRecoveryModel", "bytes", "[I", true)
  | 4 => ("MarkRecoveryModel", "size", "I", false)
  | 5 => ("MarkRecoveryModel", "ran", "Z", false)
  | 6 => ("MarkRecoveryModel", "parts", "I", false)
  | 7 => ("MarkRecoveryModel", "heads", "[I", true)
  | 8 => ("MarkRecoveryModel", "numbers", "[I", true)
  | 9 => ("MarkRecoveryModel", "codes", "[I", true)
  | 10 => ("MarkRecoveryModel", "sizes", "[I", true)
  | 11 => ("MarkRecoveryModel", "guessed", "[Z", true)
  | 12 => ("MarkRecoveryModel", "results", "[I", true)
  | 13 => ("MarkRecoveryModel", "taken", "I", false)
  | 14 => ("MarkRecoveryModel", "lacked", "Z", false)
  | 15 => ("MarkRecoveryModel", "decodings", "I", false)
  | 16 => ("MarkRecoveryModel", "failures", "I", false)
  | 17 => ("MarkRecoveryModel", "values", "[I", true)
  | 18 => ("MarkRecoveryModel", "states", "[I", true)
  | 19 => ("MarkRecoveryModel", "at", "I", false)
  | 20 => ("MarkRecoveryModel", "end", "I", false)
  | 21 => ("MarkRecoveryModel", "many", "I", false)
  | 22 => ("MarkRecoveryModel", "came", "[I", true)
  | 23 => ("MarkRecoveryModel", "wrong", "I", false)
  | 24 => ("MarkRecoveryModel", "boxes", "[I", true)
  | 25 => ("MarkRecoveryModel", "single", "[I", true)
  | _ => ("MarkRecoveryModel", "rows", "[I", true)
def ty_Mod : Nat → FieldType := fun k => match k with
  | 0 => .int
  | 1 => .int
  | 2 => .int
  | 3 => .array .int
  | 4 => .int
  | 5 => .boolean
  | 6 => .int
  | 7 => .array .int
  | 8 => .array .int
  | 9 => .array .int
  | 10 => .array .int
  | 11 => .array .boolean
  | 12 => .array .int
  | 13 => .int
  | 14 => .boolean
  | 15 => .int
  | 16 => .int
  | 17 => .array .int
  | 18 => .array .int
  | 19 => .int
  | 20 => .int
  | 21 => .int
  | 22 => .array .int
  | 23 => .int
  | 24 => .array .int
  | 25 => .array .int
  | _ => .array .int
theorem nd_Mod : ∀ a, a < 27 → ∀ b, b < 27 → a ≠ b → (T_Mod a).2.1 ≠ (T_Mod b).2.1 := by decide +kernel
theorem tyok_Mod : ∀ k, k < 27 → parseFieldDescriptor (T_Mod k).2.2.1 = some (ty_Mod k) := by decide +kernel
abbrev vwCl : List vw_C := [(R_MR, T_MR, 13), (R_Dec, T_Dec, 5), (R_Boxes, T_Boxes, 4), (R_Map, T_Map, 2), (R_Mod, T_Mod, 27)]
def BIG : List Cond := lw_tbl.filter goodWord
theorem big_of {w : Cond} {i : Nat} (h : tables_1[i]? = some w) (hg : goodWord w = true) : w ∈ BIG := List.mem_filter.mpr ⟨List.mem_append_right _ (List.mem_of_getElem? h), hg⟩
theorem big_sel {w : Cond} {i : Nat} (h : (k2_sels lw_privs)[i]? = some w) (hg : goodWord w = true) : w ∈ BIG := List.mem_filter.mpr ⟨List.mem_append_left _ (List.mem_of_getElem? h), hg⟩
theorem big_good {w : Cond} (h : w ∈ BIG) : (w.onTables && w.keeps) = true ∨ ∃ ty, w = .arrayClass ty := good_of_word (List.mem_filter.mp h).2
theorem gW {c : Cond} (h : c ∈ BIG) : GoodIn BIG (c :: BIG) := fun w hw => (List.mem_cons.mp hw).elim (fun e => by subst e; exact ⟨h, big_good h⟩) (fun h9 => ⟨h9, big_good h9⟩)
theorem gV {own : String} {idx : Nat} {C : String} {y : MethodName} {c : Cond} (h1 : Cond.methodLink own idx y ∈ BIG) (h2 : Cond.instanceMethod y ∈ BIG) (h3 : Cond.selects C y y ∈ BIG) (h4 : Cond.initialized C ∈ BIG) (h5 : c ∈ BIG) : GoodIn BIG (wsV own idx C y (c :: BIG)) := by
  intro w hw
  have hm : w ∈ BIG := by
    rcases List.mem_append.mp hw with h | h
    · simp only [List.mem_cons, List.not_mem_nil, or_false] at h
      rcases h with rfl | rfl | rfl | rfl
      · exact h1
      · exact h2
      · exact h3
      · exact h4
    · exact (gW h5 w h).1
  exact ⟨hm, big_good hm⟩
theorem gS {own : String} {idx : Nat} {y : MethodName} {c : Cond} (h1 : Cond.methodLink own idx y ∈ BIG) (h2 : Cond.static y ∈ BIG) (h4 : Cond.initialized y.cls ∈ BIG) (h5 : c ∈ BIG) : GoodIn BIG (va_wsS own idx y (c :: BIG)) := by
  intro w hw
  have hm : w ∈ BIG := by
    rcases List.mem_append.mp hw with h | h
    · simp only [List.mem_cons, List.not_mem_nil, or_false] at h
      rcases h with rfl | rfl | rfl
      · exact h1
      · exact h2
      · exact h4
    · exact (gW h5 w h).1
  exact ⟨hm, big_good hm⟩
theorem inl_MR : ∀ w ∈ u_ws R_MR T_MR 13, w ∈ lw_tbl ∧ goodWord w = true := by decide +kernel
theorem in_MR : ∀ w ∈ u_ws R_MR T_MR 13, w ∈ BIG := fun w h => List.mem_filter.mpr (inl_MR w h)
theorem inl_Dec : ∀ w ∈ u_ws R_Dec T_Dec 5, w ∈ lw_tbl ∧ goodWord w = true := by decide +kernel
theorem in_Dec : ∀ w ∈ u_ws R_Dec T_Dec 5, w ∈ BIG := fun w h => List.mem_filter.mpr (inl_Dec w h)
theorem inl_Boxes : ∀ w ∈ u_ws R_Boxes T_Boxes 4, w ∈ lw_tbl ∧ goodWord w = true := by decide +kernel
theorem in_Boxes : ∀ w ∈ u_ws R_Boxes T_Boxes 4, w ∈ BIG := fun w h => List.mem_filter.mpr (inl_Boxes w h)
theorem inl_Map : ∀ w ∈ u_ws R_Map T_Map 2, w ∈ lw_tbl ∧ goodWord w = true := by decide +kernel
theorem in_Map : ∀ w ∈ u_ws R_Map T_Map 2, w ∈ BIG := fun w h => List.mem_filter.mpr (inl_Map w h)
theorem inl_Mod : ∀ w ∈ u_ws R_Mod T_Mod 27, w ∈ lw_tbl ∧ goodWord w = true := by decide +kernel
theorem in_Mod : ∀ w ∈ u_ws R_Mod T_Mod 27, w ∈ BIG := fun w h => List.mem_filter.mpr (inl_Mod w h)
def NW : List Cond := [Cond.methodLinkNest "MarkRecovery" 20 ⟨"MarkRecovery$Decoder", "<init>", "()V"⟩ "MarkRecovery", Cond.methodLinkNest "MarkRecovery$Decoder" 22 ⟨"MarkRecovery$Boxes", "<init>", "()V"⟩ "MarkRecovery", Cond.fieldLinkNest "MarkRecovery$Decoder" 105 "MarkRecovery$Boxes" "holds" "[I" "MarkRecovery", Cond.fieldLinkNest "MarkRecovery$Decoder" 95 "MarkRecovery$Boxes" "numbers" "[I" "MarkRecovery", Cond.fieldLinkNest "MarkRecovery$Decoder" 98 "MarkRecovery$Boxes" "lengths" "[I" "MarkRecovery", Cond.fieldLinkNest "MarkRecovery$Decoder" 101 "MarkRecovery$Boxes" "rows" "[[I" "MarkRecovery", Cond.fieldLinkNest "MarkRecovery" 171 "MarkRecovery$Decoder" "made" "[I" "MarkRecovery", Cond.methodLinkNest "MarkRecovery" 27 ⟨"MarkRecovery$SampleMap", "<init>", "()V"⟩ "MarkRecovery", Cond.fieldLinkNest "MarkRecovery" 108 "MarkRecovery$SampleMap" "values" "[I" "MarkRecovery", Cond.fieldLinkNest "MarkRecovery" 111 "MarkRecovery$SampleMap" "states" "[I" "MarkRecovery", Cond.methodLinkNest "MarkRecovery" 74 ⟨"MarkRecovery$SampleMap", "forgetAll", "()V"⟩ "MarkRecovery", Cond.methodLinkNest "MarkRecovery" 125 ⟨"MarkRecovery$SampleMap", "countSure", "()I"⟩ "MarkRecovery", Cond.castable "java/lang/IllegalArgumentException" "java/lang/IllegalArgumentException", Cond.declares ⟨"java/lang/RuntimeException", "<init>", "()V"⟩, Cond.declares ⟨"java/lang/RuntimeException", "<init>", "(Ljava/lang/String;)V"⟩, Cond.declares ⟨"java/lang/Exception", "<init>", "()V"⟩, Cond.declares ⟨"java/lang/Exception", "<init>", "(Ljava/lang/String;)V"⟩, Cond.declares ⟨"java/lang/Throwable", "<init>", "()V"⟩, Cond.declares ⟨"java/lang/Throwable", "<init>", "(Ljava/lang/String;)V"⟩, Cond.castable "java/lang/UnsupportedOperationException" "java/lang/UnsupportedOperationException", Cond.castable "java/lang/IndexOutOfBoundsException" "java/lang/IndexOutOfBoundsException", Cond.castable "java/lang/IllegalStateException" "java/lang/IllegalStateException", Cond.methodLinkNest "MarkRecovery" 164 ⟨"MarkRecovery$Decoder", "load", "([III)V"⟩ "MarkRecovery", Cond.methodLinkNest "MarkRecovery" 168 ⟨"MarkRecovery$Decoder", "makeSamples", "(I)I"⟩ "MarkRecovery", Cond.methodLinkNest "MarkRecovery$Decoder" 74 ⟨"MarkRecovery$Boxes", "emptyAll", "()V"⟩ "MarkRecovery", Cond.methodLinkNest "MarkRecovery$Decoder" 77 ⟨"MarkRecovery$Boxes", "thrownBy", "(III)I"⟩ "MarkRecovery", Cond.methodLinkNest "MarkRecovery$Decoder" 85 ⟨"MarkRecovery$Boxes", "putNumber", "(II)V"⟩ "MarkRecovery", Cond.methodLinkNest "MarkRecovery$Decoder" 89 ⟨"MarkRecovery$Boxes", "rowLength", "(I)I"⟩ "MarkRecovery", Cond.methodLinkNest "MarkRecovery$Decoder" 92 ⟨"MarkRecovery$Boxes", "putRow", "(II)V"⟩ "MarkRecovery", Cond.methodLinkNest "MarkRecovery" 174 ⟨"MarkRecovery$SampleMap", "tellRow", "(I[IZ)V"⟩ "MarkRecovery", Cond.methodLinkNest "MarkRecovery" 116 ⟨"MarkRecovery$SampleMap", "fillUntold", "(I)I"⟩ "MarkRecovery"]
theorem nw_at {w : Cond} {i : Nat} (h : NW[i]? = some w) : w ∈ NW := List.mem_of_getElem? h
abbrev k_MR_init : ByteArray := prog_1_method_1_code
abbrev y_MR_init : MethodName := ⟨"MarkRecovery", "<init>", "(II)V"⟩
abbrev w_MR_init : List Cond := Cond.code ⟨"MarkRecovery", "<init>", "(II)V"⟩ prog_1_method_1_code 3 (Option.none : Option FieldType) :: BIG
abbrev k_MR_feed : ByteArray := prog_1_method_2_code
abbrev y_MR_feed : MethodName := ⟨"MarkRecovery", "feed", "(JI)I"⟩
abbrev w_MR_feed : List Cond := Cond.code ⟨"MarkRecovery", "feed", "(JI)I"⟩ prog_1_method_2_code 5 (Option.some FieldType.int) :: BIG
abbrev k_MR_alter : ByteArray := prog_1_method_3_code
abbrev y_MR_alter : MethodName := ⟨"MarkRecovery", "alter", "(II)I"⟩
abbrev w_MR_alter : List Cond := Cond.code ⟨"MarkRecovery", "alter", "(II)I"⟩ prog_1_method_3_code 4 (Option.some FieldType.int) :: BIG
abbrev k_MR_run : ByteArray := prog_1_method_4_code
abbrev y_MR_run : MethodName := ⟨"MarkRecovery", "run", "()I"⟩
abbrev w_MR_run : List Cond := Cond.code ⟨"MarkRecovery", "run", "()I"⟩ prog_1_method_4_code 2 (Option.some FieldType.int) :: BIG
abbrev k_MR_part : ByteArray := prog_1_method_5_code
abbrev y_MR_part : MethodName := ⟨"MarkRecovery", "part", "(II)I"⟩
abbrev w_MR_part : List Cond := Cond.code ⟨"MarkRecovery", "part", "(II)I"⟩ prog_1_method_5_code 3 (Option.some FieldType.int) :: BIG
abbrev k_MR_decode : ByteArray := prog_1_method_6_code
abbrev y_MR_decode : MethodName := ⟨"MarkRecovery", "decode", "(I)I"⟩
abbrev w_MR_decode : List Cond := Cond.code ⟨"MarkRecovery", "decode", "(I)I"⟩ prog_1_method_6_code 2 (Option.some FieldType.int) :: BIG
abbrev k_MR_decodeAll : ByteArray := prog_1_method_7_code
abbrev y_MR_decodeAll : MethodName := ⟨"MarkRecovery", "decodeAll", "()I"⟩
abbrev w_MR_decodeAll : List Cond := Cond.code ⟨"MarkRecovery", "decodeAll", "()I"⟩ prog_1_method_7_code 3 (Option.some FieldType.int) :: BIG
abbrev k_MR_at : ByteArray := prog_1_method_8_code
abbrev y_MR_at : MethodName := ⟨"MarkRecovery", "at", "(I)I"⟩
abbrev w_MR_at : List Cond := Cond.code ⟨"MarkRecovery", "at", "(I)I"⟩ prog_1_method_8_code 2 (Option.some FieldType.int) :: BIG
abbrev k_MR_state : ByteArray := prog_1_method_9_code
abbrev y_MR_state : MethodName := ⟨"MarkRecovery", "state", "(I)I"⟩
abbrev w_MR_state : List Cond := Cond.code ⟨"MarkRecovery", "state", "(I)I"⟩ prog_1_method_9_code 2 (Option.some FieldType.int) :: BIG
abbrev k_MR_fill : ByteArray := prog_1_method_10_code
abbrev y_MR_fill : MethodName := ⟨"MarkRecovery", "fill", "(I)I"⟩
abbrev w_MR_fill : List Cond := Cond.code ⟨"MarkRecovery", "fill", "(I)I"⟩ prog_1_method_10_code 2 (Option.some FieldType.int) :: BIG
abbrev k_MR_told : ByteArray := prog_1_method_11_code
abbrev y_MR_told : MethodName := ⟨"MarkRecovery", "told", "(I)I"⟩
abbrev w_MR_told : List Cond := Cond.code ⟨"MarkRecovery", "told", "(I)I"⟩ prog_1_method_11_code 2 (Option.some FieldType.int) :: BIG
abbrev k_MR_clear : ByteArray := prog_1_method_12_code
abbrev y_MR_clear : MethodName := ⟨"MarkRecovery", "clear", "()V"⟩
abbrev w_MR_clear : List Cond := Cond.code ⟨"MarkRecovery", "clear", "()V"⟩ prog_1_method_12_code 1 (Option.none : Option FieldType) :: BIG
abbrev k_MR_forgetParts : ByteArray := prog_1_method_13_code
abbrev y_MR_forgetParts : MethodName := ⟨"MarkRecovery", "forgetParts", "()V"⟩
abbrev w_MR_forgetParts : List Cond := Cond.code ⟨"MarkRecovery", "forgetParts", "()V"⟩ prog_1_method_13_code 1 (Option.none : Option FieldType) :: BIG
abbrev k_MR_requireRun : ByteArray := prog_1_method_14_code
abbrev y_MR_requireRun : MethodName := ⟨"MarkRecovery", "requireRun", "()V"⟩
abbrev w_MR_requireRun : List Cond := Cond.code ⟨"MarkRecovery", "requireRun", "()V"⟩ prog_1_method_14_code 1 (Option.none : Option FieldType) :: BIG
abbrev k_MR_requirePart : ByteArray := prog_1_method_15_code
abbrev y_MR_requirePart : MethodName := ⟨"MarkRecovery", "requirePart", "(I)V"⟩
abbrev w_MR_requirePart : List Cond := Cond.code ⟨"MarkRecovery", "requirePart", "(I)V"⟩ prog_1_method_15_code 2 (Option.none : Option FieldType) :: BIG
abbrev k_MR_requireSample : ByteArray := prog_1_method_16_code
abbrev y_MR_requireSample : MethodName := ⟨"MarkRecovery", "requireSample", "(I)V"⟩
abbrev w_MR_requireSample : List Cond := Cond.code ⟨"MarkRecovery", "requireSample", "(I)V"⟩ prog_1_method_16_code 1 (Option.none : Option FieldType) :: BIG
abbrev k_MR_lookAt : ByteArray := prog_1_method_17_code
abbrev y_MR_lookAt : MethodName := ⟨"MarkRecovery", "lookAt", "(I)I"⟩
abbrev w_MR_lookAt : List Cond := Cond.code ⟨"MarkRecovery", "lookAt", "(I)I"⟩ prog_1_method_17_code 2 (Option.some FieldType.int) :: BIG
abbrev k_MR_markStandsAt : ByteArray := prog_1_method_18_code
abbrev y_MR_markStandsAt : MethodName := ⟨"MarkRecovery", "markStandsAt", "(I)Z"⟩
abbrev w_MR_markStandsAt : List Cond := Cond.code ⟨"MarkRecovery", "markStandsAt", "(I)Z"⟩ prog_1_method_18_code 2 (Option.some FieldType.boolean) :: BIG
abbrev k_MR_headIsRight : ByteArray := prog_1_method_19_code
abbrev y_MR_headIsRight : MethodName := ⟨"MarkRecovery", "headIsRight", "(I)Z"⟩
abbrev w_MR_headIsRight : List Cond := Cond.code ⟨"MarkRecovery", "headIsRight", "(I)Z"⟩ prog_1_method_19_code 6 (Option.some FieldType.boolean) :: BIG
abbrev k_MR_dataAreThere : ByteArray := prog_1_method_20_code
abbrev y_MR_dataAreThere : MethodName := ⟨"MarkRecovery", "dataAreThere", "(I)Z"⟩
abbrev w_MR_dataAreThere : List Cond := Cond.code ⟨"MarkRecovery", "dataAreThere", "(I)Z"⟩ prog_1_method_20_code 2 (Option.some FieldType.boolean) :: BIG
abbrev k_MR_guessPart : ByteArray := prog_1_method_21_code
abbrev y_MR_guessPart : MethodName := ⟨"MarkRecovery", "guessPart", "(I)I"⟩
abbrev w_MR_guessPart : List Cond := Cond.code ⟨"MarkRecovery", "guessPart", "(I)I"⟩ prog_1_method_21_code 4 (Option.some FieldType.int) :: BIG
abbrev k_MR_guessSize : ByteArray := prog_1_method_22_code
abbrev y_MR_guessSize : MethodName := ⟨"MarkRecovery", "guessSize", "(I)I"⟩
abbrev w_MR_guessSize : List Cond := Cond.code ⟨"MarkRecovery", "guessSize", "(I)I"⟩ prog_1_method_22_code 3 (Option.some FieldType.int) :: BIG
abbrev k_MR_keepPart : ByteArray := prog_1_method_23_code
abbrev y_MR_keepPart : MethodName := ⟨"MarkRecovery", "keepPart", "(IIIII)I"⟩
abbrev w_MR_keepPart : List Cond := Cond.code ⟨"MarkRecovery", "keepPart", "(IIIII)I"⟩ prog_1_method_23_code 7 (Option.some FieldType.int) :: BIG
abbrev k_MR_decodePart : ByteArray := prog_1_method_24_code
abbrev y_MR_decodePart : MethodName := ⟨"MarkRecovery", "decodePart", "([I)I"⟩
abbrev w_MR_decodePart : List Cond := Cond.code ⟨"MarkRecovery", "decodePart", "([I)I"⟩ prog_1_method_24_code 3 (Option.some FieldType.int) :: BIG
abbrev k_Mod_init : ByteArray := prog_6_method_1_code
abbrev y_Mod_init : MethodName := ⟨"MarkRecoveryModel", "<init>", "(II)V"⟩
abbrev w_Mod_init : List Cond := Cond.code ⟨"MarkRecoveryModel", "<init>", "(II)V"⟩ prog_6_method_1_code 3 (Option.none : Option FieldType) :: BIG
abbrev k_Mod_thrown : ByteArray := prog_6_method_2_code
abbrev y_Mod_thrown : MethodName := ⟨"MarkRecoveryModel", "thrown", "()I"⟩
abbrev w_Mod_thrown : List Cond := Cond.code ⟨"MarkRecoveryModel", "thrown", "()I"⟩ prog_6_method_2_code 1 (Option.some FieldType.int) :: BIG
abbrev k_Mod_lose : ByteArray := prog_6_method_3_code
abbrev y_Mod_lose : MethodName := ⟨"MarkRecoveryModel", "lose", "()V"⟩
abbrev w_Mod_lose : List Cond := Cond.code ⟨"MarkRecoveryModel", "lose", "()V"⟩ prog_6_method_3_code 1 (Option.none : Option FieldType) :: BIG
abbrev k_Mod_feed : ByteArray := prog_6_method_4_code
abbrev y_Mod_feed : MethodName := ⟨"MarkRecoveryModel", "feed", "(JI)I"⟩
abbrev w_Mod_feed : List Cond := Cond.code ⟨"MarkRecoveryModel", "feed", "(JI)I"⟩ prog_6_method_4_code 5 (Option.some FieldType.int) :: BIG
abbrev k_Mod_alter : ByteArray := prog_6_method_5_code
abbrev y_Mod_alter : MethodName := ⟨"MarkRecoveryModel", "alter", "(II)I"⟩
abbrev w_Mod_alter : List Cond := Cond.code ⟨"MarkRecoveryModel", "alter", "(II)I"⟩ prog_6_method_5_code 4 (Option.some FieldType.int) :: BIG
abbrev k_Mod_isMark : ByteArray := prog_6_method_6_code
abbrev y_Mod_isMark : MethodName := ⟨"MarkRecoveryModel", "isMark", "(I)Z"⟩
abbrev w_Mod_isMark : List Cond := Cond.code ⟨"MarkRecoveryModel", "isMark", "(I)Z"⟩ prog_6_method_6_code 4 (Option.some FieldType.boolean) :: BIG
abbrev k_Mod_isHead : ByteArray := prog_6_method_7_code
abbrev y_Mod_isHead : MethodName := ⟨"MarkRecoveryModel", "isHead", "(I)Z"⟩
abbrev w_Mod_isHead : List Cond := Cond.code ⟨"MarkRecoveryModel", "isHead", "(I)Z"⟩ prog_6_method_7_code 2 (Option.some FieldType.boolean) :: BIG
abbrev k_Mod_isRight : ByteArray := prog_6_method_8_code
abbrev y_Mod_isRight : MethodName := ⟨"MarkRecoveryModel", "isRight", "(I)Z"⟩
abbrev w_Mod_isRight : List Cond := Cond.code ⟨"MarkRecoveryModel", "isRight", "(I)Z"⟩ prog_6_method_8_code 6 (Option.some FieldType.boolean) :: BIG
abbrev k_Mod_add : ByteArray := prog_6_method_9_code
abbrev y_Mod_add : MethodName := ⟨"MarkRecoveryModel", "add", "(IIIIZ)V"⟩
abbrev w_Mod_add : List Cond := Cond.code ⟨"MarkRecoveryModel", "add", "(IIIIZ)V"⟩ prog_6_method_9_code 6 (Option.none : Option FieldType) :: BIG
abbrev k_Mod_guess : ByteArray := prog_6_method_10_code
abbrev y_Mod_guess : MethodName := ⟨"MarkRecoveryModel", "guess", "(I)I"⟩
abbrev w_Mod_guess : List Cond := Cond.code ⟨"MarkRecoveryModel", "guess", "(I)I"⟩ prog_6_method_10_code 3 (Option.some FieldType.int) :: BIG
abbrev k_Mod_run : ByteArray := prog_6_method_11_code
abbrev y_Mod_run : MethodName := ⟨"MarkRecoveryModel", "run", "()I"⟩
abbrev w_Mod_run : List Cond := Cond.code ⟨"MarkRecoveryModel", "run", "()I"⟩ prog_6_method_11_code 2 (Option.some FieldType.int) :: BIG
abbrev k_Mod_partCode : ByteArray := prog_6_method_12_code
abbrev y_Mod_partCode : MethodName := ⟨"MarkRecoveryModel", "partCode", "(I)I"⟩
abbrev w_Mod_partCode : List Cond := Cond.code ⟨"MarkRecoveryModel", "partCode", "(I)I"⟩ prog_6_method_12_code 2 (Option.some FieldType.int) :: BIG
abbrev k_Mod_part : ByteArray := prog_6_method_13_code
abbrev y_Mod_part : MethodName := ⟨"MarkRecoveryModel", "part", "(II)I"⟩
abbrev w_Mod_part : List Cond := Cond.code ⟨"MarkRecoveryModel", "part", "(II)I"⟩ prog_6_method_13_code 3 (Option.some FieldType.int) :: BIG
abbrev k_Mod_fail : ByteArray := prog_6_method_14_code
abbrev y_Mod_fail : MethodName := ⟨"MarkRecoveryModel", "fail", "(I)V"⟩
abbrev w_Mod_fail : List Cond := Cond.code ⟨"MarkRecoveryModel", "fail", "(I)V"⟩ prog_6_method_14_code 2 (Option.none : Option FieldType) :: BIG
abbrev k_Mod_take : ByteArray := prog_6_method_15_code
abbrev y_Mod_take : MethodName := ⟨"MarkRecoveryModel", "take", "()I"⟩
abbrev w_Mod_take : List Cond := Cond.code ⟨"MarkRecoveryModel", "take", "()I"⟩ prog_6_method_15_code 1 (Option.some FieldType.int) :: BIG
abbrev k_Mod_give : ByteArray := prog_6_method_16_code
abbrev y_Mod_give : MethodName := ⟨"MarkRecoveryModel", "give", "(I)V"⟩
abbrev w_Mod_give : List Cond := Cond.code ⟨"MarkRecoveryModel", "give", "(I)V"⟩ prog_6_method_16_code 2 (Option.none : Option FieldType) :: BIG
abbrev k_Mod_goes : ByteArray := prog_6_method_17_code
abbrev y_Mod_goes : MethodName := ⟨"MarkRecoveryModel", "goes", "()Z"⟩
abbrev w_Mod_goes : List Cond := Cond.code ⟨"MarkRecoveryModel", "goes", "()Z"⟩ prog_6_method_17_code 1 (Option.some FieldType.boolean) :: BIG
abbrev k_Mod_repeated : ByteArray := prog_6_method_18_code
abbrev y_Mod_repeated : MethodName := ⟨"MarkRecoveryModel", "repeated", "()V"⟩
abbrev w_Mod_repeated : List Cond := Cond.code ⟨"MarkRecoveryModel", "repeated", "()V"⟩ prog_6_method_18_code 4 (Option.none : Option FieldType) :: BIG
abbrev k_Mod_divided : ByteArray := prog_6_method_19_code
abbrev y_Mod_divided : MethodName := ⟨"MarkRecoveryModel", "divided", "()V"⟩
abbrev w_Mod_divided : List Cond := Cond.code ⟨"MarkRecoveryModel", "divided", "()V"⟩ prog_6_method_19_code 3 (Option.none : Option FieldType) :: BIG
abbrev k_Mod_boxed : ByteArray := prog_6_method_20_code
abbrev y_Mod_boxed : MethodName := ⟨"MarkRecoveryModel", "boxed", "()V"⟩
abbrev w_Mod_boxed : List Cond := Cond.code ⟨"MarkRecoveryModel", "boxed", "()V"⟩ prog_6_method_20_code 5 (Option.none : Option FieldType) :: BIG
abbrev k_Mod_makeRow : ByteArray := prog_6_method_21_code
abbrev y_Mod_makeRow : MethodName := ⟨"MarkRecoveryModel", "makeRow", "(II)V"⟩
abbrev w_Mod_makeRow : List Cond := Cond.code ⟨"MarkRecoveryModel", "makeRow", "(II)V"⟩ prog_6_method_21_code 4 (Option.none : Option FieldType) :: BIG
abbrev k_Mod_differing : ByteArray := prog_6_method_22_code
abbrev y_Mod_differing : MethodName := ⟨"MarkRecoveryModel", "differing", "()V"⟩
abbrev w_Mod_differing : List Cond := Cond.code ⟨"MarkRecoveryModel", "differing", "()V"⟩ prog_6_method_22_code 3 (Option.none : Option FieldType) :: BIG
abbrev k_Mod_open : ByteArray := prog_6_method_23_code
abbrev y_Mod_open : MethodName := ⟨"MarkRecoveryModel", "open", "(I)I"⟩
abbrev w_Mod_open : List Cond := Cond.code ⟨"MarkRecoveryModel", "open", "(I)I"⟩ prog_6_method_23_code 4 (Option.some FieldType.int) :: BIG
abbrev k_Mod_decode : ByteArray := prog_6_method_24_code
abbrev y_Mod_decode : MethodName := ⟨"MarkRecoveryModel", "decode", "(I)I"⟩
abbrev w_Mod_decode : List Cond := Cond.code ⟨"MarkRecoveryModel", "decode", "(I)I"⟩ prog_6_method_24_code 2 (Option.some FieldType.int) :: BIG
abbrev k_Mod_decodeAll : ByteArray := prog_6_method_25_code
abbrev y_Mod_decodeAll : MethodName := ⟨"MarkRecoveryModel", "decodeAll", "()I"⟩
abbrev w_Mod_decodeAll : List Cond := Cond.code ⟨"MarkRecoveryModel", "decodeAll", "()I"⟩ prog_6_method_25_code 3 (Option.some FieldType.int) :: BIG
abbrev k_Mod_at : ByteArray := prog_6_method_26_code
abbrev y_Mod_at : MethodName := ⟨"MarkRecoveryModel", "at", "(I)I"⟩
abbrev w_Mod_at : List Cond := Cond.code ⟨"MarkRecoveryModel", "at", "(I)I"⟩ prog_6_method_26_code 2 (Option.some FieldType.int) :: BIG
abbrev k_Mod_state : ByteArray := prog_6_method_27_code
abbrev y_Mod_state : MethodName := ⟨"MarkRecoveryModel", "state", "(I)I"⟩
abbrev w_Mod_state : List Cond := Cond.code ⟨"MarkRecoveryModel", "state", "(I)I"⟩ prog_6_method_27_code 2 (Option.some FieldType.int) :: BIG
abbrev k_Mod_meant : ByteArray := prog_6_method_28_code
abbrev y_Mod_meant : MethodName := ⟨"MarkRecoveryModel", "meant", "(I)I"⟩
abbrev w_Mod_meant : List Cond := Cond.code ⟨"MarkRecoveryModel", "meant", "(I)I"⟩ prog_6_method_28_code 5 (Option.some FieldType.int) :: BIG
abbrev k_Mod_fill : ByteArray := prog_6_method_29_code
abbrev y_Mod_fill : MethodName := ⟨"MarkRecoveryModel", "fill", "(I)I"⟩
abbrev w_Mod_fill : List Cond := Cond.code ⟨"MarkRecoveryModel", "fill", "(I)I"⟩ prog_6_method_29_code 4 (Option.some FieldType.int) :: BIG
abbrev k_Mod_sure : ByteArray := prog_6_method_30_code
abbrev y_Mod_sure : MethodName := ⟨"MarkRecoveryModel", "sure", "()I"⟩
abbrev w_Mod_sure : List Cond := Cond.code ⟨"MarkRecoveryModel", "sure", "()I"⟩ prog_6_method_30_code 3 (Option.some FieldType.int) :: BIG
abbrev k_Mod_told : ByteArray := prog_6_method_31_code
abbrev y_Mod_told : MethodName := ⟨"MarkRecoveryModel", "told", "(I)I"⟩
abbrev w_Mod_told : List Cond := Cond.code ⟨"MarkRecoveryModel", "told", "(I)I"⟩ prog_6_method_31_code 2 (Option.some FieldType.int) :: BIG
abbrev k_Mod_clear : ByteArray := prog_6_method_32_code
abbrev y_Mod_clear : MethodName := ⟨"MarkRecoveryModel", "clear", "()V"⟩
abbrev w_Mod_clear : List Cond := Cond.code ⟨"MarkRecoveryModel", "clear", "()V"⟩ prog_6_method_32_code 2 (Option.none : Option FieldType) :: BIG
abbrev k_Boxes_init : ByteArray := prog_2_method_1_code
abbrev y_Boxes_init : MethodName := ⟨"MarkRecovery$Boxes", "<init>", "()V"⟩
abbrev w_Boxes_init : List Cond := Cond.code ⟨"MarkRecovery$Boxes", "<init>", "()V"⟩ prog_2_method_1_code 1 (Option.none : Option FieldType) :: BIG
abbrev k_Boxes_emptyAll : ByteArray := prog_2_method_2_code
abbrev y_Boxes_emptyAll : MethodName := ⟨"MarkRecovery$Boxes", "emptyAll", "()V"⟩
abbrev w_Boxes_emptyAll : List Cond := Cond.code ⟨"MarkRecovery$Boxes", "emptyAll", "()V"⟩ prog_2_method_2_code 2 (Option.none : Option FieldType) :: BIG
abbrev k_Boxes_putNumber : ByteArray := prog_2_method_3_code
abbrev y_Boxes_putNumber : MethodName := ⟨"MarkRecovery$Boxes", "putNumber", "(II)V"⟩
abbrev w_Boxes_putNumber : List Cond := Cond.code ⟨"MarkRecovery$Boxes", "putNumber", "(II)V"⟩ prog_2_method_3_code 3 (Option.none : Option FieldType) :: BIG
abbrev k_Boxes_putRow : ByteArray := prog_2_method_4_code
abbrev y_Boxes_putRow : MethodName := ⟨"MarkRecovery$Boxes", "putRow", "(II)V"⟩
abbrev w_Boxes_putRow : List Cond := Cond.code ⟨"MarkRecovery$Boxes", "putRow", "(II)V"⟩ prog_2_method_4_code 4 (Option.none : Option FieldType) :: BIG
abbrev k_Boxes_rowLength : ByteArray := prog_2_method_5_code
abbrev y_Boxes_rowLength : MethodName := ⟨"MarkRecovery$Boxes", "rowLength", "(I)I"⟩
abbrev w_Boxes_rowLength : List Cond := Cond.code ⟨"MarkRecovery$Boxes", "rowLength", "(I)I"⟩ prog_2_method_5_code 1 (Option.some FieldType.int) :: BIG
abbrev k_Boxes_thrownBy : ByteArray := prog_2_method_6_code
abbrev y_Boxes_thrownBy : MethodName := ⟨"MarkRecovery$Boxes", "thrownBy", "(III)I"⟩
abbrev w_Boxes_thrownBy : List Cond := Cond.code ⟨"MarkRecovery$Boxes", "thrownBy", "(III)I"⟩ prog_2_method_6_code 4 (Option.some FieldType.int) :: BIG
abbrev k_Boxes_thrownUnless : ByteArray := prog_2_method_7_code
abbrev y_Boxes_thrownUnless : MethodName := ⟨"MarkRecovery$Boxes", "thrownUnless", "(II)I"⟩
abbrev w_Boxes_thrownUnless : List Cond := Cond.code ⟨"MarkRecovery$Boxes", "thrownUnless", "(II)I"⟩ prog_2_method_7_code 3 (Option.some FieldType.int) :: BIG
abbrev k_Boxes_thrownUnlessInRow : ByteArray := prog_2_method_8_code
abbrev y_Boxes_thrownUnlessInRow : MethodName := ⟨"MarkRecovery$Boxes", "thrownUnlessInRow", "(II)I"⟩
abbrev w_Boxes_thrownUnlessInRow : List Cond := Cond.code ⟨"MarkRecovery$Boxes", "thrownUnlessInRow", "(II)I"⟩ prog_2_method_8_code 4 (Option.some FieldType.int) :: BIG
abbrev k_Dec_init : ByteArray := prog_3_method_1_code
abbrev y_Dec_init : MethodName := ⟨"MarkRecovery$Decoder", "<init>", "()V"⟩
abbrev w_Dec_init : List Cond := Cond.code ⟨"MarkRecovery$Decoder", "<init>", "()V"⟩ prog_3_method_1_code 1 (Option.none : Option FieldType) :: BIG
abbrev k_Dec_load : ByteArray := prog_3_method_2_code
abbrev y_Dec_load : MethodName := ⟨"MarkRecovery$Decoder", "load", "([III)V"⟩
abbrev w_Dec_load : List Cond := Cond.code ⟨"MarkRecovery$Decoder", "load", "([III)V"⟩ prog_3_method_2_code 4 (Option.none : Option FieldType) :: BIG
abbrev k_Dec_makeSamples : ByteArray := prog_3_method_3_code
abbrev y_Dec_makeSamples : MethodName := ⟨"MarkRecovery$Decoder", "makeSamples", "(I)I"⟩
abbrev w_Dec_makeSamples : List Cond := Cond.code ⟨"MarkRecovery$Decoder", "makeSamples", "(I)I"⟩ prog_3_method_3_code 2 (Option.some FieldType.int) :: BIG
abbrev k_Dec_isFull : ByteArray := prog_3_method_4_code
abbrev y_Dec_isFull : MethodName := ⟨"MarkRecovery$Decoder", "isFull", "()Z"⟩
abbrev w_Dec_isFull : List Cond := Cond.code ⟨"MarkRecovery$Decoder", "isFull", "()Z"⟩ prog_3_method_4_code 1 (Option.some FieldType.boolean) :: BIG
abbrev k_Dec_add : ByteArray := prog_3_method_5_code
abbrev y_Dec_add : MethodName := ⟨"MarkRecovery$Decoder", "add", "(I)V"⟩
abbrev w_Dec_add : List Cond := Cond.code ⟨"MarkRecovery$Decoder", "add", "(I)V"⟩ prog_3_method_5_code 2 (Option.none : Option FieldType) :: BIG
abbrev k_Dec_sampleBefore : ByteArray := prog_3_method_6_code
abbrev y_Dec_sampleBefore : MethodName := ⟨"MarkRecovery$Decoder", "sampleBefore", "()I"⟩
abbrev w_Dec_sampleBefore : List Cond := Cond.code ⟨"MarkRecovery$Decoder", "sampleBefore", "()I"⟩ prog_3_method_6_code 1 (Option.some FieldType.int) :: BIG
abbrev k_Dec_atEnd : ByteArray := prog_3_method_7_code
abbrev y_Dec_atEnd : MethodName := ⟨"MarkRecovery$Decoder", "atEnd", "()I"⟩
abbrev w_Dec_atEnd : List Cond := Cond.code ⟨"MarkRecovery$Decoder", "atEnd", "()I"⟩ prog_3_method_7_code 1 (Option.some FieldType.int) :: BIG
abbrev k_Dec_copyBytes : ByteArray := prog_3_method_8_code
abbrev y_Dec_copyBytes : MethodName := ⟨"MarkRecovery$Decoder", "copyBytes", "()I"⟩
abbrev w_Dec_copyBytes : List Cond := Cond.code ⟨"MarkRecovery$Decoder", "copyBytes", "()I"⟩ prog_3_method_8_code 2 (Option.some FieldType.int) :: BIG
abbrev k_Dec_repeatValues : ByteArray := prog_3_method_9_code
abbrev y_Dec_repeatValues : MethodName := ⟨"MarkRecovery$Decoder", "repeatValues", "()I"⟩
abbrev w_Dec_repeatValues : List Cond := Cond.code ⟨"MarkRecovery$Decoder", "repeatValues", "()I"⟩ prog_3_method_9_code 3 (Option.some FieldType.int) :: BIG
abbrev k_Dec_divide : ByteArray := prog_3_method_10_code
abbrev y_Dec_divide : MethodName := ⟨"MarkRecovery$Decoder", "divide", "()I"⟩
abbrev w_Dec_divide : List Cond := Cond.code ⟨"MarkRecovery$Decoder", "divide", "()I"⟩ prog_3_method_10_code 2 (Option.some FieldType.int) :: BIG
abbrev k_Dec_addDifferences : ByteArray := prog_3_method_11_code
abbrev y_Dec_addDifferences : MethodName := ⟨"MarkRecovery$Decoder", "addDifferences", "()I"⟩
abbrev w_Dec_addDifferences : List Cond := Cond.code ⟨"MarkRecovery$Decoder", "addDifferences", "()I"⟩ prog_3_method_11_code 3 (Option.some FieldType.int) :: BIG
abbrev k_Dec_signed : ByteArray := prog_3_method_12_code
abbrev y_Dec_signed : MethodName := ⟨"MarkRecovery$Decoder", "signed", "(I)I"⟩
abbrev w_Dec_signed : List Cond := Cond.code ⟨"MarkRecovery$Decoder", "signed", "(I)I"⟩ prog_3_method_12_code 1 (Option.some FieldType.int) :: BIG
abbrev k_Dec_useBoxes : ByteArray := prog_3_method_13_code
abbrev y_Dec_useBoxes : MethodName := ⟨"MarkRecovery$Decoder", "useBoxes", "()I"⟩
abbrev w_Dec_useBoxes : List Cond := Cond.code ⟨"MarkRecovery$Decoder", "useBoxes", "()I"⟩ prog_3_method_13_code 6 (Option.some FieldType.int) :: BIG
abbrev k_Dec_doOperation : ByteArray := prog_3_method_14_code
abbrev y_Dec_doOperation : MethodName := ⟨"MarkRecovery$Decoder", "doOperation", "(III)V"⟩
abbrev w_Dec_doOperation : List Cond := Cond.code ⟨"MarkRecovery$Decoder", "doOperation", "(III)V"⟩ prog_3_method_14_code 4 (Option.none : Option FieldType) :: BIG
abbrev k_Map_init : ByteArray := prog_4_method_1_code
abbrev y_Map_init : MethodName := ⟨"MarkRecovery$SampleMap", "<init>", "()V"⟩
abbrev w_Map_init : List Cond := Cond.code ⟨"MarkRecovery$SampleMap", "<init>", "()V"⟩ prog_4_method_1_code 1 (Option.none : Option FieldType) :: BIG
abbrev k_Map_forgetAll : ByteArray := prog_4_method_2_code
abbrev y_Map_forgetAll : MethodName := ⟨"MarkRecovery$SampleMap", "forgetAll", "()V"⟩
abbrev w_Map_forgetAll : List Cond := Cond.code ⟨"MarkRecovery$SampleMap", "forgetAll", "()V"⟩ prog_4_method_2_code 2 (Option.none : Option FieldType) :: BIG
abbrev k_Map_tellRow : ByteArray := prog_4_method_3_code
abbrev y_Map_tellRow : MethodName := ⟨"MarkRecovery$SampleMap", "tellRow", "(I[IZ)V"⟩
abbrev w_Map_tellRow : List Cond := Cond.code ⟨"MarkRecovery$SampleMap", "tellRow", "(I[IZ)V"⟩ prog_4_method_3_code 6 (Option.none : Option FieldType) :: BIG
abbrev k_Map_countSure : ByteArray := prog_4_method_4_code
abbrev y_Map_countSure : MethodName := ⟨"MarkRecovery$SampleMap", "countSure", "()I"⟩
abbrev w_Map_countSure : List Cond := Cond.code ⟨"MarkRecovery$SampleMap", "countSure", "()I"⟩ prog_4_method_4_code 3 (Option.some FieldType.int) :: BIG
abbrev k_Map_fillUntold : ByteArray := prog_4_method_5_code
abbrev y_Map_fillUntold : MethodName := ⟨"MarkRecovery$SampleMap", "fillUntold", "(I)I"⟩
abbrev w_Map_fillUntold : List Cond := Cond.code ⟨"MarkRecovery$SampleMap", "fillUntold", "(I)I"⟩ prog_4_method_5_code 4 (Option.some FieldType.int) :: BIG
abbrev k_Map_valueByRule : ByteArray := prog_4_method_6_code
abbrev y_Map_valueByRule : MethodName := ⟨"MarkRecovery$SampleMap", "valueByRule", "(II)I"⟩
abbrev w_Map_valueByRule : List Cond := Cond.code ⟨"MarkRecovery$SampleMap", "valueByRule", "(II)I"⟩ prog_4_method_6_code 3 (Option.some FieldType.int) :: BIG
abbrev k_Map_valueLeftOf : ByteArray := prog_4_method_7_code
abbrev y_Map_valueLeftOf : MethodName := ⟨"MarkRecovery$SampleMap", "valueLeftOf", "(I)I"⟩
abbrev w_Map_valueLeftOf : List Cond := Cond.code ⟨"MarkRecovery$SampleMap", "valueLeftOf", "(I)I"⟩ prog_4_method_7_code 2 (Option.some FieldType.int) :: BIG
abbrev k_Map_valueAbove : ByteArray := prog_4_method_8_code
abbrev y_Map_valueAbove : MethodName := ⟨"MarkRecovery$SampleMap", "valueAbove", "(I)I"⟩
abbrev w_Map_valueAbove : List Cond := Cond.code ⟨"MarkRecovery$SampleMap", "valueAbove", "(I)I"⟩ prog_4_method_8_code 2 (Option.some FieldType.int) :: BIG
abbrev k_Map_meanOf : ByteArray := prog_4_method_9_code
abbrev y_Map_meanOf : MethodName := ⟨"MarkRecovery$SampleMap", "meanOf", "(II)I"⟩
abbrev w_Map_meanOf : List Cond := Cond.code ⟨"MarkRecovery$SampleMap", "meanOf", "(II)I"⟩ prog_4_method_9_code 2 (Option.some FieldType.int) :: BIG
abbrev k_Law_cell : ByteArray := method_2_code
abbrev y_Law_cell : MethodName := ⟨"MarkRecoveryLaw", "cell", "([II)I"⟩
abbrev w_Law_cell : List Cond := Cond.code ⟨"MarkRecoveryLaw", "cell", "([II)I"⟩ method_2_code 2 (Option.some FieldType.int) :: BIG
abbrev k_Law_feed : ByteArray := method_3_code
abbrev y_Law_feed : MethodName := ⟨"MarkRecoveryLaw", "feed", "(LMarkRecovery;JI[J)I"⟩
abbrev w_Law_feed : List Cond := Cond.codeWith ⟨"MarkRecoveryLaw", "feed", "(LMarkRecovery;JI[J)I"⟩ method_3_code 6 (Option.some FieldType.int) [(0, 11, 14, 13), (0, 11, 18, 15)] :: BIG
abbrev k_Law_alter : ByteArray := method_4_code
abbrev y_Law_alter : MethodName := ⟨"MarkRecoveryLaw", "alter", "(LMarkRecovery;II[J)I"⟩
abbrev w_Law_alter : List Cond := Cond.codeWith ⟨"MarkRecoveryLaw", "alter", "(LMarkRecovery;II[J)I"⟩ method_4_code 5 (Option.some FieldType.int) [(0, 10, 13, 21), (0, 10, 17, 13)] :: BIG
abbrev k_Law_part : ByteArray := method_5_code
abbrev y_Law_part : MethodName := ⟨"MarkRecoveryLaw", "part", "(LMarkRecovery;II[J)I"⟩
abbrev w_Law_part : List Cond := Cond.codeWith ⟨"MarkRecoveryLaw", "part", "(LMarkRecovery;II[J)I"⟩ method_5_code 5 (Option.some FieldType.int) [(0, 10, 13, 26), (0, 10, 17, 21)] :: BIG
abbrev k_Law_decode : ByteArray := method_6_code
abbrev y_Law_decode : MethodName := ⟨"MarkRecoveryLaw", "decode", "(LMarkRecovery;I[J)I"⟩
abbrev w_Law_decode : List Cond := Cond.codeWith ⟨"MarkRecoveryLaw", "decode", "(LMarkRecovery;I[J)I"⟩ method_6_code 4 (Option.some FieldType.int) [(0, 9, 12, 26), (0, 9, 15, 21)] :: BIG
abbrev k_Law_decodeAll : ByteArray := method_7_code
abbrev y_Law_decodeAll : MethodName := ⟨"MarkRecoveryLaw", "decodeAll", "(LMarkRecovery;[J)I"⟩
abbrev w_Law_decodeAll : List Cond := Cond.codeWith ⟨"MarkRecoveryLaw", "decodeAll", "(LMarkRecovery;[J)I"⟩ method_7_code 3 (Option.some FieldType.int) [(0, 8, 11, 26)] :: BIG
abbrev k_Law_at : ByteArray := method_8_code
abbrev y_Law_at : MethodName := ⟨"MarkRecoveryLaw", "at", "(LMarkRecovery;I[J)I"⟩
abbrev w_Law_at : List Cond := Cond.codeWith ⟨"MarkRecoveryLaw", "at", "(LMarkRecovery;I[J)I"⟩ method_8_code 4 (Option.some FieldType.int) [(0, 9, 12, 21)] :: BIG
abbrev k_Law_state : ByteArray := method_9_code
abbrev y_Law_state : MethodName := ⟨"MarkRecoveryLaw", "state", "(LMarkRecovery;I[J)I"⟩
abbrev w_Law_state : List Cond := Cond.codeWith ⟨"MarkRecoveryLaw", "state", "(LMarkRecovery;I[J)I"⟩ method_9_code 4 (Option.some FieldType.int) [(0, 9, 12, 21)] :: BIG
abbrev k_Law_fill : ByteArray := method_10_code
abbrev y_Law_fill : MethodName := ⟨"MarkRecoveryLaw", "fill", "(LMarkRecovery;I[J)I"⟩
abbrev w_Law_fill : List Cond := Cond.codeWith ⟨"MarkRecoveryLaw", "fill", "(LMarkRecovery;I[J)I"⟩ method_10_code 4 (Option.some FieldType.int) [(0, 9, 12, 13)] :: BIG
abbrev k_Law_law : ByteArray := code
abbrev y_Law_law : MethodName := ⟨"MarkRecoveryLaw", "law", "([I)Z"⟩
