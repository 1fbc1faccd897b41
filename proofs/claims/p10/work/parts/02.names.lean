/-! names: classes, fields, methods; the words of the tables that are good in every state -/
def R_SF : String := "StreamFilters"
def R_By : String := "StreamFilters$Bytes"
def R_Co : String := "StreamFilters$Codes"
def R_Fl : String := "StreamFilters$Flate"
def R_Hx : String := "StreamFilters$Hexadecimal"
def R_Le : String := "StreamFilters$Lengths"
def R_Li : String := "StreamFilters$Link"
def R_Lz : String := "StreamFilters$Lzw"
def R_Pa : String := "StreamFilters$Pass"
def R_T8 : String := "StreamFilters$Text85"
def R_Un : String := "StreamFilters$Unpacker"
def R_Mo : String := "StreamFiltersModel"
def R_La : String := "StreamFiltersLaw"
def T_SF : u_T := fun k => match k with
  | 0 => ("StreamFilters", "row", "LStreamFilters$Bytes;", true)
  | 1 => ("StreamFilters", "chain", "[LStreamFilters$Link;", true)
  | 2 => ("StreamFilters", "filters", "I", false)
  | 3 => ("StreamFilters", "allowed", "I", false)
  | 4 => ("StreamFilters", "pass", "LStreamFilters$Pass;", true)
  | 5 => ("StreamFilters", "flate", "LStreamFilters$Flate;", true)
  | 6 => ("StreamFilters", "lzw", "LStreamFilters$Lzw;", true)
  | 7 => ("StreamFilters", "text85", "LStreamFilters$Text85;", true)
  | 8 => ("StreamFilters", "hexadecimal", "LStreamFilters$Hexadecimal;", true)
  | 9 => ("StreamFilters", "lengths", "LStreamFilters$Lengths;", true)
  | 10 => ("StreamFilters", "evenOutput", "LStreamFilters$Bytes;", true)
  | 11 => ("StreamFilters", "oddOutput", "LStreamFilters$Bytes;", true)
  | 12 => ("StreamFilters", "result", "LStreamFilters$Bytes;", false)
  | 13 => ("StreamFilters", "decoded", "Z", false)
  | 14 => ("StreamFilters", "faultFilter", "I", false)
  | 15 => ("StreamFilters", "faultKind", "I", false)
  | _ => ("StreamFilters", "faultPlace", "I", false)
def ty_SF : Nat → FieldType := fun k => match k with
  | 0 => (.object "StreamFilters$Bytes")
  | 1 => (.array (.object "StreamFilters$Link"))
  | 2 => .int
  | 3 => .int
  | 4 => (.object "StreamFilters$Pass")
  | 5 => (.object "StreamFilters$Flate")
  | 6 => (.object "StreamFilters$Lzw")
  | 7 => (.object "StreamFilters$Text85")
  | 8 => (.object "StreamFilters$Hexadecimal")
  | 9 => (.object "StreamFilters$Lengths")
  | 10 => (.object "StreamFilters$Bytes")
  | 11 => (.object "StreamFilters$Bytes")
  | 12 => (.object "StreamFilters$Bytes")
  | 13 => .boolean
  | 14 => .int
  | 15 => .int
  | _ => .int
theorem nm_SF : ∀ a, a < 17 → ∀ b, b < 17 → a ≠ b → (T_SF a).2.1 ≠ (T_SF b).2.1 := by decide +kernel
theorem tyok_SF : ∀ k, k < 17 → parseFieldDescriptor (T_SF k).2.2.1 = some (ty_SF k) := by decide +kernel
def T_By : u_T := fun k => match k with
  | 0 => ("StreamFilters$Bytes", "room", "[B", true)
  | _ => ("StreamFilters$Bytes", "length", "I", false)
def ty_By : Nat → FieldType := fun k => match k with
  | 0 => (.array .byte)
  | _ => .int
theorem nm_By : ∀ a, a < 2 → ∀ b, b < 2 → a ≠ b → (T_By a).2.1 ≠ (T_By b).2.1 := by decide +kernel
theorem tyok_By : ∀ k, k < 2 → parseFieldDescriptor (T_By k).2.2.1 = some (ty_By k) := by decide +kernel
def T_Co : u_T := fun k => match k with
  | 0 => ("StreamFilters$Codes", "counts", "[I", true)
  | 1 => ("StreamFilters$Codes", "places", "[I", true)
  | 2 => ("StreamFilters$Codes", "symbols", "[I", true)
  | 3 => ("StreamFilters$Codes", "used", "I", false)
  | _ => ("StreamFilters$Codes", "longest", "I", false)
def ty_Co : Nat → FieldType := fun k => match k with
  | 0 => (.array .int)
  | 1 => (.array .int)
  | 2 => (.array .int)
  | 3 => .int
  | _ => .int
theorem nm_Co : ∀ a, a < 5 → ∀ b, b < 5 → a ≠ b → (T_Co a).2.1 ≠ (T_Co b).2.1 := by decide +kernel
theorem tyok_Co : ∀ k, k < 5 → parseFieldDescriptor (T_Co k).2.2.1 = some (ty_Co k) := by decide +kernel
def T_Fl : u_T := fun k => match k with
  | 0 => ("StreamFilters$Flate", "fixedLiterals", "LStreamFilters$Codes;", true)
  | 1 => ("StreamFilters$Flate", "fixedDistances", "LStreamFilters$Codes;", true)
  | 2 => ("StreamFilters$Flate", "literals", "LStreamFilters$Codes;", true)
  | 3 => ("StreamFilters$Flate", "distances", "LStreamFilters$Codes;", true)
  | 4 => ("StreamFilters$Flate", "lengthCodes", "LStreamFilters$Codes;", true)
  | _ => ("StreamFilters$Flate", "lengths", "[I", true)
def ty_Fl : Nat → FieldType := fun k => match k with
  | 0 => (.object "StreamFilters$Codes")
  | 1 => (.object "StreamFilters$Codes")
  | 2 => (.object "StreamFilters$Codes")
  | 3 => (.object "StreamFilters$Codes")
  | 4 => (.object "StreamFilters$Codes")
  | _ => (.array .int)
theorem nm_Fl : ∀ a, a < 6 → ∀ b, b < 6 → a ≠ b → (T_Fl a).2.1 ≠ (T_Fl b).2.1 := by decide +kernel
theorem tyok_Fl : ∀ k, k < 6 → parseFieldDescriptor (T_Fl k).2.2.1 = some (ty_Fl k) := by decide +kernel
def T_Hx : u_T := fun k => match k with
  | _ => ("", "", "", false)
def ty_Hx : Nat → FieldType := fun k => match k with
  | _ => .int
theorem nm_Hx : ∀ a, a < 0 → ∀ b, b < 0 → a ≠ b → (T_Hx a).2.1 ≠ (T_Hx b).2.1 := by decide +kernel
theorem tyok_Hx : ∀ k, k < 0 → parseFieldDescriptor (T_Hx k).2.2.1 = some (ty_Hx k) := by decide +kernel
def T_Le : u_T := fun k => match k with
  | _ => ("", "", "", false)
def ty_Le : Nat → FieldType := fun k => match k with
  | _ => .int
theorem nm_Le : ∀ a, a < 0 → ∀ b, b < 0 → a ≠ b → (T_Le a).2.1 ≠ (T_Le b).2.1 := by decide +kernel
theorem tyok_Le : ∀ k, k < 0 → parseFieldDescriptor (T_Le k).2.2.1 = some (ty_Le k) := by decide +kernel
def T_Li : u_T := fun k => match k with
  | 0 => ("StreamFilters$Link", "kind", "I", false)
  | 1 => ("StreamFilters$Link", "early", "I", false)
  | 2 => ("StreamFilters$Link", "predictor", "I", false)
  | 3 => ("StreamFilters$Link", "colours", "I", false)
  | 4 => ("StreamFilters$Link", "bits", "I", false)
  | _ => ("StreamFilters$Link", "columns", "I", false)
def ty_Li : Nat → FieldType := fun k => match k with
  | 0 => .int
  | 1 => .int
  | 2 => .int
  | 3 => .int
  | 4 => .int
  | _ => .int
theorem nm_Li : ∀ a, a < 6 → ∀ b, b < 6 → a ≠ b → (T_Li a).2.1 ≠ (T_Li b).2.1 := by decide +kernel
theorem tyok_Li : ∀ k, k < 6 → parseFieldDescriptor (T_Li k).2.2.1 = some (ty_Li k) := by decide +kernel
def T_Lz : u_T := fun k => match k with
  | 0 => ("StreamFilters$Lzw", "starts", "[I", true)
  | 1 => ("StreamFilters$Lzw", "sizes", "[I", true)
  | 2 => ("StreamFilters$Lzw", "next", "I", false)
  | 3 => ("StreamFilters$Lzw", "startBefore", "I", false)
  | _ => ("StreamFilters$Lzw", "sizeBefore", "I", false)
def ty_Lz : Nat → FieldType := fun k => match k with
  | 0 => (.array .int)
  | 1 => (.array .int)
  | 2 => .int
  | 3 => .int
  | _ => .int
theorem nm_Lz : ∀ a, a < 5 → ∀ b, b < 5 → a ≠ b → (T_Lz a).2.1 ≠ (T_Lz b).2.1 := by decide +kernel
theorem tyok_Lz : ∀ k, k < 5 → parseFieldDescriptor (T_Lz k).2.2.1 = some (ty_Lz k) := by decide +kernel
def T_Pa : u_T := fun k => match k with
  | 0 => ("StreamFilters$Pass", "input", "LStreamFilters$Bytes;", false)
  | 1 => ("StreamFilters$Pass", "output", "LStreamFilters$Bytes;", false)
  | 2 => ("StreamFilters$Pass", "begun", "I", false)
  | 3 => ("StreamFilters$Pass", "current", "I", false)
  | 4 => ("StreamFilters$Pass", "bitsLeft", "I", false)
  | 5 => ("StreamFilters$Pass", "problem", "I", false)
  | _ => ("StreamFilters$Pass", "left", "I", false)
def ty_Pa : Nat → FieldType := fun k => match k with
  | 0 => (.object "StreamFilters$Bytes")
  | 1 => (.object "StreamFilters$Bytes")
  | 2 => .int
  | 3 => .int
  | 4 => .int
  | 5 => .int
  | _ => .int
theorem nm_Pa : ∀ a, a < 7 → ∀ b, b < 7 → a ≠ b → (T_Pa a).2.1 ≠ (T_Pa b).2.1 := by decide +kernel
theorem tyok_Pa : ∀ k, k < 7 → parseFieldDescriptor (T_Pa k).2.2.1 = some (ty_Pa k) := by decide +kernel
def T_T8 : u_T := fun k => match k with
  | 0 => ("StreamFilters$Text85", "number", "J", false)
  | _ => ("StreamFilters$Text85", "digits", "I", false)
def ty_T8 : Nat → FieldType := fun k => match k with
  | 0 => .long
  | _ => .int
theorem nm_T8 : ∀ a, a < 2 → ∀ b, b < 2 → a ≠ b → (T_T8 a).2.1 ≠ (T_T8 b).2.1 := by decide +kernel
theorem tyok_T8 : ∀ k, k < 2 → parseFieldDescriptor (T_T8 k).2.2.1 = some (ty_T8 k) := by decide +kernel
def T_Mo : u_T := fun k => match k with
  | 0 => ("StreamFiltersModel", "refusal", "I", false)
  | 1 => ("StreamFiltersModel", "rowSize", "I", false)
  | 2 => ("StreamFiltersModel", "row", "[I", true)
  | 3 => ("StreamFiltersModel", "filters", "I", false)
  | 4 => ("StreamFiltersModel", "kinds", "[I", true)
  | 5 => ("StreamFiltersModel", "earlies", "[I", true)
  | 6 => ("StreamFiltersModel", "predictors", "[I", true)
  | 7 => ("StreamFiltersModel", "colours", "[I", true)
  | 8 => ("StreamFiltersModel", "bits", "[I", true)
  | 9 => ("StreamFiltersModel", "columns", "[I", true)
  | 10 => ("StreamFiltersModel", "budget", "I", false)
  | 11 => ("StreamFiltersModel", "size", "I", false)
  | 12 => ("StreamFiltersModel", "in", "[I", true)
  | 13 => ("StreamFiltersModel", "given", "I", false)
  | 14 => ("StreamFiltersModel", "out", "[I", true)
  | 15 => ("StreamFiltersModel", "left", "I", false)
  | 16 => ("StreamFiltersModel", "pos", "I", false)
  | 17 => ("StreamFiltersModel", "wrong", "I", false)
  | 18 => ("StreamFiltersModel", "spare", "I", false)
  | 19 => ("StreamFiltersModel", "spareBits", "I", false)
  | 20 => ("StreamFiltersModel", "lengths", "[I", true)
  | 21 => ("StreamFiltersModel", "codes", "[I", true)
  | 22 => ("StreamFiltersModel", "before", "[I", true)
  | 23 => ("StreamFiltersModel", "last", "[I", true)
  | 24 => ("StreamFiltersModel", "sizes", "[I", true)
  | 25 => ("StreamFiltersModel", "isDecoded", "Z", false)
  | 26 => ("StreamFiltersModel", "resultSize", "I", false)
  | 27 => ("StreamFiltersModel", "result", "[I", true)
  | 28 => ("StreamFiltersModel", "faultFilter", "I", false)
  | 29 => ("StreamFiltersModel", "faultKind", "I", false)
  | _ => ("StreamFiltersModel", "faultPlace", "I", false)
def ty_Mo : Nat → FieldType := fun k => match k with
  | 0 => .int
  | 1 => .int
  | 2 => (.array .int)
  | 3 => .int
  | 4 => (.array .int)
  | 5 => (.array .int)
  | 6 => (.array .int)
  | 7 => (.array .int)
  | 8 => (.array .int)
  | 9 => (.array .int)
  | 10 => .int
  | 11 => .int
  | 12 => (.array .int)
  | 13 => .int
  | 14 => (.array .int)
  | 15 => .int
  | 16 => .int
  | 17 => .int
  | 18 => .int
  | 19 => .int
  | 20 => (.array .int)
  | 21 => (.array .int)
  | 22 => (.array .int)
  | 23 => (.array .int)
  | 24 => (.array .int)
  | 25 => .boolean
  | 26 => .int
  | 27 => (.array .int)
  | 28 => .int
  | 29 => .int
  | _ => .int
theorem nm_Mo : ∀ a, a < 31 → ∀ b, b < 31 → a ≠ b → (T_Mo a).2.1 ≠ (T_Mo b).2.1 := by decide +kernel
theorem tyok_Mo : ∀ k, k < 31 → parseFieldDescriptor (T_Mo k).2.2.1 = some (ty_Mo k) := by decide +kernel
abbrev classes : List vw_C := [(R_SF, T_SF, 17), (R_By, T_By, 2), (R_Co, T_Co, 5), (R_Fl, T_Fl, 6), (R_Hx, T_Hx, 0), (R_Le, T_Le, 0), (R_Li, T_Li, 6), (R_Lz, T_Lz, 5), (R_Pa, T_Pa, 7), (R_T8, T_T8, 2), (R_Mo, T_Mo, 31)]
def mGood : List Cond := lw_tbl.filter goodWord
theorem mGood_good : ∀ w ∈ mGood, goodWord w = true := fun w h => (List.mem_filter.mp h).2
theorem mg_of {i : Nat} {w : Cond} (h : lw_tbl[i]? = some w) (hg : goodWord w = true) : w ∈ mGood := List.mem_filter.mpr ⟨List.mem_of_getElem? h, hg⟩
theorem mg_ofs {C : String} {T : u_T} {n : Nat} (ps : List Nat) (h : u_ws C T n = ps.filterMap (fun i => lw_tbl[i]?)) (hg : (u_ws C T n).all goodWord = true) : ∀ w ∈ u_ws C T n, w ∈ mGood := by
  intro w hw
  have h1 := List.all_eq_true.mp hg w hw
  rw [h] at hw
  obtain ⟨i, -, hi⟩ := List.mem_filterMap.mp hw
  exact mg_of hi h1
set_option maxRecDepth 20000 in
theorem in_SF : ∀ w ∈ u_ws R_SF T_SF 17, w ∈ mGood := mg_ofs [304, 306, 308, 310, 312, 314, 316, 318, 320, 322, 324, 326, 328, 330, 332, 334, 336] (by decide +kernel) (by decide +kernel)
set_option maxRecDepth 20000 in
theorem in_By : ∀ w ∈ u_ws R_By T_By 2, w ∈ mGood := mg_ofs [103, 105] (by decide +kernel) (by decide +kernel)
set_option maxRecDepth 20000 in
theorem in_Co : ∀ w ∈ u_ws R_Co T_Co 5, w ∈ mGood := mg_ofs [168, 170, 172, 174, 176] (by decide +kernel) (by decide +kernel)
set_option maxRecDepth 20000 in
theorem in_Fl : ∀ w ∈ u_ws R_Fl T_Fl 6, w ∈ mGood := mg_ofs [199, 201, 203, 205, 207, 209] (by decide +kernel) (by decide +kernel)
set_option maxRecDepth 20000 in
theorem in_Hx : ∀ w ∈ u_ws R_Hx T_Hx 0, w ∈ mGood := mg_ofs [] (by decide +kernel) (by decide +kernel)
set_option maxRecDepth 20000 in
theorem in_Le : ∀ w ∈ u_ws R_Le T_Le 0, w ∈ mGood := mg_ofs [] (by decide +kernel) (by decide +kernel)
set_option maxRecDepth 20000 in
theorem in_Li : ∀ w ∈ u_ws R_Li T_Li 6, w ∈ mGood := mg_ofs [274, 276, 278, 280, 282, 284] (by decide +kernel) (by decide +kernel)
set_option maxRecDepth 20000 in
theorem in_Lz : ∀ w ∈ u_ws R_Lz T_Lz 5, w ∈ mGood := mg_ofs [223, 225, 227, 229, 231] (by decide +kernel) (by decide +kernel)
set_option maxRecDepth 20000 in
theorem in_Pa : ∀ w ∈ u_ws R_Pa T_Pa 7, w ∈ mGood := mg_ofs [132, 134, 136, 138, 140, 142, 144] (by decide +kernel) (by decide +kernel)
set_option maxRecDepth 20000 in
theorem in_T8 : ∀ w ∈ u_ws R_T8 T_T8 2, w ∈ mGood := mg_ofs [242, 244] (by decide +kernel) (by decide +kernel)
set_option maxRecDepth 20000 in
theorem in_Mo : ∀ w ∈ u_ws R_Mo T_Mo 31, w ∈ mGood := mg_ofs [845, 847, 849, 851, 853, 855, 857, 859, 861, 863, 865, 867, 869, 871, 873, 875, 877, 879, 881, 883, 885, 887, 889, 891, 893, 895, 897, 899, 901, 903, 905] (by decide +kernel) (by decide +kernel)
def mNest : List Cond := [.fieldLinkNest "StreamFilters$Pass" 42 "StreamFilters$Bytes" "room" "[B" "StreamFilters", .fieldLinkNest "StreamFilters" 97 "StreamFilters$Bytes" "length" "I" "StreamFilters", .fieldLinkNest "StreamFilters$Pass" 39 "StreamFilters$Bytes" "length" "I" "StreamFilters", .fieldLinkNest "StreamFilters$Lzw" 49 "StreamFilters$Bytes" "length" "I" "StreamFilters", .fieldLinkNest "StreamFilters$Link" 48 "StreamFilters$Bytes" "length" "I" "StreamFilters", .fieldLinkNest "StreamFilters$Flate" 126 "StreamFilters$Bytes" "length" "I" "StreamFilters", .arrayOver (.object "StreamFilters$Link"), .methodLinkNest "StreamFilters" 34 ⟨"StreamFilters$Pass", "<init>", "()V"⟩ "StreamFilters", .fieldLinkNest "StreamFilters$Lzw" 45 "StreamFilters$Pass" "output" "LStreamFilters$Bytes;" "StreamFilters", .fieldLinkNest "StreamFilters$Flate" 122 "StreamFilters$Pass" "output" "LStreamFilters$Bytes;" "StreamFilters", .fieldLinkNest "StreamFilters" 199 "StreamFilters$Pass" "begun" "I" "StreamFilters", .fieldLinkNest "StreamFilters" 196 "StreamFilters$Pass" "problem" "I" "StreamFilters", .fieldLinkNest "StreamFilters" 166 "StreamFilters$Pass" "left" "I" "StreamFilters", .methodLinkNest "StreamFilters$Flate" 3 ⟨"StreamFilters$Unpacker", "<init>", "()V"⟩ "StreamFilters", .methodLinkNest "StreamFilters" 48 ⟨"StreamFilters$Lzw", "<init>", "()V"⟩ "StreamFilters", .methodLinkNest "StreamFilters$Lzw" 3 ⟨"StreamFilters$Unpacker", "<init>", "()V"⟩ "StreamFilters", .methodLinkNest "StreamFilters" 55 ⟨"StreamFilters$Text85", "<init>", "()V"⟩ "StreamFilters", .methodLinkNest "StreamFilters$Text85" 3 ⟨"StreamFilters$Unpacker", "<init>", "()V"⟩ "StreamFilters", .methodLinkNest "StreamFilters" 62 ⟨"StreamFilters$Hexadecimal", "<init>", "()V"⟩ "StreamFilters", .methodLinkNest "StreamFilters$Hexadecimal" 3 ⟨"StreamFilters$Unpacker", "<init>", "()V"⟩ "StreamFilters", .methodLinkNest "StreamFilters" 69 ⟨"StreamFilters$Lengths", "<init>", "()V"⟩ "StreamFilters", .methodLinkNest "StreamFilters$Lengths" 3 ⟨"StreamFilters$Unpacker", "<init>", "()V"⟩ "StreamFilters", .methodLinkNest "StreamFilters" 96 ⟨"StreamFilters$Link", "<init>", "()V"⟩ "StreamFilters", .fieldLinkNest "StreamFilters" 176 "StreamFilters$Link" "kind" "I" "StreamFilters", .fieldLinkNest "StreamFilters" 183 "StreamFilters$Link" "early" "I" "StreamFilters", .declares ⟨"StreamFilters$Unpacker", "unpack", "(LStreamFilters$Pass;I)V"⟩, .declares ⟨"java/lang/RuntimeException", "<init>", "()V"⟩, .declares ⟨"java/lang/RuntimeException", "<init>", "(Ljava/lang/String;)V"⟩, .declares ⟨"java/lang/Exception", "<init>", "()V"⟩, .declares ⟨"java/lang/Exception", "<init>", "(Ljava/lang/String;)V"⟩, .declares ⟨"java/lang/Throwable", "<init>", "()V"⟩, .declares ⟨"java/lang/Throwable", "<init>", "(Ljava/lang/String;)V"⟩]
def mNk : Cond → Bool
  | .fieldLinkNest .. => true
  | .methodLinkNest .. => true
  | .declares .. => true
  | .arrayOver (.object _) => true
  | _ => false
theorem mNest_k : ∀ w ∈ mNest, mNk w = true := by decide +kernel
theorem mNest_warm (w : Cond) (hw : w ∈ mNest) {s U : State} (hW : s.WarmedH U.vm) (h : va_Nw w s) : va_Nw w U := by
  have hk := mNest_k w hw
  clear hw
  unfold mNk at hk
  split at hk
  · exact va_Nw.warmF hW h
  · exact va_Nw.warmM hW h
  · exact va_Nw.warmD hW h
  · exact va_AO.moved hW.alike h
  · cases hk
theorem mNest_same (w : Cond) (hw : w ∈ mNest) {s U : State} (hvm : s.vm = U.vm) (h : va_Nw w s) : va_Nw w U := by
  have hk := mNest_k w hw
  clear hw
  unfold mNk at hk
  split at hk
  · exact va_Nw.same rfl hvm h
  · exact va_Nw.same rfl hvm h
  · exact va_Nw.same rfl hvm h
  · exact va_AO.moved (by rw [hvm]; exact Vm.Alike.refl _) h
  · cases hk
def mTys : List FieldType := [.byte, .int, .long, (.object "StreamFilters$Link")]
abbrev mSt : Type := String × String × String × FieldType × Nat × (Nat → Int32)
def mS0 : Nat → Int32 := fun k => ([16, 17, 18, 0, 8, 7, 9, 6, 10, 5, 11, 4, 12, 3, 13, 2, 14, 1, 15] : List Int32).getD k 0
def mS1 : Nat → Int32 := fun k => ([3, 4, 5, 6, 7, 8, 9, 10, 11, 13, 15, 17, 19, 23, 27, 31, 35, 43, 51, 59, 67, 83, 99, 115, 131, 163, 195, 227, 258] : List Int32).getD k 0
def mS2 : Nat → Int32 := fun k => ([0, 0, 0, 0, 0, 0, 0, 0, 1, 1, 1, 1, 2, 2, 2, 2, 3, 3, 3, 3, 4, 4, 4, 4, 5, 5, 5, 5, 0] : List Int32).getD k 0
def mS3 : Nat → Int32 := fun k => ([1, 2, 3, 4, 5, 7, 9, 13, 17, 25, 33, 49, 65, 97, 129, 193, 257, 385, 513, 769, 1025, 1537, 2049, 3073, 4097, 6145, 8193, 12289, 16385, 24577] : List Int32).getD k 0
def mS4 : Nat → Int32 := fun k => ([0, 0, 0, 0, 1, 1, 2, 2, 3, 3, 4, 4, 5, 5, 6, 6, 7, 7, 8, 8, 9, 9, 10, 10, 11, 11, 12, 12, 13, 13] : List Int32).getD k 0
def mSta : List mSt := [("StreamFilters$Flate", "ORDER", "[I", .int, 19, mS0), ("StreamFilters$Flate", "LENGTH_STARTS", "[I", .int, 29, mS1), ("StreamFilters$Flate", "LENGTH_BITS", "[I", .int, 29, mS2), ("StreamFilters$Flate", "DISTANCE_STARTS", "[I", .int, 30, mS3), ("StreamFilters$Flate", "DISTANCE_BITS", "[I", .int, 30, mS4)]
def mR (f c : Nat) : Room := { frames := f, cells := 0, slots := 0, locals := c }
def y_SF_init : MethodName := ⟨R_SF, "<init>", "()V"⟩
abbrev b_SF_init : ByteArray := prog_1_method_1_code
def y_SF_feed : MethodName := ⟨R_SF, "feed", "(IIIII)I"⟩
abbrev b_SF_feed : ByteArray := prog_1_method_2_code
def y_SF_put : MethodName := ⟨R_SF, "put", "(II)I"⟩
abbrev b_SF_put : ByteArray := prog_1_method_3_code
def y_SF_cut : MethodName := ⟨R_SF, "cut", "(I)I"⟩
abbrev b_SF_cut : ByteArray := prog_1_method_4_code
def y_SF_filter : MethodName := ⟨R_SF, "filter", "(II)I"⟩
abbrev b_SF_filter : ByteArray := prog_1_method_5_code
def y_SF_predict : MethodName := ⟨R_SF, "predict", "(IIII)V"⟩
abbrev b_SF_predict : ByteArray := prog_1_method_6_code
def y_SF_drop : MethodName := ⟨R_SF, "drop", "()I"⟩
abbrev b_SF_drop : ByteArray := prog_1_method_7_code
def y_SF_budget : MethodName := ⟨R_SF, "budget", "(I)I"⟩
abbrev b_SF_budget : ByteArray := prog_1_method_8_code
def y_SF_decode : MethodName := ⟨R_SF, "decode", "()I"⟩
abbrev b_SF_decode : ByteArray := prog_1_method_9_code
def y_SF_at : MethodName := ⟨R_SF, "at", "(I)I"⟩
abbrev b_SF_at : ByteArray := prog_1_method_10_code
def y_SF_fault : MethodName := ⟨R_SF, "fault", "(I)I"⟩
abbrev b_SF_fault : ByteArray := prog_1_method_11_code
def y_SF_keep : MethodName := ⟨R_SF, "keep", "()I"⟩
abbrev b_SF_keep : ByteArray := prog_1_method_12_code
def y_SF_isPredictor : MethodName := ⟨R_SF, "isPredictor", "(I)Z"⟩
abbrev b_SF_isPredictor : ByteArray := prog_1_method_13_code
def y_SF_isBits : MethodName := ⟨R_SF, "isBits", "(I)Z"⟩
abbrev b_SF_isBits : ByteArray := prog_1_method_14_code
def y_SF_noteFault : MethodName := ⟨R_SF, "noteFault", "(III)V"⟩
abbrev b_SF_noteFault : ByteArray := prog_1_method_15_code
def y_SF_unpackerOf : MethodName := ⟨R_SF, "unpackerOf", "(I)LStreamFilters$Unpacker;"⟩
abbrev b_SF_unpackerOf : ByteArray := prog_1_method_16_code
def y_Mo_init : MethodName := ⟨R_Mo, "<init>", "()V"⟩
abbrev b_Mo_init : ByteArray := prog_13_method_1_code
def y_Mo_refused : MethodName := ⟨R_Mo, "refused", "(I)Z"⟩
abbrev b_Mo_refused : ByteArray := prog_13_method_3_code
def y_Mo_isIn : MethodName := ⟨R_Mo, "isIn", "(III)Z"⟩
abbrev b_Mo_isIn : ByteArray := prog_13_method_4_code
def y_Mo_feed : MethodName := ⟨R_Mo, "feed", "(IIIII)I"⟩
abbrev b_Mo_feed : ByteArray := prog_13_method_5_code
def y_Mo_put : MethodName := ⟨R_Mo, "put", "(II)I"⟩
abbrev b_Mo_put : ByteArray := prog_13_method_6_code
def y_Mo_cut : MethodName := ⟨R_Mo, "cut", "(I)I"⟩
abbrev b_Mo_cut : ByteArray := prog_13_method_7_code
def y_Mo_filter : MethodName := ⟨R_Mo, "filter", "(II)I"⟩
abbrev b_Mo_filter : ByteArray := prog_13_method_8_code
def y_Mo_predict : MethodName := ⟨R_Mo, "predict", "(IIII)V"⟩
abbrev b_Mo_predict : ByteArray := prog_13_method_9_code
def y_Mo_drop : MethodName := ⟨R_Mo, "drop", "()I"⟩
abbrev b_Mo_drop : ByteArray := prog_13_method_10_code
def y_Mo_budget : MethodName := ⟨R_Mo, "budget", "(I)I"⟩
abbrev b_Mo_budget : ByteArray := prog_13_method_11_code
def y_Mo_fail : MethodName := ⟨R_Mo, "fail", "(I)V"⟩
abbrev b_Mo_fail : ByteArray := prog_13_method_12_code
def y_Mo_isGood : MethodName := ⟨R_Mo, "isGood", "()Z"⟩
abbrev b_Mo_isGood : ByteArray := prog_13_method_13_code
def y_Mo_next : MethodName := ⟨R_Mo, "next", "()I"⟩
abbrev b_Mo_next : ByteArray := prog_13_method_14_code
def y_Mo_give : MethodName := ⟨R_Mo, "give", "(I)V"⟩
abbrev b_Mo_give : ByteArray := prog_13_method_15_code
def y_Mo_bit : MethodName := ⟨R_Mo, "bit", "()I"⟩
abbrev b_Mo_bit : ByteArray := prog_13_method_16_code
def y_Mo_number : MethodName := ⟨R_Mo, "number", "(I)I"⟩
abbrev b_Mo_number : ByteArray := prog_13_method_17_code
def y_Mo_makeCodes : MethodName := ⟨R_Mo, "makeCodes", "(II)V"⟩
abbrev b_Mo_makeCodes : ByteArray := prog_13_method_18_code
def y_Mo_isWhole : MethodName := ⟨R_Mo, "isWhole", "(IIZ)Z"⟩
abbrev b_Mo_isWhole : ByteArray := prog_13_method_19_code
def y_Mo_symbol : MethodName := ⟨R_Mo, "symbol", "(II)I"⟩
abbrev b_Mo_symbol : ByteArray := prog_13_method_20_code
def y_Mo_fixCodes : MethodName := ⟨R_Mo, "fixCodes", "()V"⟩
abbrev b_Mo_fixCodes : ByteArray := prog_13_method_21_code
def y_Mo_orderOf : MethodName := ⟨R_Mo, "orderOf", "(I)I"⟩
abbrev b_Mo_orderOf : ByteArray := prog_13_method_22_code
def y_Mo_readCodes : MethodName := ⟨R_Mo, "readCodes", "()V"⟩
abbrev b_Mo_readCodes : ByteArray := prog_13_method_23_code
def y_Mo_readLengths : MethodName := ⟨R_Mo, "readLengths", "(II)V"⟩
abbrev b_Mo_readLengths : ByteArray := prog_13_method_24_code
def y_Mo_lengthOf : MethodName := ⟨R_Mo, "lengthOf", "(I)I"⟩
abbrev b_Mo_lengthOf : ByteArray := prog_13_method_25_code
def y_Mo_lengthBits : MethodName := ⟨R_Mo, "lengthBits", "(I)I"⟩
abbrev b_Mo_lengthBits : ByteArray := prog_13_method_26_code
def y_Mo_distanceBits : MethodName := ⟨R_Mo, "distanceBits", "(I)I"⟩
abbrev b_Mo_distanceBits : ByteArray := prog_13_method_27_code
def y_Mo_distanceOf : MethodName := ⟨R_Mo, "distanceOf", "(I)I"⟩
abbrev b_Mo_distanceOf : ByteArray := prog_13_method_28_code
def y_Mo_match : MethodName := ⟨R_Mo, "match", "(I)V"⟩
abbrev b_Mo_match : ByteArray := prog_13_method_29_code
def y_Mo_coded : MethodName := ⟨R_Mo, "coded", "()V"⟩
abbrev b_Mo_coded : ByteArray := prog_13_method_30_code
def y_Mo_stored : MethodName := ⟨R_Mo, "stored", "()V"⟩
abbrev b_Mo_stored : ByteArray := prog_13_method_31_code
def y_Mo_flate : MethodName := ⟨R_Mo, "flate", "()V"⟩
abbrev b_Mo_flate : ByteArray := prog_13_method_32_code
def y_Mo_block : MethodName := ⟨R_Mo, "block", "(I)V"⟩
abbrev b_Mo_block : ByteArray := prog_13_method_33_code
def y_Mo_check : MethodName := ⟨R_Mo, "check", "()J"⟩
abbrev b_Mo_check : ByteArray := prog_13_method_34_code
def y_Mo_wideCode : MethodName := ⟨R_Mo, "wideCode", "(I)I"⟩
abbrev b_Mo_wideCode : ByteArray := prog_13_method_35_code
def y_Mo_firstOf : MethodName := ⟨R_Mo, "firstOf", "(I)I"⟩
abbrev b_Mo_firstOf : ByteArray := prog_13_method_36_code
def y_Mo_byteOf : MethodName := ⟨R_Mo, "byteOf", "(II)I"⟩
abbrev b_Mo_byteOf : ByteArray := prog_13_method_37_code
def y_Mo_widthOf : MethodName := ⟨R_Mo, "widthOf", "(I)I"⟩
abbrev b_Mo_widthOf : ByteArray := prog_13_method_38_code
def y_Mo_lzw : MethodName := ⟨R_Mo, "lzw", "(I)V"⟩
abbrev b_Mo_lzw : ByteArray := prog_13_method_39_code
def y_Mo_isWhite : MethodName := ⟨R_Mo, "isWhite", "(I)Z"⟩
abbrev b_Mo_isWhite : ByteArray := prog_13_method_40_code
def y_Mo_giveWord : MethodName := ⟨R_Mo, "giveWord", "(JI)V"⟩
abbrev b_Mo_giveWord : ByteArray := prog_13_method_41_code
def y_Mo_text85 : MethodName := ⟨R_Mo, "text85", "()V"⟩
abbrev b_Mo_text85 : ByteArray := prog_13_method_42_code
def y_Mo_digit : MethodName := ⟨R_Mo, "digit", "(I)I"⟩
abbrev b_Mo_digit : ByteArray := prog_13_method_43_code
def y_Mo_hexadecimal : MethodName := ⟨R_Mo, "hexadecimal", "()V"⟩
abbrev b_Mo_hexadecimal : ByteArray := prog_13_method_44_code
def y_Mo_runs : MethodName := ⟨R_Mo, "runs", "()V"⟩
abbrev b_Mo_runs : ByteArray := prog_13_method_45_code
def y_Mo_bitAt : MethodName := ⟨R_Mo, "bitAt", "(II)I"⟩
abbrev b_Mo_bitAt : ByteArray := prog_13_method_46_code
def y_Mo_numberAt : MethodName := ⟨R_Mo, "numberAt", "(III)I"⟩
abbrev b_Mo_numberAt : ByteArray := prog_13_method_47_code
def y_Mo_setNumber : MethodName := ⟨R_Mo, "setNumber", "(IIII)V"⟩
abbrev b_Mo_setNumber : ByteArray := prog_13_method_48_code
def y_Mo_rowBytes : MethodName := ⟨R_Mo, "rowBytes", "(I)I"⟩
abbrev b_Mo_rowBytes : ByteArray := prog_13_method_49_code
def y_Mo_addRows : MethodName := ⟨R_Mo, "addRows", "(I)V"⟩
abbrev b_Mo_addRows : ByteArray := prog_13_method_50_code
def y_Mo_far : MethodName := ⟨R_Mo, "far", "(II)I"⟩
abbrev b_Mo_far : ByteArray := prog_13_method_51_code
def y_Mo_nearest : MethodName := ⟨R_Mo, "nearest", "(III)I"⟩
abbrev b_Mo_nearest : ByteArray := prog_13_method_52_code
def y_Mo_added : MethodName := ⟨R_Mo, "added", "(IIII)I"⟩
abbrev b_Mo_added : ByteArray := prog_13_method_53_code
def y_Mo_undoRows : MethodName := ⟨R_Mo, "undoRows", "(I)Z"⟩
abbrev b_Mo_undoRows : ByteArray := prog_13_method_54_code
def y_Mo_run : MethodName := ⟨R_Mo, "run", "(I)V"⟩
abbrev b_Mo_run : ByteArray := prog_13_method_55_code
def y_Mo_decode : MethodName := ⟨R_Mo, "decode", "()I"⟩
abbrev b_Mo_decode : ByteArray := prog_13_method_56_code
def y_Mo_at : MethodName := ⟨R_Mo, "at", "(I)I"⟩
abbrev b_Mo_at : ByteArray := prog_13_method_57_code
def y_Mo_fault : MethodName := ⟨R_Mo, "fault", "(I)I"⟩
abbrev b_Mo_fault : ByteArray := prog_13_method_58_code
def y_Mo_keep : MethodName := ⟨R_Mo, "keep", "()I"⟩
abbrev b_Mo_keep : ByteArray := prog_13_method_59_code
def y_By_init : MethodName := ⟨R_By, "<init>", "(I)V"⟩
abbrev b_By_init : ByteArray := prog_2_method_1_code
def y_By_byteAt : MethodName := ⟨R_By, "byteAt", "(I)I"⟩
abbrev b_By_byteAt : ByteArray := prog_2_method_2_code
def y_By_change : MethodName := ⟨R_By, "change", "(II)V"⟩
abbrev b_By_change : ByteArray := prog_2_method_3_code
def y_By_add : MethodName := ⟨R_By, "add", "(I)V"⟩
abbrev b_By_add : ByteArray := prog_2_method_4_code
def y_By_addFour : MethodName := ⟨R_By, "addFour", "(I)V"⟩
abbrev b_By_addFour : ByteArray := prog_2_method_5_code
def y_By_become : MethodName := ⟨R_By, "become", "(LStreamFilters$Bytes;)V"⟩
abbrev b_By_become : ByteArray := prog_2_method_6_code
def y_Co_init : MethodName := ⟨R_Co, "<init>", "(I)V"⟩
abbrev b_Co_init : ByteArray := prog_3_method_1_code
def y_Co_build : MethodName := ⟨R_Co, "build", "([III)V"⟩
abbrev b_Co_build : ByteArray := prog_3_method_2_code
def y_Co_count : MethodName := ⟨R_Co, "count", "([III)V"⟩
abbrev b_Co_count : ByteArray := prog_3_method_3_code
def y_Co_isLength : MethodName := ⟨R_Co, "isLength", "(I)Z"⟩
abbrev b_Co_isLength : ByteArray := prog_3_method_4_code
def y_Co_isEmpty : MethodName := ⟨R_Co, "isEmpty", "()Z"⟩
abbrev b_Co_isEmpty : ByteArray := prog_3_method_5_code
def y_Co_isGood : MethodName := ⟨R_Co, "isGood", "()Z"⟩
abbrev b_Co_isGood : ByteArray := prog_3_method_6_code
def y_Co_read : MethodName := ⟨R_Co, "read", "(LStreamFilters$Pass;)I"⟩
abbrev b_Co_read : ByteArray := prog_3_method_7_code
def y_Fl_init : MethodName := ⟨R_Fl, "<init>", "()V"⟩
abbrev b_Fl_init : ByteArray := prog_4_method_1_code
def y_Fl_unpack : MethodName := ⟨R_Fl, "unpack", "(LStreamFilters$Pass;I)V"⟩
abbrev b_Fl_unpack : ByteArray := prog_4_method_2_code
def y_Fl_readHeader : MethodName := ⟨R_Fl, "readHeader", "(LStreamFilters$Pass;)Z"⟩
abbrev b_Fl_readHeader : ByteArray := prog_4_method_3_code
def y_Fl_unpackStored : MethodName := ⟨R_Fl, "unpackStored", "(LStreamFilters$Pass;)Z"⟩
abbrev b_Fl_unpackStored : ByteArray := prog_4_method_4_code
def y_Fl_readShort : MethodName := ⟨R_Fl, "readShort", "(LStreamFilters$Pass;)I"⟩
abbrev b_Fl_readShort : ByteArray := prog_4_method_5_code
def y_Fl_readCodes : MethodName := ⟨R_Fl, "readCodes", "(LStreamFilters$Pass;)Z"⟩
abbrev b_Fl_readCodes : ByteArray := prog_4_method_6_code
def y_Fl_readLengthCodes : MethodName := ⟨R_Fl, "readLengthCodes", "(LStreamFilters$Pass;I)Z"⟩
abbrev b_Fl_readLengthCodes : ByteArray := prog_4_method_7_code
def y_Fl_readLengths : MethodName := ⟨R_Fl, "readLengths", "(LStreamFilters$Pass;I)Z"⟩
abbrev b_Fl_readLengths : ByteArray := prog_4_method_8_code
def y_Fl_readTimes : MethodName := ⟨R_Fl, "readTimes", "(LStreamFilters$Pass;I)I"⟩
abbrev b_Fl_readTimes : ByteArray := prog_4_method_9_code
def y_Fl_unpackCodes : MethodName := ⟨R_Fl, "unpackCodes", "(LStreamFilters$Pass;LStreamFilters$Codes;LStreamFilters$Codes;)Z"⟩
abbrev b_Fl_unpackCodes : ByteArray := prog_4_method_10_code
def y_Fl_copy : MethodName := ⟨R_Fl, "copy", "(LStreamFilters$Pass;ILStreamFilters$Codes;)Z"⟩
abbrev b_Fl_copy : ByteArray := prog_4_method_11_code
def y_Fl_readDistance : MethodName := ⟨R_Fl, "readDistance", "(LStreamFilters$Pass;LStreamFilters$Codes;)I"⟩
abbrev b_Fl_readDistance : ByteArray := prog_4_method_12_code
def y_Fl_compareCheck : MethodName := ⟨R_Fl, "compareCheck", "(LStreamFilters$Pass;)V"⟩
abbrev b_Fl_compareCheck : ByteArray := prog_4_method_13_code
def y_Fl_checkOf : MethodName := ⟨R_Fl, "checkOf", "(LStreamFilters$Bytes;)J"⟩
abbrev b_Fl_checkOf : ByteArray := prog_4_method_14_code
def y_Hx_init : MethodName := ⟨R_Hx, "<init>", "()V"⟩
abbrev b_Hx_init : ByteArray := prog_5_method_1_code
def y_Hx_unpack : MethodName := ⟨R_Hx, "unpack", "(LStreamFilters$Pass;I)V"⟩
abbrev b_Hx_unpack : ByteArray := prog_5_method_2_code
def y_Hx_digitOf : MethodName := ⟨R_Hx, "digitOf", "(I)I"⟩
abbrev b_Hx_digitOf : ByteArray := prog_5_method_3_code
def y_Le_init : MethodName := ⟨R_Le, "<init>", "()V"⟩
abbrev b_Le_init : ByteArray := prog_6_method_1_code
def y_Le_unpack : MethodName := ⟨R_Le, "unpack", "(LStreamFilters$Pass;I)V"⟩
abbrev b_Le_unpack : ByteArray := prog_6_method_2_code
def y_Le_giveRun : MethodName := ⟨R_Le, "giveRun", "(LStreamFilters$Pass;I)Z"⟩
abbrev b_Le_giveRun : ByteArray := prog_6_method_3_code
def y_Li_init : MethodName := ⟨R_Li, "<init>", "()V"⟩
abbrev b_Li_init : ByteArray := prog_7_method_1_code
def y_Li_begin : MethodName := ⟨R_Li, "begin", "(II)V"⟩
abbrev b_Li_begin : ByteArray := prog_7_method_2_code
def y_Li_shape : MethodName := ⟨R_Li, "shape", "(IIII)V"⟩
abbrev b_Li_shape : ByteArray := prog_7_method_3_code
def y_Li_undo : MethodName := ⟨R_Li, "undo", "(LStreamFilters$Bytes;)Z"⟩
abbrev b_Li_undo : ByteArray := prog_7_method_4_code
def y_Li_rowSize : MethodName := ⟨R_Li, "rowSize", "()I"⟩
abbrev b_Li_rowSize : ByteArray := prog_7_method_5_code
def y_Li_undoNumbers : MethodName := ⟨R_Li, "undoNumbers", "(LStreamFilters$Bytes;)V"⟩
abbrev b_Li_undoNumbers : ByteArray := prog_7_method_6_code
def y_Li_numberAt : MethodName := ⟨R_Li, "numberAt", "(LStreamFilters$Bytes;II)I"⟩
abbrev b_Li_numberAt : ByteArray := prog_7_method_7_code
def y_Li_setNumber : MethodName := ⟨R_Li, "setNumber", "(LStreamFilters$Bytes;III)V"⟩
abbrev b_Li_setNumber : ByteArray := prog_7_method_8_code
def y_Li_shiftOf : MethodName := ⟨R_Li, "shiftOf", "(I)I"⟩
abbrev b_Li_shiftOf : ByteArray := prog_7_method_9_code
def y_Li_mask : MethodName := ⟨R_Li, "mask", "()I"⟩
abbrev b_Li_mask : ByteArray := prog_7_method_10_code
def y_Li_undoTags : MethodName := ⟨R_Li, "undoTags", "(LStreamFilters$Bytes;)Z"⟩
abbrev b_Li_undoTags : ByteArray := prog_7_method_11_code
def y_Li_undoRow : MethodName := ⟨R_Li, "undoRow", "(LStreamFilters$Bytes;IIII)V"⟩
abbrev b_Li_undoRow : ByteArray := prog_7_method_12_code
def y_Li_guessOf : MethodName := ⟨R_Li, "guessOf", "(IIII)I"⟩
abbrev b_Li_guessOf : ByteArray := prog_7_method_13_code
def y_Li_nearest : MethodName := ⟨R_Li, "nearest", "(III)I"⟩
abbrev b_Li_nearest : ByteArray := prog_7_method_14_code
def y_Lz_init : MethodName := ⟨R_Lz, "<init>", "()V"⟩
abbrev b_Lz_init : ByteArray := prog_8_method_1_code
def y_Lz_unpack : MethodName := ⟨R_Lz, "unpack", "(LStreamFilters$Pass;I)V"⟩
abbrev b_Lz_unpack : ByteArray := prog_8_method_2_code
def y_Lz_clear : MethodName := ⟨R_Lz, "clear", "()V"⟩
abbrev b_Lz_clear : ByteArray := prog_8_method_3_code
def y_Lz_widthFor : MethodName := ⟨R_Lz, "widthFor", "(I)I"⟩
abbrev b_Lz_widthFor : ByteArray := prog_8_method_4_code
def y_Lz_giveString : MethodName := ⟨R_Lz, "giveString", "(LStreamFilters$Pass;I)Z"⟩
abbrev b_Lz_giveString : ByteArray := prog_8_method_5_code
def y_Lz_sizeOf : MethodName := ⟨R_Lz, "sizeOf", "(I)I"⟩
abbrev b_Lz_sizeOf : ByteArray := prog_8_method_6_code
def y_Lz_startOf : MethodName := ⟨R_Lz, "startOf", "(I)I"⟩
abbrev b_Lz_startOf : ByteArray := prog_8_method_7_code
def y_Lz_makeString : MethodName := ⟨R_Lz, "makeString", "()V"⟩
abbrev b_Lz_makeString : ByteArray := prog_8_method_8_code
def y_Pa_init : MethodName := ⟨R_Pa, "<init>", "()V"⟩
abbrev b_Pa_init : ByteArray := prog_9_method_1_code
def y_Pa_begin : MethodName := ⟨R_Pa, "begin", "(LStreamFilters$Bytes;LStreamFilters$Bytes;)V"⟩
abbrev b_Pa_begin : ByteArray := prog_9_method_2_code
def y_Pa_fail : MethodName := ⟨R_Pa, "fail", "(I)Z"⟩
abbrev b_Pa_fail : ByteArray := prog_9_method_3_code
def y_Pa_nextByte : MethodName := ⟨R_Pa, "nextByte", "()I"⟩
abbrev b_Pa_nextByte : ByteArray := prog_9_method_4_code
def y_Pa_nextSign : MethodName := ⟨R_Pa, "nextSign", "()I"⟩
abbrev b_Pa_nextSign : ByteArray := prog_9_method_5_code
def y_Pa_isBlank : MethodName := ⟨R_Pa, "isBlank", "(I)Z"⟩
abbrev b_Pa_isBlank : ByteArray := prog_9_method_6_code
def y_Pa_nextBit : MethodName := ⟨R_Pa, "nextBit", "(Z)I"⟩
abbrev b_Pa_nextBit : ByteArray := prog_9_method_7_code
def y_Pa_lowNumber : MethodName := ⟨R_Pa, "lowNumber", "(I)I"⟩
abbrev b_Pa_lowNumber : ByteArray := prog_9_method_8_code
def y_Pa_highNumber : MethodName := ⟨R_Pa, "highNumber", "(I)I"⟩
abbrev b_Pa_highNumber : ByteArray := prog_9_method_9_code
def y_Pa_give : MethodName := ⟨R_Pa, "give", "(I)Z"⟩
abbrev b_Pa_give : ByteArray := prog_9_method_10_code
def y_Pa_giveTimes : MethodName := ⟨R_Pa, "giveTimes", "(II)Z"⟩
abbrev b_Pa_giveTimes : ByteArray := prog_9_method_11_code
def y_Pa_giveAgain : MethodName := ⟨R_Pa, "giveAgain", "(II)Z"⟩
abbrev b_Pa_giveAgain : ByteArray := prog_9_method_12_code
def y_Pa_giveAsTheyAre : MethodName := ⟨R_Pa, "giveAsTheyAre", "(I)Z"⟩
abbrev b_Pa_giveAsTheyAre : ByteArray := prog_9_method_13_code
def y_T8_init : MethodName := ⟨R_T8, "<init>", "()V"⟩
abbrev b_T8_init : ByteArray := prog_10_method_1_code
def y_T8_unpack : MethodName := ⟨R_T8, "unpack", "(LStreamFilters$Pass;I)V"⟩
abbrev b_T8_unpack : ByteArray := prog_10_method_2_code
def y_T8_addDigit : MethodName := ⟨R_T8, "addDigit", "(I)V"⟩
abbrev b_T8_addDigit : ByteArray := prog_10_method_3_code
def y_T8_giveNumber : MethodName := ⟨R_T8, "giveNumber", "(LStreamFilters$Pass;I)Z"⟩
abbrev b_T8_giveNumber : ByteArray := prog_10_method_4_code
def y_T8_finish : MethodName := ⟨R_T8, "finish", "(LStreamFilters$Pass;)V"⟩
abbrev b_T8_finish : ByteArray := prog_10_method_5_code
def y_Un_init : MethodName := ⟨R_Un, "<init>", "()V"⟩
abbrev b_Un_init : ByteArray := prog_11_method_1_code
def y_La_put : MethodName := ⟨R_La, "put", "(LStreamFilters;II[J)I"⟩
abbrev b_La_put : ByteArray := method_3_code
def y_La_cut : MethodName := ⟨R_La, "cut", "(LStreamFilters;I[J)I"⟩
abbrev b_La_cut : ByteArray := method_4_code
def y_La_filter : MethodName := ⟨R_La, "filter", "(LStreamFilters;II[J)I"⟩
abbrev b_La_filter : ByteArray := method_5_code
def y_La_predict : MethodName := ⟨R_La, "predict", "(LStreamFilters;IIII)I"⟩
abbrev b_La_predict : ByteArray := method_6_code
def y_La_budget : MethodName := ⟨R_La, "budget", "(LStreamFilters;I[J)I"⟩
abbrev b_La_budget : ByteArray := method_7_code
def y_La_keep : MethodName := ⟨R_La, "keep", "(LStreamFilters;[J)I"⟩
abbrev b_La_keep : ByteArray := method_8_code
def y_La_law : MethodName := ⟨R_La, "law", "([I)Z"⟩
theorem wmax_1 : Cond.static Lib.Math.max.name ∈ mGood := mg_of (i := 93) (by decide +kernel) rfl
theorem wmath : Cond.initialized "java/lang/Math" ∈ mGood := mg_of (i := 60) (by decide +kernel) rfl
theorem wmin_1 : Cond.static Lib.Math.min.name ∈ mGood := mg_of (i := 368) (by decide +kernel) rfl
theorem wabs_1 : Cond.static Lib.Math.abs.name ∈ mGood := mg_of (i := 628) (by decide +kernel) rfl
theorem wcopy_1 : Cond.native arraycopyName ∈ mGood := mg_of (i := 372) (by decide +kernel) rfl
theorem wcopy_2 : Cond.static arraycopyName ∈ mGood := mg_of (i := 371) (by decide +kernel) rfl
theorem wsystem : Cond.initialized "java/lang/System" ∈ mGood := mg_of (i := 77) (by decide +kernel) rfl
theorem wobj_1 : Cond.instanceMethod Lib.objectInit ∈ mGood := mg_of (i := 84) (by decide +kernel) rfl
theorem wobj_2 : Cond.code Lib.objectInit ⟨#[0xb1]⟩ 1 none ∈ mGood := mg_of (i := 85) (by decide +kernel) rfl
theorem wmax_2 : Cond.code Lib.Math.max.name Lib.Math.max.code 2 (some .int) ∈ mGood := mg_of (i := 94) (by decide +kernel) rfl
theorem wmin_2 : Cond.code Lib.Math.min.name Lib.Math.min.code 2 (some .int) ∈ mGood := mg_of (i := 369) (by decide +kernel) rfl
theorem wabs_2 : Cond.code Lib.Math.abs.name Lib.Math.abs.code 1 (some .int) ∈ mGood := mg_of (i := 629) (by decide +kernel) rfl
