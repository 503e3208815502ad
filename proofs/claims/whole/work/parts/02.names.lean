/-! NAMES: the classes, their fields, the methods, the words of the tables by their places (written by wip/whole/mknames.py out of the claim's listing) -/
def aw_tw : List Cond := lw_tbl.filter goodWord
theorem aw_tw_good : aw_tw.all goodWord = true := List.all_eq_true.mpr (fun w h => (List.mem_filter.mp h).2)
theorem aw_tw_in : ∀ w ∈ aw_tw, w ∈ lw_tbl := fun w h => (List.mem_filter.mp h).1
theorem aw_in0 {q : MethodName × Nat} (h : q ∈ lw_privs) (hg : goodWord (Cond.selects q.1.cls q.1 q.1) = true) : Cond.selects q.1.cls q.1 q.1 ∈ aw_tw := List.mem_filter.mpr ⟨List.mem_append_left _ (List.mem_map.mpr ⟨q, h, rfl⟩), hg⟩
theorem aw_in1 {w : Cond} (h : w ∈ tables_1_1) (hg : goodWord w = true) : w ∈ aw_tw := List.mem_filter.mpr ⟨List.mem_append_right _ (List.mem_append_left _ h), hg⟩
theorem aw_in2 {w : Cond} (h : w ∈ tables_1_2) (hg : goodWord w = true) : w ∈ aw_tw := List.mem_filter.mpr ⟨List.mem_append_right _ (List.mem_append_right _ (List.mem_append_left _ h)), hg⟩
theorem aw_in3 {w : Cond} (h : w ∈ tables_1_3) (hg : goodWord w = true) : w ∈ aw_tw := List.mem_filter.mpr ⟨List.mem_append_right _ (List.mem_append_right _ (List.mem_append_right _ (List.mem_append_left _ h))), hg⟩
theorem aw_in4 {w : Cond} (h : w ∈ tables_1_4) (hg : goodWord w = true) : w ∈ aw_tw := List.mem_filter.mpr ⟨List.mem_append_right _ (List.mem_append_right _ (List.mem_append_right _ (List.mem_append_right _ (List.mem_append_left _ h)))), hg⟩
theorem aw_in5 {w : Cond} (h : w ∈ tables_1_5) (hg : goodWord w = true) : w ∈ aw_tw := List.mem_filter.mpr ⟨List.mem_append_right _ (List.mem_append_right _ (List.mem_append_right _ (List.mem_append_right _ (List.mem_append_right _ h)))), hg⟩
def aw_c2 : String := "AddressTerms$Term"
def aw_c3 : String := "AddressTerms$Prefix"
def T_Px : u_T := fun k => match k with
  | 0 => ("AddressTerms$Prefix", "name", "LAddressTerms$Row;", true)
  | _ => ("AddressTerms$Prefix", "address", "LAddressTerms$Row;", false)
def t_Px : Nat → FieldType := fun k => match k with
  | 0 => .object "AddressTerms$Row"
  | _ => .object "AddressTerms$Row"
def T_Rf : u_T := fun k => match k with
  | 0 => ("AddressTerms$Reference", "begins", "[I", true)
  | 1 => ("AddressTerms$Reference", "ends", "[I", true)
  | _ => ("AddressTerms$Reference", "row", "LAddressTerms$Row;", false)
def t_Rf : Nat → FieldType := fun k => match k with
  | 0 => .array .int
  | 1 => .array .int
  | _ => .object "AddressTerms$Row"
def T_Rs : u_T := fun k => match k with
  | _ => ("AddressTerms$Resolver", "path", "LAddressTerms$Row;", true)
def t_Rs : Nat → FieldType := fun k => match k with
  | _ => .object "AddressTerms$Row"
def T_Rw : u_T := fun k => match k with
  | 0 => ("AddressTerms$Row", "bytes", "[B", true)
  | _ => ("AddressTerms$Row", "length", "I", false)
def t_Rw : Nat → FieldType := fun k => match k with
  | 0 => .array .byte
  | _ => .int
def T_Tm : u_T := fun k => match k with
  | 0 => ("AddressTerms$Term", "text", "LAddressTerms$Row;", true)
  | 1 => ("AddressTerms$Term", "tag", "LAddressTerms$Row;", true)
  | 2 => ("AddressTerms$Term", "kind", "I", false)
  | 3 => ("AddressTerms$Term", "sort", "I", false)
  | _ => ("AddressTerms$Term", "number", "I", false)
def t_Tm : Nat → FieldType := fun k => match k with
  | 0 => .object "AddressTerms$Row"
  | 1 => .object "AddressTerms$Row"
  | 2 => .int
  | 3 => .int
  | _ => .int
def T_At : u_T := fun k => match k with
  | 0 => ("AddressTerms", "tape", "LAddressTerms$Row;", true)
  | 1 => ("AddressTerms", "printed", "LAddressTerms$Row;", true)
  | 2 => ("AddressTerms", "terms", "[LAddressTerms$Term;", true)
  | 3 => ("AddressTerms", "prefixes", "[LAddressTerms$Prefix;", true)
  | 4 => ("AddressTerms", "wanted", "LAddressTerms$Term;", true)
  | 5 => ("AddressTerms", "given", "LAddressTerms$Reference;", true)
  | 6 => ("AddressTerms", "known", "LAddressTerms$Reference;", true)
  | 7 => ("AddressTerms", "resolver", "LAddressTerms$Resolver;", true)
  | 8 => ("AddressTerms", "termCount", "I", false)
  | 9 => ("AddressTerms", "prefixCount", "I", false)
  | _ => ("AddressTerms", "baseTerm", "I", false)
def t_At : Nat → FieldType := fun k => match k with
  | 0 => .object "AddressTerms$Row"
  | 1 => .object "AddressTerms$Row"
  | 2 => .array (.object "AddressTerms$Term")
  | 3 => .array (.object "AddressTerms$Prefix")
  | 4 => .object "AddressTerms$Term"
  | 5 => .object "AddressTerms$Reference"
  | 6 => .object "AddressTerms$Reference"
  | 7 => .object "AddressTerms$Resolver"
  | 8 => .int
  | 9 => .int
  | _ => .int
def T_Md : u_T := fun k => match k with
  | 0 => ("AddressTermsModel", "tapeMany", "I", false)
  | 1 => ("AddressTermsModel", "tape", "[I", true)
  | 2 => ("AddressTermsModel", "terms", "I", false)
  | 3 => ("AddressTermsModel", "kinds", "[I", true)
  | 4 => ("AddressTermsModel", "numbers", "[I", true)
  | 5 => ("AddressTermsModel", "sizes", "[I", true)
  | 6 => ("AddressTermsModel", "bytes", "[I", true)
  | 7 => ("AddressTermsModel", "tagSizes", "[I", true)
  | 8 => ("AddressTermsModel", "tags", "[I", true)
  | 9 => ("AddressTermsModel", "base", "I", false)
  | 10 => ("AddressTermsModel", "prefixes", "I", false)
  | 11 => ("AddressTermsModel", "nameSizes", "[I", true)
  | 12 => ("AddressTermsModel", "names", "[I", true)
  | 13 => ("AddressTermsModel", "addresses", "[I", true)
  | 14 => ("AddressTermsModel", "made", "I", false)
  | 15 => ("AddressTermsModel", "row", "[I", true)
  | 16 => ("AddressTermsModel", "madeTag", "I", false)
  | 17 => ("AddressTermsModel", "tag", "[I", true)
  | 18 => ("AddressTermsModel", "printedMany", "I", false)
  | 19 => ("AddressTermsModel", "printed", "[I", true)
  | 20 => ("AddressTermsModel", "refMany", "I", false)
  | 21 => ("AddressTermsModel", "ref", "[I", true)
  | 22 => ("AddressTermsModel", "froms", "[I", true)
  | 23 => ("AddressTermsModel", "tos", "[I", true)
  | 24 => ("AddressTermsModel", "baseFroms", "[I", true)
  | 25 => ("AddressTermsModel", "baseTos", "[I", true)
  | 26 => ("AddressTermsModel", "inMany", "I", false)
  | 27 => ("AddressTermsModel", "in", "[I", true)
  | 28 => ("AddressTermsModel", "outMany", "I", false)
  | _ => ("AddressTermsModel", "out", "[I", true)
def t_Md : Nat → FieldType := fun k => match k with
  | 0 => .int
  | 1 => .array .int
  | 2 => .int
  | 3 => .array .int
  | 4 => .array .int
  | 5 => .array .int
  | 6 => .array .int
  | 7 => .array .int
  | 8 => .array .int
  | 9 => .int
  | 10 => .int
  | 11 => .array .int
  | 12 => .array .int
  | 13 => .array .int
  | 14 => .int
  | 15 => .array .int
  | 16 => .int
  | 17 => .array .int
  | 18 => .int
  | 19 => .array .int
  | 20 => .int
  | 21 => .array .int
  | 22 => .array .int
  | 23 => .array .int
  | 24 => .array .int
  | 25 => .array .int
  | 26 => .int
  | 27 => .array .int
  | 28 => .int
  | _ => .array .int
abbrev vwCl : List vw_C := [("AddressTerms$Prefix", T_Px, 2), ("AddressTerms$Reference", T_Rf, 3), ("AddressTerms$Resolver", T_Rs, 1), ("AddressTerms$Row", T_Rw, 2), ("AddressTerms$Term", T_Tm, 5), ("AddressTerms", T_At, 11), ("AddressTermsModel", T_Md, 30)]
abbrev c_At_init : ByteArray := prog_1_method_1_code
def y_At_init : MethodName := ⟨"AddressTerms", "<init>", "()V"⟩
abbrev c_Jo_init : ByteArray := object_method_1_code
def y_Jo_init : MethodName := ⟨"java/lang/Object", "<init>", "()V"⟩
abbrev c_Rw_init : ByteArray := prog_5_method_1_code
def y_Rw_init : MethodName := ⟨"AddressTerms$Row", "<init>", "(I)V"⟩
abbrev c_Jm_max : ByteArray := prog_10_method_65_code
def y_Jm_max : MethodName := ⟨"java/lang/Math", "max", "(II)I"⟩
abbrev c_Tm_init : ByteArray := prog_6_method_1_code
def y_Tm_init : MethodName := ⟨"AddressTerms$Term", "<init>", "(II)V"⟩
abbrev c_Rf_init : ByteArray := prog_3_method_1_code
def y_Rf_init : MethodName := ⟨"AddressTerms$Reference", "<init>", "()V"⟩
abbrev c_Rs_init : ByteArray := prog_4_method_1_code
def y_Rs_init : MethodName := ⟨"AddressTerms$Resolver", "<init>", "()V"⟩
abbrev c_At_type : ByteArray := prog_1_method_2_code
def y_At_type : MethodName := ⟨"AddressTerms", "type", "(JI)I"⟩
abbrev c_At_byteOf : ByteArray := prog_1_method_30_code
def y_At_byteOf : MethodName := ⟨"AddressTerms", "byteOf", "(JI)I"⟩
abbrev c_At_isTapeByte : ByteArray := prog_1_method_31_code
def y_At_isTapeByte : MethodName := ⟨"AddressTerms", "isTapeByte", "(I)Z"⟩
abbrev c_Rw_size : ByteArray := prog_5_method_2_code
def y_Rw_size : MethodName := ⟨"AddressTerms$Row", "size", "()I"⟩
abbrev c_Rw_add : ByteArray := prog_5_method_4_code
def y_Rw_add : MethodName := ⟨"AddressTerms$Row", "add", "(I)V"⟩
abbrev c_At_resolve : ByteArray := prog_1_method_3_code
def y_At_resolve : MethodName := ⟨"AddressTerms", "resolve", "()I"⟩
abbrev c_At_addressOnTape : ByteArray := prog_1_method_21_code
def y_At_addressOnTape : MethodName := ⟨"AddressTerms", "addressOnTape", "()I"⟩
abbrev c_At_wrongInReference : ByteArray := prog_1_method_41_code
def y_At_wrongInReference : MethodName := ⟨"AddressTerms", "wrongInReference", "(LAddressTerms$Row;)I"⟩
abbrev c_Rw_byteAt : ByteArray := prog_5_method_3_code
def y_Rw_byteAt : MethodName := ⟨"AddressTerms$Row", "byteAt", "(I)I"⟩
abbrev c_At_isReferenceByte : ByteArray := prog_1_method_33_code
def y_At_isReferenceByte : MethodName := ⟨"AddressTerms", "isReferenceByte", "(I)Z"⟩
abbrev c_Js_indexOf1 : ByteArray := prog_11_method_79_code
def y_Js_indexOf1 : MethodName := ⟨"java/lang/String", "indexOf", "(I)I"⟩
abbrev c_Js_indexOf2 : ByteArray := prog_11_method_80_code
def y_Js_indexOf2 : MethodName := ⟨"java/lang/String", "indexOf", "(II)I"⟩
abbrev c_Js_isLatin1 : ByteArray := prog_11_method_154_code
def y_Js_isLatin1 : MethodName := ⟨"java/lang/String", "isLatin1", "()Z"⟩
abbrev c_Js_length : ByteArray := prog_11_method_54_code
def y_Js_length : MethodName := ⟨"java/lang/String", "length", "()I"⟩
abbrev c_Js_coder : ByteArray := prog_11_method_152_code
def y_Js_coder : MethodName := ⟨"java/lang/String", "coder", "()B"⟩
abbrev c_Jl_indexOf : ByteArray := prog_12_method_22_code
def y_Jl_indexOf : MethodName := ⟨"java/lang/StringLatin1", "indexOf", "([BIII)I"⟩
abbrev c_Jl_canEncode : ByteArray := prog_12_method_4_code
def y_Jl_canEncode : MethodName := ⟨"java/lang/StringLatin1", "canEncode", "(I)Z"⟩
abbrev c_Jm_min : ByteArray := prog_10_method_69_code
def y_Jm_min : MethodName := ⟨"java/lang/Math", "min", "(II)I"⟩
abbrev c_Jl_indexOfChar : ByteArray := prog_12_method_23_code
def y_Jl_indexOfChar : MethodName := ⟨"java/lang/StringLatin1", "indexOfChar", "([BIII)I"⟩
abbrev c_Js_checkBoundsBeginEnd : ByteArray := prog_11_method_158_code
def y_Js_checkBoundsBeginEnd : MethodName := ⟨"java/lang/String", "checkBoundsBeginEnd", "(III)V"⟩
abbrev c_Jp_checkFromToIndex : ByteArray := prog_14_method_12_code
def y_Jp_checkFromToIndex : MethodName := ⟨"jdk/internal/util/Preconditions", "checkFromToIndex", "(IIILjava/util/function/BiFunction;)I"⟩
abbrev c_At_hexValue : ByteArray := prog_1_method_40_code
def y_At_hexValue : MethodName := ⟨"AddressTerms", "hexValue", "(I)I"⟩
abbrev c_At_isDigit : ByteArray := prog_1_method_37_code
def y_At_isDigit : MethodName := ⟨"AddressTerms", "isDigit", "(I)Z"⟩
abbrev c_Rf_read : ByteArray := prog_3_method_2_code
def y_Rf_read : MethodName := ⟨"AddressTerms$Reference", "read", "(LAddressTerms$Row;)V"⟩
abbrev c_Rf_note : ByteArray := prog_3_method_4_code
def y_Rf_note : MethodName := ⟨"AddressTerms$Reference", "note", "(III)V"⟩
abbrev c_Rf_colonOfScheme : ByteArray := prog_3_method_3_code
def y_Rf_colonOfScheme : MethodName := ⟨"AddressTerms$Reference", "colonOfScheme", "()I"⟩
abbrev c_At_isLetter : ByteArray := prog_1_method_36_code
def y_At_isLetter : MethodName := ⟨"AddressTerms", "isLetter", "(I)Z"⟩
abbrev c_At_isSmallLetter : ByteArray := prog_1_method_34_code
def y_At_isSmallLetter : MethodName := ⟨"AddressTerms", "isSmallLetter", "(I)Z"⟩
abbrev c_At_isGreatLetter : ByteArray := prog_1_method_35_code
def y_At_isGreatLetter : MethodName := ⟨"AddressTerms", "isGreatLetter", "(I)Z"⟩
abbrev c_At_isLetterOrDigit : ByteArray := prog_1_method_38_code
def y_At_isLetterOrDigit : MethodName := ⟨"AddressTerms", "isLetterOrDigit", "(I)Z"⟩
abbrev c_Rw_hasThere : ByteArray := prog_5_method_13_code
def y_Rw_hasThere : MethodName := ⟨"AddressTerms$Row", "hasThere", "(ILjava/lang/String;)Z"⟩
abbrev c_Js_charAt : ByteArray := prog_11_method_56_code
def y_Js_charAt : MethodName := ⟨"java/lang/String", "charAt", "(I)C"⟩
abbrev c_Jl_charAt : ByteArray := prog_12_method_2_code
def y_Jl_charAt : MethodName := ⟨"java/lang/StringLatin1", "charAt", "([BI)C"⟩
abbrev c_Js_checkIndex : ByteArray := prog_11_method_155_code
def y_Js_checkIndex : MethodName := ⟨"java/lang/String", "checkIndex", "(II)V"⟩
abbrev c_Jp_checkIndex : ByteArray := prog_14_method_11_code
def y_Jp_checkIndex : MethodName := ⟨"jdk/internal/util/Preconditions", "checkIndex", "(IILjava/util/function/BiFunction;)I"⟩
abbrev c_Rw_nextOf : ByteArray := prog_5_method_15_code
def y_Rw_nextOf : MethodName := ⟨"AddressTerms$Row", "nextOf", "(ILjava/lang/String;)I"⟩
abbrev c_At_addressAt : ByteArray := prog_1_method_18_code
def y_At_addressAt : MethodName := ⟨"AddressTerms", "addressAt", "(I)LAddressTerms$Term;"⟩
abbrev c_At_termAt : ByteArray := prog_1_method_17_code
def y_At_termAt : MethodName := ⟨"AddressTerms", "termAt", "(I)LAddressTerms$Term;"⟩
abbrev c_Rf_has : ByteArray := prog_3_method_7_code
def y_Rf_has : MethodName := ⟨"AddressTerms$Reference", "has", "(I)Z"⟩
abbrev c_Rf_endOf : ByteArray := prog_3_method_6_code
def y_Rf_endOf : MethodName := ⟨"AddressTerms$Reference", "endOf", "(I)I"⟩
abbrev c_Tm_begin : ByteArray := prog_6_method_2_code
def y_Tm_begin : MethodName := ⟨"AddressTerms$Term", "begin", "(III)V"⟩
abbrev c_Rw_cutTo : ByteArray := prog_5_method_9_code
def y_Rw_cutTo : MethodName := ⟨"AddressTerms$Row", "cutTo", "(I)V"⟩
abbrev c_Rw_addRange : ByteArray := prog_5_method_5_code
def y_Rw_addRange : MethodName := ⟨"AddressTerms$Row", "addRange", "(LAddressTerms$Row;II)V"⟩
abbrev c_Rs_resolveTo : ByteArray := prog_4_method_2_code
def y_Rs_resolveTo : MethodName := ⟨"AddressTerms$Resolver", "resolveTo", "(LAddressTerms$Row;LAddressTerms$Reference;LAddressTerms$Reference;)V"⟩
abbrev c_Rf_lengthOf : ByteArray := prog_3_method_8_code
def y_Rf_lengthOf : MethodName := ⟨"AddressTerms$Reference", "lengthOf", "(I)I"⟩
abbrev c_Rf_beginOf : ByteArray := prog_3_method_5_code
def y_Rf_beginOf : MethodName := ⟨"AddressTerms$Reference", "beginOf", "(I)I"⟩
abbrev c_Rf_copyTo : ByteArray := prog_3_method_10_code
def y_Rf_copyTo : MethodName := ⟨"AddressTerms$Reference", "copyTo", "(LAddressTerms$Row;I)V"⟩
abbrev c_Rs_addBehind : ByteArray := prog_4_method_3_code
def y_Rs_addBehind : MethodName := ⟨"AddressTerms$Resolver", "addBehind", "(LAddressTerms$Row;Ljava/lang/String;LAddressTerms$Reference;I)V"⟩
abbrev c_Rw_addText : ByteArray := prog_5_method_6_code
def y_Rw_addText : MethodName := ⟨"AddressTerms$Row", "addText", "(Ljava/lang/String;)V"⟩
abbrev c_Rs_gatherPath : ByteArray := prog_4_method_4_code
def y_Rs_gatherPath : MethodName := ⟨"AddressTerms$Resolver", "gatherPath", "(LAddressTerms$Reference;LAddressTerms$Reference;Z)V"⟩
abbrev c_Rf_hasPathFromTop : ByteArray := prog_3_method_9_code
def y_Rf_hasPathFromTop : MethodName := ⟨"AddressTerms$Reference", "hasPathFromTop", "()Z"⟩
abbrev c_Rf_copyFolderTo : ByteArray := prog_3_method_11_code
def y_Rf_copyFolderTo : MethodName := ⟨"AddressTerms$Reference", "copyFolderTo", "(LAddressTerms$Row;)V"⟩
abbrev c_Rw_lastSlash : ByteArray := prog_5_method_16_code
def y_Rw_lastSlash : MethodName := ⟨"AddressTerms$Row", "lastSlash", "(II)I"⟩
abbrev c_Rs_addPlainPath : ByteArray := prog_4_method_5_code
def y_Rs_addPlainPath : MethodName := ⟨"AddressTerms$Resolver", "addPlainPath", "(LAddressTerms$Row;)V"⟩
abbrev c_Rw_isRest : ByteArray := prog_5_method_14_code
def y_Rw_isRest : MethodName := ⟨"AddressTerms$Row", "isRest", "(ILjava/lang/String;)Z"⟩
abbrev c_Rw_set : ByteArray := prog_5_method_8_code
def y_Rw_set : MethodName := ⟨"AddressTerms$Row", "set", "(II)V"⟩
abbrev c_Rs_dropLast : ByteArray := prog_4_method_6_code
def y_Rs_dropLast : MethodName := ⟨"AddressTerms$Resolver", "dropLast", "(LAddressTerms$Row;I)V"⟩
abbrev c_At_placeOfWanted : ByteArray := prog_1_method_20_code
def y_At_placeOfWanted : MethodName := ⟨"AddressTerms", "placeOfWanted", "()I"⟩
abbrev c_Tm_order : ByteArray := prog_6_method_5_code
def y_Tm_order : MethodName := ⟨"AddressTerms$Term", "order", "(LAddressTerms$Term;)I"⟩
abbrev c_Tm_rank : ByteArray := prog_6_method_4_code
def y_Tm_rank : MethodName := ⟨"AddressTerms$Term", "rank", "()I"⟩
abbrev c_At_orderOf : ByteArray := prog_1_method_53_code
def y_At_orderOf : MethodName := ⟨"AddressTerms", "orderOf", "(II)I"⟩
abbrev c_Rw_order : ByteArray := prog_5_method_11_code
def y_Rw_order : MethodName := ⟨"AddressTerms$Row", "order", "(LAddressTerms$Row;)I"⟩
abbrev c_Tm_copy : ByteArray := prog_6_method_3_code
def y_Tm_copy : MethodName := ⟨"AddressTerms$Term", "copy", "()LAddressTerms$Term;"⟩
abbrev c_At_base : ByteArray := prog_1_method_4_code
def y_At_base : MethodName := ⟨"AddressTerms", "base", "(I)I"⟩
abbrev c_At_label : ByteArray := prog_1_method_5_code
def y_At_label : MethodName := ⟨"AddressTerms", "label", "(I)I"⟩
abbrev c_At_literal : ByteArray := prog_1_method_6_code
def y_At_literal : MethodName := ⟨"AddressTerms", "literal", "(I)I"⟩
abbrev c_At_literalOnTape : ByteArray := prog_1_method_22_code
def y_At_literalOnTape : MethodName := ⟨"AddressTerms", "literalOnTape", "(I)I"⟩
abbrev c_At_readText : ByteArray := prog_1_method_44_code
def y_At_readText : MethodName := ⟨"AddressTerms", "readText", "(LAddressTerms$Row;LAddressTerms$Row;)I"⟩
abbrev c_At_escapedByte : ByteArray := prog_1_method_45_code
def y_At_escapedByte : MethodName := ⟨"AddressTerms", "escapedByte", "(LAddressTerms$Row;I)I"⟩
abbrev c_At_hexByte : ByteArray := prog_1_method_46_code
def y_At_hexByte : MethodName := ⟨"AddressTerms", "hexByte", "(LAddressTerms$Row;I)I"⟩
abbrev c_At_isTextByte : ByteArray := prog_1_method_32_code
def y_At_isTextByte : MethodName := ⟨"AddressTerms", "isTextByte", "(I)Z"⟩
abbrev c_At_tagged : ByteArray := prog_1_method_7_code
def y_At_tagged : MethodName := ⟨"AddressTerms", "tagged", "(I)I"⟩
abbrev c_At_tagOnTape : ByteArray := prog_1_method_23_code
def y_At_tagOnTape : MethodName := ⟨"AddressTerms", "tagOnTape", "(I)I"⟩
abbrev c_At_literalAt : ByteArray := prog_1_method_19_code
def y_At_literalAt : MethodName := ⟨"AddressTerms", "literalAt", "(I)LAddressTerms$Term;"⟩
abbrev c_At_wrongInTag : ByteArray := prog_1_method_42_code
def y_At_wrongInTag : MethodName := ⟨"AddressTerms", "wrongInTag", "(LAddressTerms$Row;)I"⟩
abbrev c_At_smallOf : ByteArray := prog_1_method_39_code
def y_At_smallOf : MethodName := ⟨"AddressTerms", "smallOf", "(I)I"⟩
abbrev c_At_prefix : ByteArray := prog_1_method_8_code
def y_At_prefix : MethodName := ⟨"AddressTerms", "prefix", "(I)I"⟩
abbrev c_At_nameOnTape : ByteArray := prog_1_method_24_code
def y_At_nameOnTape : MethodName := ⟨"AddressTerms", "nameOnTape", "(I)I"⟩
abbrev c_At_isName : ByteArray := prog_1_method_43_code
def y_At_isName : MethodName := ⟨"AddressTerms", "isName", "(LAddressTerms$Row;)Z"⟩
abbrev c_At_prefixAt : ByteArray := prog_1_method_25_code
def y_At_prefixAt : MethodName := ⟨"AddressTerms", "prefixAt", "(I)LAddressTerms$Prefix;"⟩
abbrev c_Rw_copy : ByteArray := prog_5_method_10_code
def y_Rw_copy : MethodName := ⟨"AddressTerms$Row", "copy", "()LAddressTerms$Row;"⟩
abbrev c_Px_init : ByteArray := prog_2_method_1_code
def y_Px_init : MethodName := ⟨"AddressTerms$Prefix", "<init>", "(LAddressTerms$Row;LAddressTerms$Row;)V"⟩
abbrev c_At_part : ByteArray := prog_1_method_9_code
def y_At_part : MethodName := ⟨"AddressTerms", "part", "(II)I"⟩
abbrev c_At_kind : ByteArray := prog_1_method_10_code
def y_At_kind : MethodName := ⟨"AddressTerms", "kind", "(I)I"⟩
abbrev c_At_sort : ByteArray := prog_1_method_11_code
def y_At_sort : MethodName := ⟨"AddressTerms", "sort", "(I)I"⟩
abbrev c_At_alike : ByteArray := prog_1_method_12_code
def y_At_alike : MethodName := ⟨"AddressTerms", "alike", "(II)I"⟩
abbrev c_At_haveSameValue : ByteArray := prog_1_method_47_code
def y_At_haveSameValue : MethodName := ⟨"AddressTerms", "haveSameValue", "(LAddressTerms$Term;LAddressTerms$Term;)Z"⟩
abbrev c_At_isWhole : ByteArray := prog_1_method_51_code
def y_At_isWhole : MethodName := ⟨"AddressTerms", "isWhole", "(LAddressTerms$Row;)Z"⟩
abbrev c_At_signLength : ByteArray := prog_1_method_50_code
def y_At_signLength : MethodName := ⟨"AddressTerms", "signLength", "(LAddressTerms$Row;)I"⟩
abbrev c_At_wholeValue : ByteArray := prog_1_method_52_code
def y_At_wholeValue : MethodName := ⟨"AddressTerms", "wholeValue", "(LAddressTerms$Row;)J"⟩
abbrev c_At_isTrue : ByteArray := prog_1_method_48_code
def y_At_isTrue : MethodName := ⟨"AddressTerms", "isTrue", "(LAddressTerms$Row;)Z"⟩
abbrev c_At_isFalse : ByteArray := prog_1_method_49_code
def y_At_isFalse : MethodName := ⟨"AddressTerms", "isFalse", "(LAddressTerms$Row;)Z"⟩
abbrev c_At_compare : ByteArray := prog_1_method_13_code
def y_At_compare : MethodName := ⟨"AddressTerms", "compare", "(II)I"⟩
abbrev c_At_print : ByteArray := prog_1_method_14_code
def y_At_print : MethodName := ⟨"AddressTerms", "print", "(II)I"⟩
abbrev c_Rw_addNumber : ByteArray := prog_5_method_7_code
def y_Rw_addNumber : MethodName := ⟨"AddressTerms$Row", "addNumber", "(I)V"⟩
abbrev c_At_printLiteral : ByteArray := prog_1_method_28_code
def y_At_printLiteral : MethodName := ⟨"AddressTerms", "printLiteral", "(LAddressTerms$Term;)V"⟩
abbrev c_At_printTextByte : ByteArray := prog_1_method_29_code
def y_At_printTextByte : MethodName := ⟨"AddressTerms", "printTextByte", "(I)V"⟩
abbrev c_At_printAddress : ByteArray := prog_1_method_26_code
def y_At_printAddress : MethodName := ⟨"AddressTerms", "printAddress", "(LAddressTerms$Row;I)V"⟩
abbrev c_At_bestPrefix : ByteArray := prog_1_method_27_code
def y_At_bestPrefix : MethodName := ⟨"AddressTerms", "bestPrefix", "(LAddressTerms$Row;)LAddressTerms$Prefix;"⟩
abbrev c_Px_tells : ByteArray := prog_2_method_2_code
def y_Px_tells : MethodName := ⟨"AddressTerms$Prefix", "tells", "(LAddressTerms$Row;)Z"⟩
abbrev c_Rw_beginsWith : ByteArray := prog_5_method_12_code
def y_Rw_beginsWith : MethodName := ⟨"AddressTerms$Row", "beginsWith", "(LAddressTerms$Row;)Z"⟩
abbrev c_Px_isBetterThan : ByteArray := prog_2_method_3_code
def y_Px_isBetterThan : MethodName := ⟨"AddressTerms$Prefix", "isBetterThan", "(LAddressTerms$Prefix;)Z"⟩
abbrev c_At_at : ByteArray := prog_1_method_15_code
def y_At_at : MethodName := ⟨"AddressTerms", "at", "(I)I"⟩
abbrev c_At_count : ByteArray := prog_1_method_16_code
def y_At_count : MethodName := ⟨"AddressTerms", "count", "(I)I"⟩
abbrev c_Md_init : ByteArray := prog_8_method_1_code
def y_Md_init : MethodName := ⟨"AddressTermsModel", "<init>", "()V"⟩
abbrev c_Md_type : ByteArray := prog_8_method_8_code
def y_Md_type : MethodName := ⟨"AddressTermsModel", "type", "(JI)I"⟩
abbrev c_Md_is : ByteArray := prog_8_method_2_code
def y_Md_is : MethodName := ⟨"AddressTermsModel", "is", "(III)Z"⟩
abbrev c_Md_label : ByteArray := prog_8_method_13_code
def y_Md_label : MethodName := ⟨"AddressTermsModel", "label", "(I)I"⟩
abbrev c_Md_note : ByteArray := prog_8_method_10_code
def y_Md_note : MethodName := ⟨"AddressTermsModel", "note", "(II)I"⟩
abbrev c_Md_find : ByteArray := prog_8_method_9_code
def y_Md_find : MethodName := ⟨"AddressTermsModel", "find", "(II)I"⟩
abbrev c_Md_resolve : ByteArray := prog_8_method_30_code
def y_Md_resolve : MethodName := ⟨"AddressTermsModel", "resolve", "()I"⟩
abbrev c_Md_wrong : ByteArray := prog_8_method_19_code
def y_Md_wrong : MethodName := ⟨"AddressTermsModel", "wrong", "()I"⟩
abbrev c_Md_hex : ByteArray := prog_8_method_6_code
def y_Md_hex : MethodName := ⟨"AddressTermsModel", "hex", "(I)I"⟩
abbrev c_Md_isDigit : ByteArray := prog_8_method_5_code
def y_Md_isDigit : MethodName := ⟨"AddressTermsModel", "isDigit", "(I)Z"⟩
abbrev c_Md_resolveAgainst : ByteArray := prog_8_method_28_code
def y_Md_resolveAgainst : MethodName := ⟨"AddressTermsModel", "resolveAgainst", "()V"⟩
abbrev c_Md_take : ByteArray := prog_8_method_18_code
def y_Md_take : MethodName := ⟨"AddressTermsModel", "take", "(I)V"⟩
abbrev c_Md_split : ByteArray := prog_8_method_17_code
def y_Md_split : MethodName := ⟨"AddressTermsModel", "split", "()V"⟩
abbrev c_Md_refAt : ByteArray := prog_8_method_15_code
def y_Md_refAt : MethodName := ⟨"AddressTermsModel", "refAt", "(I)I"⟩
abbrev c_Md_isLetter : ByteArray := prog_8_method_4_code
def y_Md_isLetter : MethodName := ⟨"AddressTermsModel", "isLetter", "(I)Z"⟩
abbrev c_Md_isSmall : ByteArray := prog_8_method_3_code
def y_Md_isSmall : MethodName := ⟨"AddressTermsModel", "isSmall", "(I)Z"⟩
abbrev c_Md_stop : ByteArray := prog_8_method_16_code
def y_Md_stop : MethodName := ⟨"AddressTermsModel", "stop", "(IZZ)I"⟩
abbrev c_Md_addRef : ByteArray := prog_8_method_25_code
def y_Md_addRef : MethodName := ⟨"AddressTermsModel", "addRef", "(II)V"⟩
abbrev c_Md_add : ByteArray := prog_8_method_14_code
def y_Md_add : MethodName := ⟨"AddressTermsModel", "add", "(I)V"⟩
abbrev c_Md_addBase : ByteArray := prog_8_method_26_code
def y_Md_addBase : MethodName := ⟨"AddressTermsModel", "addBase", "(II)V"⟩
abbrev c_Md_lead : ByteArray := prog_8_method_27_code
def y_Md_lead : MethodName := ⟨"AddressTermsModel", "lead", "(II)V"⟩
abbrev c_Md_merge : ByteArray := prog_8_method_29_code
def y_Md_merge : MethodName := ⟨"AddressTermsModel", "merge", "()V"⟩
abbrev c_Md_feed : ByteArray := prog_8_method_24_code
def y_Md_feed : MethodName := ⟨"AddressTermsModel", "feed", "(II)V"⟩
abbrev c_Md_plain : ByteArray := prog_8_method_23_code
def y_Md_plain : MethodName := ⟨"AddressTermsModel", "plain", "()V"⟩
abbrev c_Md_begins : ByteArray := prog_8_method_20_code
def y_Md_begins : MethodName := ⟨"AddressTermsModel", "begins", "(IIII)Z"⟩
abbrev c_Md_skip : ByteArray := prog_8_method_21_code
def y_Md_skip : MethodName := ⟨"AddressTermsModel", "skip", "(I)V"⟩
abbrev c_Md_back : ByteArray := prog_8_method_22_code
def y_Md_back : MethodName := ⟨"AddressTermsModel", "back", "()V"⟩
abbrev c_Md_base : ByteArray := prog_8_method_31_code
def y_Md_base : MethodName := ⟨"AddressTermsModel", "base", "(I)I"⟩
abbrev c_Md_isAddress : ByteArray := prog_8_method_12_code
def y_Md_isAddress : MethodName := ⟨"AddressTermsModel", "isAddress", "(I)Z"⟩
abbrev c_Md_isTerm : ByteArray := prog_8_method_11_code
def y_Md_isTerm : MethodName := ⟨"AddressTermsModel", "isTerm", "(I)Z"⟩
abbrev c_Md_literal : ByteArray := prog_8_method_33_code
def y_Md_literal : MethodName := ⟨"AddressTermsModel", "literal", "(I)I"⟩
abbrev c_Md_escaped : ByteArray := prog_8_method_32_code
def y_Md_escaped : MethodName := ⟨"AddressTermsModel", "escaped", "(I)I"⟩
abbrev c_Md_isText : ByteArray := prog_8_method_7_code
def y_Md_isText : MethodName := ⟨"AddressTermsModel", "isText", "(I)Z"⟩
abbrev c_Md_tagged : ByteArray := prog_8_method_34_code
def y_Md_tagged : MethodName := ⟨"AddressTermsModel", "tagged", "(I)I"⟩
abbrev c_Md_prefix : ByteArray := prog_8_method_35_code
def y_Md_prefix : MethodName := ⟨"AddressTermsModel", "prefix", "(I)I"⟩
abbrev c_Md_part : ByteArray := prog_8_method_36_code
def y_Md_part : MethodName := ⟨"AddressTermsModel", "part", "(II)I"⟩
abbrev c_Md_kind : ByteArray := prog_8_method_37_code
def y_Md_kind : MethodName := ⟨"AddressTermsModel", "kind", "(I)I"⟩
abbrev c_Md_sort : ByteArray := prog_8_method_38_code
def y_Md_sort : MethodName := ⟨"AddressTermsModel", "sort", "(I)I"⟩
abbrev c_Md_alike : ByteArray := prog_8_method_43_code
def y_Md_alike : MethodName := ⟨"AddressTermsModel", "alike", "(II)I"⟩
abbrev c_Md_isWhole : ByteArray := prog_8_method_39_code
def y_Md_isWhole : MethodName := ⟨"AddressTermsModel", "isWhole", "(I)Z"⟩
abbrev c_Md_whole : ByteArray := prog_8_method_40_code
def y_Md_whole : MethodName := ⟨"AddressTermsModel", "whole", "(I)J"⟩
abbrev c_Md_truth : ByteArray := prog_8_method_42_code
def y_Md_truth : MethodName := ⟨"AddressTermsModel", "truth", "(I)I"⟩
abbrev c_Md_isBytes : ByteArray := prog_8_method_41_code
def y_Md_isBytes : MethodName := ⟨"AddressTermsModel", "isBytes", "(IIJ)Z"⟩
abbrev c_Md_compare : ByteArray := prog_8_method_48_code
def y_Md_compare : MethodName := ⟨"AddressTermsModel", "compare", "(II)I"⟩
abbrev c_Md_rank : ByteArray := prog_8_method_47_code
def y_Md_rank : MethodName := ⟨"AddressTermsModel", "rank", "(I)I"⟩
abbrev c_Md_compareBytes : ByteArray := prog_8_method_45_code
def y_Md_compareBytes : MethodName := ⟨"AddressTermsModel", "compareBytes", "(II)I"⟩
abbrev c_Md_compareTags : ByteArray := prog_8_method_46_code
def y_Md_compareTags : MethodName := ⟨"AddressTermsModel", "compareTags", "(II)I"⟩
abbrev c_Md_sign : ByteArray := prog_8_method_44_code
def y_Md_sign : MethodName := ⟨"AddressTermsModel", "sign", "(I)I"⟩
abbrev c_Md_print : ByteArray := prog_8_method_56_code
def y_Md_print : MethodName := ⟨"AddressTermsModel", "print", "(II)I"⟩
abbrev c_Md_tellAddress : ByteArray := prog_8_method_55_code
def y_Md_tellAddress : MethodName := ⟨"AddressTermsModel", "tellAddress", "(IZ)V"⟩
abbrev c_Md_isNameBefore : ByteArray := prog_8_method_54_code
def y_Md_isNameBefore : MethodName := ⟨"AddressTermsModel", "isNameBefore", "(II)Z"⟩
abbrev c_Md_shortens : ByteArray := prog_8_method_53_code
def y_Md_shortens : MethodName := ⟨"AddressTermsModel", "shortens", "(II)Z"⟩
abbrev c_Md_tell : ByteArray := prog_8_method_49_code
def y_Md_tell : MethodName := ⟨"AddressTermsModel", "tell", "(I)V"⟩
abbrev c_Md_tellAll : ByteArray := prog_8_method_50_code
def y_Md_tellAll : MethodName := ⟨"AddressTermsModel", "tellAll", "(JI)V"⟩
abbrev c_Md_tellNumber : ByteArray := prog_8_method_51_code
def y_Md_tellNumber : MethodName := ⟨"AddressTermsModel", "tellNumber", "(I)V"⟩
abbrev c_Md_tellLiteral : ByteArray := prog_8_method_52_code
def y_Md_tellLiteral : MethodName := ⟨"AddressTermsModel", "tellLiteral", "(I)V"⟩
abbrev c_Md_at : ByteArray := prog_8_method_57_code
def y_Md_at : MethodName := ⟨"AddressTermsModel", "at", "(I)I"⟩
abbrev c_Md_count : ByteArray := prog_8_method_58_code
def y_Md_count : MethodName := ⟨"AddressTermsModel", "count", "(I)I"⟩
theorem n_ini_Lw : Cond.initialized "AddressTermsLaw" ∈ aw_tw := aw_in1 (List.mem_of_getElem? (i := 0) rfl) rfl
theorem n_ini_At : Cond.initialized "AddressTerms" ∈ aw_tw := aw_in1 (List.mem_of_getElem? (i := 1) rfl) rfl
theorem n_ini_Rw : Cond.initialized "AddressTerms$Row" ∈ aw_tw := aw_in1 (List.mem_of_getElem? (i := 2) rfl) rfl
theorem n_ini_Jm : Cond.initialized "java/lang/Math" ∈ aw_tw := aw_in1 (List.mem_of_getElem? (i := 3) rfl) rfl
theorem n_ini_Tm : Cond.initialized "AddressTerms$Term" ∈ aw_tw := aw_in1 (List.mem_of_getElem? (i := 4) rfl) rfl
theorem n_ini_Rf : Cond.initialized "AddressTerms$Reference" ∈ aw_tw := aw_in1 (List.mem_of_getElem? (i := 5) rfl) rfl
theorem n_ini_Rs : Cond.initialized "AddressTerms$Resolver" ∈ aw_tw := aw_in1 (List.mem_of_getElem? (i := 6) rfl) rfl
theorem n_ini_Md : Cond.initialized "AddressTermsModel" ∈ aw_tw := aw_in1 (List.mem_of_getElem? (i := 7) rfl) rfl
theorem n_ini_Js : Cond.initialized "java/lang/String" ∈ aw_tw := aw_in1 (List.mem_of_getElem? (i := 8) rfl) rfl
theorem n_ini_Jl : Cond.initialized "java/lang/StringLatin1" ∈ aw_tw := aw_in1 (List.mem_of_getElem? (i := 9) rfl) rfl
theorem n_ini_Jp : Cond.initialized "jdk/internal/util/Preconditions" ∈ aw_tw := aw_in1 (List.mem_of_getElem? (i := 11) rfl) rfl
theorem n_ini_Px : Cond.initialized "AddressTerms$Prefix" ∈ aw_tw := aw_in1 (List.mem_of_getElem? (i := 13) rfl) rfl
theorem n_cl_Lw_7 : Cond.classLink "AddressTermsLaw" 7 "AddressTerms" ∈ aw_tw := aw_in1 (List.mem_of_getElem? (i := 14) rfl) rfl
theorem n_ib_At : Cond.instantiable "AddressTerms" 11 ∈ aw_tw := aw_in1 (List.mem_of_getElem? (i := 15) rfl) rfl
theorem n_ml_Lw_9 : Cond.methodLink "AddressTermsLaw" 9 y_At_init ∈ aw_tw := aw_in1 (List.mem_of_getElem? (i := 16) rfl) rfl
theorem n_im_At_init : Cond.instanceMethod y_At_init ∈ aw_tw := aw_in1 (List.mem_of_getElem? (i := 17) rfl) rfl
theorem n_co_At_init : Cond.code y_At_init c_At_init 1 none ∈ aw_tw := aw_in1 (List.mem_of_getElem? (i := 18) rfl) rfl
theorem n_ml_At_3 : Cond.methodLink "AddressTerms" 3 objectInit ∈ aw_tw := aw_in1 (List.mem_of_getElem? (i := 19) rfl) rfl
theorem n_im_Jo_init : Cond.instanceMethod objectInit ∈ aw_tw := aw_in1 (List.mem_of_getElem? (i := 20) rfl) rfl
theorem n_co_Jo_init : Cond.code objectInit ⟨#[0xb1]⟩ 1 none ∈ aw_tw := aw_in1 (List.mem_of_getElem? (i := 21) rfl) rfl
theorem n_cl_At_9 : Cond.classLink "AddressTerms" 9 "AddressTerms$Row" ∈ aw_tw := aw_in1 (List.mem_of_getElem? (i := 22) rfl) rfl
theorem n_ib_Rw : Cond.instantiable "AddressTerms$Row" 2 ∈ aw_tw := aw_in1 (List.mem_of_getElem? (i := 23) rfl) rfl
theorem n_ml_At_11 : Cond.methodLink "AddressTerms" 11 y_Rw_init ∈ aw_tw := aw_in1 (List.mem_of_getElem? (i := 24) rfl) rfl
theorem n_im_Rw_init : Cond.instanceMethod y_Rw_init ∈ aw_tw := aw_in1 (List.mem_of_getElem? (i := 25) rfl) rfl
theorem n_co_Rw_init : Cond.code y_Rw_init c_Rw_init 2 none ∈ aw_tw := aw_in1 (List.mem_of_getElem? (i := 26) rfl) rfl
theorem n_ml_Rw_3 : Cond.methodLink "AddressTerms$Row" 3 objectInit ∈ aw_tw := aw_in1 (List.mem_of_getElem? (i := 27) rfl) rfl
theorem n_ml_Rw_15 : Cond.methodLink "AddressTerms$Row" 15 Lib.Math.max.name ∈ aw_tw := aw_in1 (List.mem_of_getElem? (i := 28) rfl) rfl
theorem n_st_Jm_max : Cond.static Lib.Math.max.name ∈ aw_tw := aw_in1 (List.mem_of_getElem? (i := 29) rfl) rfl
theorem n_co_Jm_max : Cond.code Lib.Math.max.name Lib.Math.max.code 2 (some .int) ∈ aw_tw := aw_in1 (List.mem_of_getElem? (i := 30) rfl) rfl
theorem n_fl_Rw_21 : Cond.fieldLink "AddressTerms$Row" 21 "AddressTerms$Row" "bytes" "[B" ∈ aw_tw := aw_in1 (List.mem_of_getElem? (i := 31) rfl) rfl
theorem n_fl_Rw_9 : Cond.fieldLink "AddressTerms$Row" 9 "AddressTerms$Row" "length" "I" ∈ aw_tw := aw_in1 (List.mem_of_getElem? (i := 32) rfl) rfl
theorem n_la_Rw_bytes : Cond.laysFinal "AddressTerms$Row" "AddressTerms$Row" "bytes" "[B" ∈ aw_tw := aw_in1 (List.mem_of_getElem? (i := 33) rfl) rfl
theorem n_la_Rw_length : Cond.lays "AddressTerms$Row" "AddressTerms$Row" "length" "I" ∈ aw_tw := aw_in1 (List.mem_of_getElem? (i := 35) rfl) rfl
theorem n_ac_byte : Cond.arrayClass .byte ∈ aw_tw := aw_in1 (List.mem_of_getElem? (i := 38) rfl) rfl
theorem n_cl_At_21 : Cond.classLink "AddressTerms" 21 "AddressTerms$Term" ∈ aw_tw := aw_in1 (List.mem_of_getElem? (i := 39) rfl) rfl
theorem n_cl_At_27 : Cond.classLink "AddressTerms" 27 "AddressTerms$Prefix" ∈ aw_tw := aw_in1 (List.mem_of_getElem? (i := 41) rfl) rfl
theorem n_ib_Tm : Cond.instantiable "AddressTerms$Term" 5 ∈ aw_tw := aw_in1 (List.mem_of_getElem? (i := 43) rfl) rfl
theorem n_ml_At_33 : Cond.methodLink "AddressTerms" 33 y_Tm_init ∈ aw_tw := aw_in1 (List.mem_of_getElem? (i := 44) rfl) rfl
theorem n_im_Tm_init : Cond.instanceMethod y_Tm_init ∈ aw_tw := aw_in1 (List.mem_of_getElem? (i := 45) rfl) rfl
theorem n_co_Tm_init : Cond.code y_Tm_init c_Tm_init 3 none ∈ aw_tw := aw_in1 (List.mem_of_getElem? (i := 46) rfl) rfl
theorem n_ml_Tm_3 : Cond.methodLink "AddressTerms$Term" 3 objectInit ∈ aw_tw := aw_in1 (List.mem_of_getElem? (i := 47) rfl) rfl
theorem n_cl_Tm_21 : Cond.classLink "AddressTerms$Term" 21 "AddressTerms$Row" ∈ aw_tw := aw_in1 (List.mem_of_getElem? (i := 48) rfl) rfl
theorem n_ml_Tm_23 : Cond.methodLink "AddressTerms$Term" 23 y_Rw_init ∈ aw_tw := aw_in1 (List.mem_of_getElem? (i := 49) rfl) rfl
theorem n_fl_Tm_26 : Cond.fieldLink "AddressTerms$Term" 26 "AddressTerms$Term" "text" "LAddressTerms$Row;" ∈ aw_tw := aw_in1 (List.mem_of_getElem? (i := 50) rfl) rfl
theorem n_fl_At_109 : Cond.fieldLink "AddressTerms" 109 "AddressTerms$Term" "text" "LAddressTerms$Row;" ∈ aw_tw := aw_in1 (List.mem_of_getElem? (i := 51) rfl) rfl
theorem n_fl_Tm_30 : Cond.fieldLink "AddressTerms$Term" 30 "AddressTerms$Term" "tag" "LAddressTerms$Row;" ∈ aw_tw := aw_in1 (List.mem_of_getElem? (i := 52) rfl) rfl
theorem n_fl_At_188 : Cond.fieldLink "AddressTerms" 188 "AddressTerms$Term" "tag" "LAddressTerms$Row;" ∈ aw_tw := aw_in1 (List.mem_of_getElem? (i := 53) rfl) rfl
theorem n_fl_Tm_9 : Cond.fieldLink "AddressTerms$Term" 9 "AddressTerms$Term" "kind" "I" ∈ aw_tw := aw_in1 (List.mem_of_getElem? (i := 54) rfl) rfl
theorem n_fl_At_125 : Cond.fieldLink "AddressTerms" 125 "AddressTerms$Term" "kind" "I" ∈ aw_tw := aw_in1 (List.mem_of_getElem? (i := 55) rfl) rfl
theorem n_fl_Tm_15 : Cond.fieldLink "AddressTerms$Term" 15 "AddressTerms$Term" "sort" "I" ∈ aw_tw := aw_in1 (List.mem_of_getElem? (i := 56) rfl) rfl
theorem n_fl_At_131 : Cond.fieldLink "AddressTerms" 131 "AddressTerms$Term" "sort" "I" ∈ aw_tw := aw_in1 (List.mem_of_getElem? (i := 57) rfl) rfl
theorem n_fl_Tm_18 : Cond.fieldLink "AddressTerms$Term" 18 "AddressTerms$Term" "number" "I" ∈ aw_tw := aw_in1 (List.mem_of_getElem? (i := 58) rfl) rfl
theorem n_fl_At_148 : Cond.fieldLink "AddressTerms" 148 "AddressTerms$Term" "number" "I" ∈ aw_tw := aw_in1 (List.mem_of_getElem? (i := 59) rfl) rfl
theorem n_la_Tm_text : Cond.laysFinal "AddressTerms$Term" "AddressTerms$Term" "text" "LAddressTerms$Row;" ∈ aw_tw := aw_in1 (List.mem_of_getElem? (i := 60) rfl) rfl
theorem n_la_Tm_tag : Cond.laysFinal "AddressTerms$Term" "AddressTerms$Term" "tag" "LAddressTerms$Row;" ∈ aw_tw := aw_in1 (List.mem_of_getElem? (i := 62) rfl) rfl
theorem n_la_Tm_kind : Cond.lays "AddressTerms$Term" "AddressTerms$Term" "kind" "I" ∈ aw_tw := aw_in1 (List.mem_of_getElem? (i := 64) rfl) rfl
theorem n_la_Tm_sort : Cond.lays "AddressTerms$Term" "AddressTerms$Term" "sort" "I" ∈ aw_tw := aw_in1 (List.mem_of_getElem? (i := 66) rfl) rfl
theorem n_la_Tm_number : Cond.lays "AddressTerms$Term" "AddressTerms$Term" "number" "I" ∈ aw_tw := aw_in1 (List.mem_of_getElem? (i := 68) rfl) rfl
theorem n_cl_At_40 : Cond.classLink "AddressTerms" 40 "AddressTerms$Reference" ∈ aw_tw := aw_in1 (List.mem_of_getElem? (i := 71) rfl) rfl
theorem n_ib_Rf : Cond.instantiable "AddressTerms$Reference" 3 ∈ aw_tw := aw_in1 (List.mem_of_getElem? (i := 72) rfl) rfl
theorem n_im_Rf_init : Cond.instanceMethod y_Rf_init ∈ aw_tw := aw_in1 (List.mem_of_getElem? (i := 74) rfl) rfl
theorem n_co_Rf_init : Cond.code y_Rf_init c_Rf_init 1 none ∈ aw_tw := aw_in1 (List.mem_of_getElem? (i := 75) rfl) rfl
theorem n_ml_Rf_3 : Cond.methodLink "AddressTerms$Reference" 3 objectInit ∈ aw_tw := aw_in1 (List.mem_of_getElem? (i := 76) rfl) rfl
theorem n_cl_Rf_18 : Cond.classLink "AddressTerms$Reference" 18 "AddressTerms$Row" ∈ aw_tw := aw_in1 (List.mem_of_getElem? (i := 77) rfl) rfl
theorem n_ml_Rf_20 : Cond.methodLink "AddressTerms$Reference" 20 y_Rw_init ∈ aw_tw := aw_in1 (List.mem_of_getElem? (i := 78) rfl) rfl
theorem n_fl_Rf_9 : Cond.fieldLink "AddressTerms$Reference" 9 "AddressTerms$Reference" "begins" "[I" ∈ aw_tw := aw_in1 (List.mem_of_getElem? (i := 79) rfl) rfl
theorem n_fl_Rf_15 : Cond.fieldLink "AddressTerms$Reference" 15 "AddressTerms$Reference" "ends" "[I" ∈ aw_tw := aw_in1 (List.mem_of_getElem? (i := 80) rfl) rfl
theorem n_fl_Rf_23 : Cond.fieldLink "AddressTerms$Reference" 23 "AddressTerms$Reference" "row" "LAddressTerms$Row;" ∈ aw_tw := aw_in1 (List.mem_of_getElem? (i := 81) rfl) rfl
theorem n_la_Rf_begins : Cond.laysFinal "AddressTerms$Reference" "AddressTerms$Reference" "begins" "[I" ∈ aw_tw := aw_in1 (List.mem_of_getElem? (i := 82) rfl) rfl
theorem n_la_Rf_ends : Cond.laysFinal "AddressTerms$Reference" "AddressTerms$Reference" "ends" "[I" ∈ aw_tw := aw_in1 (List.mem_of_getElem? (i := 84) rfl) rfl
theorem n_la_Rf_row : Cond.lays "AddressTerms$Reference" "AddressTerms$Reference" "row" "LAddressTerms$Row;" ∈ aw_tw := aw_in1 (List.mem_of_getElem? (i := 86) rfl) rfl
theorem n_ac_int : Cond.arrayClass .int ∈ aw_tw := aw_in1 (List.mem_of_getElem? (i := 89) rfl) rfl
theorem n_cl_At_50 : Cond.classLink "AddressTerms" 50 "AddressTerms$Resolver" ∈ aw_tw := aw_in1 (List.mem_of_getElem? (i := 90) rfl) rfl
theorem n_ib_Rs : Cond.instantiable "AddressTerms$Resolver" 1 ∈ aw_tw := aw_in1 (List.mem_of_getElem? (i := 91) rfl) rfl
theorem n_im_Rs_init : Cond.instanceMethod y_Rs_init ∈ aw_tw := aw_in1 (List.mem_of_getElem? (i := 93) rfl) rfl
theorem n_co_Rs_init : Cond.code y_Rs_init c_Rs_init 1 none ∈ aw_tw := aw_in1 (List.mem_of_getElem? (i := 94) rfl) rfl
theorem n_ml_Rs_3 : Cond.methodLink "AddressTerms$Resolver" 3 objectInit ∈ aw_tw := aw_in1 (List.mem_of_getElem? (i := 95) rfl) rfl
theorem n_cl_Rs_9 : Cond.classLink "AddressTerms$Resolver" 9 "AddressTerms$Row" ∈ aw_tw := aw_in1 (List.mem_of_getElem? (i := 96) rfl) rfl
theorem n_ml_Rs_11 : Cond.methodLink "AddressTerms$Resolver" 11 y_Rw_init ∈ aw_tw := aw_in1 (List.mem_of_getElem? (i := 97) rfl) rfl
theorem n_fl_Rs_14 : Cond.fieldLink "AddressTerms$Resolver" 14 "AddressTerms$Resolver" "path" "LAddressTerms$Row;" ∈ aw_tw := aw_in1 (List.mem_of_getElem? (i := 98) rfl) rfl
theorem n_la_Rs_path : Cond.laysFinal "AddressTerms$Resolver" "AddressTerms$Resolver" "path" "LAddressTerms$Row;" ∈ aw_tw := aw_in1 (List.mem_of_getElem? (i := 99) rfl) rfl
theorem n_fl_At_14 : Cond.fieldLink "AddressTerms" 14 "AddressTerms" "tape" "LAddressTerms$Row;" ∈ aw_tw := aw_in1 (List.mem_of_getElem? (i := 102) rfl) rfl
theorem n_fl_At_18 : Cond.fieldLink "AddressTerms" 18 "AddressTerms" "printed" "LAddressTerms$Row;" ∈ aw_tw := aw_in1 (List.mem_of_getElem? (i := 103) rfl) rfl
theorem n_fl_At_23 : Cond.fieldLink "AddressTerms" 23 "AddressTerms" "terms" "[LAddressTerms$Term;" ∈ aw_tw := aw_in1 (List.mem_of_getElem? (i := 104) rfl) rfl
theorem n_fl_At_29 : Cond.fieldLink "AddressTerms" 29 "AddressTerms" "prefixes" "[LAddressTerms$Prefix;" ∈ aw_tw := aw_in1 (List.mem_of_getElem? (i := 105) rfl) rfl
theorem n_fl_At_36 : Cond.fieldLink "AddressTerms" 36 "AddressTerms" "wanted" "LAddressTerms$Term;" ∈ aw_tw := aw_in1 (List.mem_of_getElem? (i := 106) rfl) rfl
theorem n_fl_At_43 : Cond.fieldLink "AddressTerms" 43 "AddressTerms" "given" "LAddressTerms$Reference;" ∈ aw_tw := aw_in1 (List.mem_of_getElem? (i := 107) rfl) rfl
theorem n_fl_At_47 : Cond.fieldLink "AddressTerms" 47 "AddressTerms" "known" "LAddressTerms$Reference;" ∈ aw_tw := aw_in1 (List.mem_of_getElem? (i := 108) rfl) rfl
theorem n_fl_At_53 : Cond.fieldLink "AddressTerms" 53 "AddressTerms" "resolver" "LAddressTerms$Resolver;" ∈ aw_tw := aw_in1 (List.mem_of_getElem? (i := 109) rfl) rfl
theorem n_fl_At_57 : Cond.fieldLink "AddressTerms" 57 "AddressTerms" "termCount" "I" ∈ aw_tw := aw_in1 (List.mem_of_getElem? (i := 110) rfl) rfl
theorem n_fl_At_61 : Cond.fieldLink "AddressTerms" 61 "AddressTerms" "prefixCount" "I" ∈ aw_tw := aw_in1 (List.mem_of_getElem? (i := 111) rfl) rfl
theorem n_fl_At_64 : Cond.fieldLink "AddressTerms" 64 "AddressTerms" "baseTerm" "I" ∈ aw_tw := aw_in1 (List.mem_of_getElem? (i := 112) rfl) rfl
theorem n_la_At_tape : Cond.laysFinal "AddressTerms" "AddressTerms" "tape" "LAddressTerms$Row;" ∈ aw_tw := aw_in1 (List.mem_of_getElem? (i := 113) rfl) rfl
theorem n_la_At_printed : Cond.laysFinal "AddressTerms" "AddressTerms" "printed" "LAddressTerms$Row;" ∈ aw_tw := aw_in1 (List.mem_of_getElem? (i := 115) rfl) rfl
theorem n_la_At_terms : Cond.laysFinal "AddressTerms" "AddressTerms" "terms" "[LAddressTerms$Term;" ∈ aw_tw := aw_in1 (List.mem_of_getElem? (i := 117) rfl) rfl
theorem n_la_At_prefixes : Cond.laysFinal "AddressTerms" "AddressTerms" "prefixes" "[LAddressTerms$Prefix;" ∈ aw_tw := aw_in1 (List.mem_of_getElem? (i := 119) rfl) rfl
theorem n_la_At_wanted : Cond.laysFinal "AddressTerms" "AddressTerms" "wanted" "LAddressTerms$Term;" ∈ aw_tw := aw_in1 (List.mem_of_getElem? (i := 121) rfl) rfl
theorem n_la_At_given : Cond.laysFinal "AddressTerms" "AddressTerms" "given" "LAddressTerms$Reference;" ∈ aw_tw := aw_in1 (List.mem_of_getElem? (i := 123) rfl) rfl
theorem n_la_At_known : Cond.laysFinal "AddressTerms" "AddressTerms" "known" "LAddressTerms$Reference;" ∈ aw_tw := aw_in1 (List.mem_of_getElem? (i := 125) rfl) rfl
theorem n_la_At_resolver : Cond.laysFinal "AddressTerms" "AddressTerms" "resolver" "LAddressTerms$Resolver;" ∈ aw_tw := aw_in1 (List.mem_of_getElem? (i := 127) rfl) rfl
theorem n_la_At_termCount : Cond.lays "AddressTerms" "AddressTerms" "termCount" "I" ∈ aw_tw := aw_in1 (List.mem_of_getElem? (i := 129) rfl) rfl
theorem n_la_At_prefixCount : Cond.lays "AddressTerms" "AddressTerms" "prefixCount" "I" ∈ aw_tw := aw_in1 (List.mem_of_getElem? (i := 131) rfl) rfl
theorem n_la_At_baseTerm : Cond.lays "AddressTerms" "AddressTerms" "baseTerm" "I" ∈ aw_tw := aw_in1 (List.mem_of_getElem? (i := 133) rfl) rfl
theorem n_ml_Lw_15 : Cond.methodLink "AddressTermsLaw" 15 y_At_type ∈ aw_tw := aw_in1 (List.mem_of_getElem? (i := 136) rfl) rfl
theorem n_im_At_type : Cond.instanceMethod y_At_type ∈ aw_tw := aw_in1 (List.mem_of_getElem? (i := 137) rfl) rfl
theorem n_se_At_type : Cond.selects (y_At_type).cls y_At_type y_At_type ∈ aw_tw := aw_in1 (List.mem_of_getElem? (i := 138) rfl) rfl
theorem n_co_At_type : Cond.code y_At_type c_At_type 5 (some .int) ∈ aw_tw := aw_in1 (List.mem_of_getElem? (i := 139) rfl) rfl
theorem n_ml_At_67 : Cond.methodLink "AddressTerms" 67 y_At_byteOf ∈ aw_tw := aw_in1 (List.mem_of_getElem? (i := 140) rfl) rfl
theorem n_st_At_byteOf : Cond.static y_At_byteOf ∈ aw_tw := aw_in1 (List.mem_of_getElem? (i := 141) rfl) rfl
theorem n_co_At_byteOf : Cond.code y_At_byteOf c_At_byteOf 3 (some .int) ∈ aw_tw := aw_in1 (List.mem_of_getElem? (i := 142) rfl) rfl
theorem n_ct_At_246 : Cond.constantLong "AddressTerms" 246 (255) ∈ aw_tw := aw_in1 (List.mem_of_getElem? (i := 143) rfl) rfl
theorem n_ml_At_71 : Cond.methodLink "AddressTerms" 71 y_At_isTapeByte ∈ aw_tw := aw_in1 (List.mem_of_getElem? (i := 144) rfl) rfl
theorem n_st_At_isTapeByte : Cond.static y_At_isTapeByte ∈ aw_tw := aw_in1 (List.mem_of_getElem? (i := 145) rfl) rfl
theorem n_co_At_isTapeByte : Cond.code y_At_isTapeByte c_At_isTapeByte 1 (some .boolean) ∈ aw_tw := aw_in1 (List.mem_of_getElem? (i := 146) rfl) rfl
theorem n_ml_At_75 : Cond.methodLink "AddressTerms" 75 y_Rw_size ∈ aw_tw := aw_in1 (List.mem_of_getElem? (i := 147) rfl) rfl
theorem n_im_Rw_size : Cond.instanceMethod y_Rw_size ∈ aw_tw := aw_in1 (List.mem_of_getElem? (i := 148) rfl) rfl
theorem n_se_Rw_size : Cond.selects (y_Rw_size).cls y_Rw_size y_Rw_size ∈ aw_tw := aw_in1 (List.mem_of_getElem? (i := 149) rfl) rfl
theorem n_co_Rw_size : Cond.code y_Rw_size c_Rw_size 1 (some .int) ∈ aw_tw := aw_in1 (List.mem_of_getElem? (i := 150) rfl) rfl
theorem n_ml_At_79 : Cond.methodLink "AddressTerms" 79 y_Rw_add ∈ aw_tw := aw_in1 (List.mem_of_getElem? (i := 151) rfl) rfl
theorem n_im_Rw_add : Cond.instanceMethod y_Rw_add ∈ aw_tw := aw_in1 (List.mem_of_getElem? (i := 152) rfl) rfl
theorem n_se_Rw_add : Cond.selects (y_Rw_add).cls y_Rw_add y_Rw_add ∈ aw_tw := aw_in1 (List.mem_of_getElem? (i := 153) rfl) rfl
theorem n_co_Rw_add : Cond.code y_Rw_add c_Rw_add 2 none ∈ aw_tw := aw_in1 (List.mem_of_getElem? (i := 154) rfl) rfl
theorem n_ml_Lw_20 : Cond.methodLink "AddressTermsLaw" 20 y_At_resolve ∈ aw_tw := aw_in1 (List.mem_of_getElem? (i := 155) rfl) rfl
theorem n_im_At_resolve : Cond.instanceMethod y_At_resolve ∈ aw_tw := aw_in1 (List.mem_of_getElem? (i := 156) rfl) rfl
theorem n_se_At_resolve : Cond.selects (y_At_resolve).cls y_At_resolve y_At_resolve ∈ aw_tw := aw_in1 (List.mem_of_getElem? (i := 157) rfl) rfl
theorem n_co_At_resolve : Cond.code y_At_resolve c_At_resolve 2 (some .int) ∈ aw_tw := aw_in1 (List.mem_of_getElem? (i := 158) rfl) rfl
theorem n_ml_At_82 : Cond.methodLink "AddressTerms" 82 y_At_addressOnTape ∈ aw_tw := aw_in1 (List.mem_of_getElem? (i := 159) rfl) rfl
theorem n_im_At_addressOnTape : Cond.instanceMethod y_At_addressOnTape ∈ aw_tw := aw_in1 (List.mem_of_getElem? (i := 161) rfl) rfl
theorem n_co_At_addressOnTape : Cond.code y_At_addressOnTape c_At_addressOnTape 3 (some .int) ∈ aw_tw := aw_in1 (List.mem_of_getElem? (i := 162) rfl) rfl
theorem n_ml_At_169 : Cond.methodLink "AddressTerms" 169 y_At_wrongInReference ∈ aw_tw := aw_in1 (List.mem_of_getElem? (i := 163) rfl) rfl
theorem n_st_At_wrongInReference : Cond.static y_At_wrongInReference ∈ aw_tw := aw_in1 (List.mem_of_getElem? (i := 164) rfl) rfl
theorem n_co_At_wrongInReference : Cond.code y_At_wrongInReference c_At_wrongInReference 3 (some .int) ∈ aw_tw := aw_in1 (List.mem_of_getElem? (i := 165) rfl) rfl
theorem n_ml_At_162 : Cond.methodLink "AddressTerms" 162 y_Rw_byteAt ∈ aw_tw := aw_in1 (List.mem_of_getElem? (i := 166) rfl) rfl
theorem n_im_Rw_byteAt : Cond.instanceMethod y_Rw_byteAt ∈ aw_tw := aw_in1 (List.mem_of_getElem? (i := 167) rfl) rfl
theorem n_se_Rw_byteAt : Cond.selects (y_Rw_byteAt).cls y_Rw_byteAt y_Rw_byteAt ∈ aw_tw := aw_in1 (List.mem_of_getElem? (i := 168) rfl) rfl
theorem n_co_Rw_byteAt : Cond.code y_Rw_byteAt c_Rw_byteAt 2 (some .int) ∈ aw_tw := aw_in1 (List.mem_of_getElem? (i := 169) rfl) rfl
theorem n_ml_At_267 : Cond.methodLink "AddressTerms" 267 y_At_isReferenceByte ∈ aw_tw := aw_in1 (List.mem_of_getElem? (i := 170) rfl) rfl
theorem n_st_At_isReferenceByte : Cond.static y_At_isReferenceByte ∈ aw_tw := aw_in1 (List.mem_of_getElem? (i := 171) rfl) rfl
theorem n_co_At_isReferenceByte : Cond.code y_At_isReferenceByte c_At_isReferenceByte 1 (some .boolean) ∈ aw_tw := aw_in1 (List.mem_of_getElem? (i := 172) rfl) rfl
theorem n_ml_At_250 : Cond.methodLink "AddressTerms" 250 y_Js_indexOf1 ∈ aw_tw := aw_in1 (List.mem_of_getElem? (i := 174) rfl) rfl
theorem n_im_Js_indexOf1 : Cond.instanceMethod y_Js_indexOf1 ∈ aw_tw := aw_in1 (List.mem_of_getElem? (i := 175) rfl) rfl
theorem n_se_Js_indexOf1 : Cond.selects (y_Js_indexOf1).cls y_Js_indexOf1 y_Js_indexOf1 ∈ aw_tw := aw_in1 (List.mem_of_getElem? (i := 176) rfl) rfl
theorem n_co_Js_indexOf1 : Cond.code y_Js_indexOf1 c_Js_indexOf1 2 (some .int) ∈ aw_tw := aw_in1 (List.mem_of_getElem? (i := 177) rfl) rfl
theorem n_ml_Js_633 : Cond.methodLink "java/lang/String" 633 y_Js_indexOf2 ∈ aw_tw := aw_in1 (List.mem_of_getElem? (i := 178) rfl) rfl
theorem n_im_Js_indexOf2 : Cond.instanceMethod y_Js_indexOf2 ∈ aw_tw := aw_in1 (List.mem_of_getElem? (i := 179) rfl) rfl
theorem n_se_Js_indexOf2 : Cond.selects (y_Js_indexOf2).cls y_Js_indexOf2 y_Js_indexOf2 ∈ aw_tw := aw_in1 (List.mem_of_getElem? (i := 180) rfl) rfl
theorem n_co_Js_indexOf2 : Cond.code y_Js_indexOf2 c_Js_indexOf2 3 (some .int) ∈ aw_tw := aw_in1 (List.mem_of_getElem? (i := 181) rfl) rfl
theorem n_ml_Js_492 : Cond.methodLink "java/lang/String" 492 y_Js_isLatin1 ∈ aw_tw := aw_in1 (List.mem_of_getElem? (i := 182) rfl) rfl
theorem n_im_Js_isLatin1 : Cond.instanceMethod y_Js_isLatin1 ∈ aw_tw := aw_in1 (List.mem_of_getElem? (i := 183) rfl) rfl
theorem n_se_Js_isLatin1 : Cond.selects (y_Js_isLatin1).cls y_Js_isLatin1 y_Js_isLatin1 ∈ aw_tw := aw_in1 (List.mem_of_getElem? (i := 184) rfl) rfl
theorem n_co_Js_isLatin1 : Cond.code y_Js_isLatin1 c_Js_isLatin1 1 (some .boolean) ∈ aw_tw := aw_in1 (List.mem_of_getElem? (i := 185) rfl) rfl
theorem n_fl_Js_38 : Cond.fieldLink "java/lang/String" 38 "java/lang/String" "COMPACT_STRINGS" "Z" ∈ aw_tw := aw_in1 (List.mem_of_getElem? (i := 186) rfl) rfl
theorem n_ml_Js_505 : Cond.methodLink "java/lang/String" 505 y_Js_length ∈ aw_tw := aw_in1 (List.mem_of_getElem? (i := 188) rfl) rfl
theorem n_im_Js_length : Cond.instanceMethod y_Js_length ∈ aw_tw := aw_in1 (List.mem_of_getElem? (i := 189) rfl) rfl
theorem n_se_Js_length : Cond.selects (y_Js_length).cls y_Js_length y_Js_length ∈ aw_tw := aw_in1 (List.mem_of_getElem? (i := 190) rfl) rfl
theorem n_co_Js_length : Cond.code y_Js_length c_Js_length 1 (some .int) ∈ aw_tw := aw_in1 (List.mem_of_getElem? (i := 191) rfl) rfl
theorem n_ml_Js_335 : Cond.methodLink "java/lang/String" 335 y_Js_coder ∈ aw_tw := aw_in1 (List.mem_of_getElem? (i := 192) rfl) rfl
theorem n_im_Js_coder : Cond.instanceMethod y_Js_coder ∈ aw_tw := aw_in1 (List.mem_of_getElem? (i := 193) rfl) rfl
theorem n_se_Js_coder : Cond.selects (y_Js_coder).cls y_Js_coder y_Js_coder ∈ aw_tw := aw_in1 (List.mem_of_getElem? (i := 194) rfl) rfl
theorem n_co_Js_coder : Cond.code y_Js_coder c_Js_coder 1 (some .byte) ∈ aw_tw := aw_in1 (List.mem_of_getElem? (i := 195) rfl) rfl
theorem n_ml_Js_637 : Cond.methodLink "java/lang/String" 637 y_Jl_indexOf ∈ aw_tw := aw_in1 (List.mem_of_getElem? (i := 196) rfl) rfl
theorem n_st_Jl_indexOf : Cond.static y_Jl_indexOf ∈ aw_tw := aw_in1 (List.mem_of_getElem? (i := 197) rfl) rfl
theorem n_co_Jl_indexOf : Cond.code y_Jl_indexOf c_Jl_indexOf 4 (some .int) ∈ aw_tw := aw_in1 (List.mem_of_getElem? (i := 198) rfl) rfl
theorem n_ml_Jl_88 : Cond.methodLink "java/lang/StringLatin1" 88 y_Jl_canEncode ∈ aw_tw := aw_in1 (List.mem_of_getElem? (i := 199) rfl) rfl
theorem n_st_Jl_canEncode : Cond.static y_Jl_canEncode ∈ aw_tw := aw_in1 (List.mem_of_getElem? (i := 200) rfl) rfl
theorem n_co_Jl_canEncode : Cond.code y_Jl_canEncode c_Jl_canEncode 1 (some .boolean) ∈ aw_tw := aw_in1 (List.mem_of_getElem? (i := 201) rfl) rfl
theorem n_ml_Jl_92 : Cond.methodLink "java/lang/StringLatin1" 92 Lib.Math.max.name ∈ aw_tw := aw_in1 (List.mem_of_getElem? (i := 202) rfl) rfl
theorem n_ml_Jl_38 : Cond.methodLink "java/lang/StringLatin1" 38 Lib.Math.min.name ∈ aw_tw := aw_in1 (List.mem_of_getElem? (i := 203) rfl) rfl
theorem n_st_Jm_min : Cond.static Lib.Math.min.name ∈ aw_tw := aw_in1 (List.mem_of_getElem? (i := 204) rfl) rfl
theorem n_co_Jm_min : Cond.code Lib.Math.min.name Lib.Math.min.code 2 (some .int) ∈ aw_tw := aw_in1 (List.mem_of_getElem? (i := 205) rfl) rfl
theorem n_ml_Jl_95 : Cond.methodLink "java/lang/StringLatin1" 95 y_Jl_indexOfChar ∈ aw_tw := aw_in1 (List.mem_of_getElem? (i := 206) rfl) rfl
theorem n_st_Jl_indexOfChar : Cond.static y_Jl_indexOfChar ∈ aw_tw := aw_in1 (List.mem_of_getElem? (i := 207) rfl) rfl
theorem n_co_Jl_indexOfChar : Cond.code y_Jl_indexOfChar c_Jl_indexOfChar 6 (some .int) ∈ aw_tw := aw_in1 (List.mem_of_getElem? (i := 208) rfl) rfl
theorem n_st_Js_checkBoundsBeginEnd : Cond.static y_Js_checkBoundsBeginEnd ∈ aw_tw := aw_in1 (List.mem_of_getElem? (i := 225) rfl) rfl
theorem n_co_Js_checkBoundsBeginEnd : Cond.code y_Js_checkBoundsBeginEnd c_Js_checkBoundsBeginEnd 3 none ∈ aw_tw := aw_in1 (List.mem_of_getElem? (i := 226) rfl) rfl
theorem n_fl_Js_1053 : Cond.fieldLink "java/lang/String" 1053 "jdk/internal/util/Preconditions" "SIOOBE_FORMATTER" "Ljava/util/function/BiFunction;" ∈ aw_tw := aw_in1 (List.mem_of_getElem? (i := 227) rfl) rfl
theorem n_ml_Js_1062 : Cond.methodLink "java/lang/String" 1062 y_Jp_checkFromToIndex ∈ aw_tw := aw_in1 (List.mem_of_getElem? (i := 229) rfl) rfl
theorem n_st_Jp_checkFromToIndex : Cond.static y_Jp_checkFromToIndex ∈ aw_tw := aw_in1 (List.mem_of_getElem? (i := 230) rfl) rfl
theorem n_co_Jp_checkFromToIndex : Cond.code y_Jp_checkFromToIndex c_Jp_checkFromToIndex 4 (some .int) ∈ aw_tw := aw_in1 (List.mem_of_getElem? (i := 231) rfl) rfl
theorem n_ml_At_270 : Cond.methodLink "AddressTerms" 270 y_At_hexValue ∈ aw_tw := aw_in2 (List.mem_of_getElem? (i := 18) rfl) rfl
theorem n_st_At_hexValue : Cond.static y_At_hexValue ∈ aw_tw := aw_in2 (List.mem_of_getElem? (i := 19) rfl) rfl
theorem n_co_At_hexValue : Cond.code y_At_hexValue c_At_hexValue 1 (some .int) ∈ aw_tw := aw_in2 (List.mem_of_getElem? (i := 20) rfl) rfl
theorem n_ml_At_264 : Cond.methodLink "AddressTerms" 264 y_At_isDigit ∈ aw_tw := aw_in2 (List.mem_of_getElem? (i := 21) rfl) rfl
theorem n_st_At_isDigit : Cond.static y_At_isDigit ∈ aw_tw := aw_in2 (List.mem_of_getElem? (i := 22) rfl) rfl
theorem n_co_At_isDigit : Cond.code y_At_isDigit c_At_isDigit 1 (some .boolean) ∈ aw_tw := aw_in2 (List.mem_of_getElem? (i := 23) rfl) rfl
theorem n_ml_At_112 : Cond.methodLink "AddressTerms" 112 y_Rf_read ∈ aw_tw := aw_in2 (List.mem_of_getElem? (i := 24) rfl) rfl
theorem n_im_Rf_read : Cond.instanceMethod y_Rf_read ∈ aw_tw := aw_in2 (List.mem_of_getElem? (i := 25) rfl) rfl
theorem n_se_Rf_read : Cond.selects (y_Rf_read).cls y_Rf_read y_Rf_read ∈ aw_tw := aw_in2 (List.mem_of_getElem? (i := 26) rfl) rfl
theorem n_co_Rf_read : Cond.code y_Rf_read c_Rf_read 6 none ∈ aw_tw := aw_in2 (List.mem_of_getElem? (i := 27) rfl) rfl
theorem n_ml_Rf_27 : Cond.methodLink "AddressTerms$Reference" 27 y_Rf_note ∈ aw_tw := aw_in2 (List.mem_of_getElem? (i := 28) rfl) rfl
theorem n_im_Rf_note : Cond.instanceMethod y_Rf_note ∈ aw_tw := aw_in2 (List.mem_of_getElem? (i := 30) rfl) rfl
theorem n_co_Rf_note : Cond.code y_Rf_note c_Rf_note 4 none ∈ aw_tw := aw_in2 (List.mem_of_getElem? (i := 31) rfl) rfl
theorem n_ml_Rf_31 : Cond.methodLink "AddressTerms$Reference" 31 y_Rf_colonOfScheme ∈ aw_tw := aw_in2 (List.mem_of_getElem? (i := 32) rfl) rfl
theorem n_im_Rf_colonOfScheme : Cond.instanceMethod y_Rf_colonOfScheme ∈ aw_tw := aw_in2 (List.mem_of_getElem? (i := 34) rfl) rfl
theorem n_co_Rf_colonOfScheme : Cond.code y_Rf_colonOfScheme c_Rf_colonOfScheme 3 (some .int) ∈ aw_tw := aw_in2 (List.mem_of_getElem? (i := 35) rfl) rfl
theorem n_ml_Rf_51 : Cond.methodLink "AddressTerms$Reference" 51 y_Rw_byteAt ∈ aw_tw := aw_in2 (List.mem_of_getElem? (i := 36) rfl) rfl
theorem n_st_At_isLetter : Cond.static y_At_isLetter ∈ aw_tw := aw_in2 (List.mem_of_getElem? (i := 38) rfl) rfl
theorem n_co_At_isLetter : Cond.code y_At_isLetter c_At_isLetter 1 (some .boolean) ∈ aw_tw := aw_in2 (List.mem_of_getElem? (i := 39) rfl) rfl
theorem n_ml_At_255 : Cond.methodLink "AddressTerms" 255 y_At_isSmallLetter ∈ aw_tw := aw_in2 (List.mem_of_getElem? (i := 40) rfl) rfl
theorem n_st_At_isSmallLetter : Cond.static y_At_isSmallLetter ∈ aw_tw := aw_in2 (List.mem_of_getElem? (i := 41) rfl) rfl
theorem n_co_At_isSmallLetter : Cond.code y_At_isSmallLetter c_At_isSmallLetter 1 (some .boolean) ∈ aw_tw := aw_in2 (List.mem_of_getElem? (i := 42) rfl) rfl
theorem n_ml_At_258 : Cond.methodLink "AddressTerms" 258 y_At_isGreatLetter ∈ aw_tw := aw_in2 (List.mem_of_getElem? (i := 43) rfl) rfl
theorem n_st_At_isGreatLetter : Cond.static y_At_isGreatLetter ∈ aw_tw := aw_in2 (List.mem_of_getElem? (i := 44) rfl) rfl
theorem n_co_At_isGreatLetter : Cond.code y_At_isGreatLetter c_At_isGreatLetter 1 (some .boolean) ∈ aw_tw := aw_in2 (List.mem_of_getElem? (i := 45) rfl) rfl
theorem n_ml_Rf_55 : Cond.methodLink "AddressTerms$Reference" 55 y_Rw_size ∈ aw_tw := aw_in2 (List.mem_of_getElem? (i := 46) rfl) rfl
theorem n_st_At_isLetterOrDigit : Cond.static y_At_isLetterOrDigit ∈ aw_tw := aw_in2 (List.mem_of_getElem? (i := 48) rfl) rfl
theorem n_co_At_isLetterOrDigit : Cond.code y_At_isLetterOrDigit c_At_isLetterOrDigit 1 (some .boolean) ∈ aw_tw := aw_in2 (List.mem_of_getElem? (i := 49) rfl) rfl
theorem n_ml_At_261 : Cond.methodLink "AddressTerms" 261 y_At_isLetter ∈ aw_tw := aw_in2 (List.mem_of_getElem? (i := 50) rfl) rfl
theorem n_ml_Rf_37 : Cond.methodLink "AddressTerms$Reference" 37 y_Rw_hasThere ∈ aw_tw := aw_in2 (List.mem_of_getElem? (i := 52) rfl) rfl
theorem n_im_Rw_hasThere : Cond.instanceMethod y_Rw_hasThere ∈ aw_tw := aw_in2 (List.mem_of_getElem? (i := 53) rfl) rfl
theorem n_se_Rw_hasThere : Cond.selects (y_Rw_hasThere).cls y_Rw_hasThere y_Rw_hasThere ∈ aw_tw := aw_in2 (List.mem_of_getElem? (i := 54) rfl) rfl
theorem n_co_Rw_hasThere : Cond.code y_Rw_hasThere c_Rw_hasThere 4 (some .boolean) ∈ aw_tw := aw_in2 (List.mem_of_getElem? (i := 55) rfl) rfl
theorem n_ml_Rw_36 : Cond.methodLink "AddressTerms$Row" 36 y_Js_length ∈ aw_tw := aw_in2 (List.mem_of_getElem? (i := 56) rfl) rfl
theorem n_ml_Rw_28 : Cond.methodLink "AddressTerms$Row" 28 y_Rw_byteAt ∈ aw_tw := aw_in2 (List.mem_of_getElem? (i := 57) rfl) rfl
theorem n_ml_Rw_41 : Cond.methodLink "AddressTerms$Row" 41 y_Js_charAt ∈ aw_tw := aw_in2 (List.mem_of_getElem? (i := 58) rfl) rfl
theorem n_im_Js_charAt : Cond.instanceMethod y_Js_charAt ∈ aw_tw := aw_in2 (List.mem_of_getElem? (i := 59) rfl) rfl
theorem n_se_Js_charAt : Cond.selects (y_Js_charAt).cls y_Js_charAt y_Js_charAt ∈ aw_tw := aw_in2 (List.mem_of_getElem? (i := 60) rfl) rfl
theorem n_co_Js_charAt : Cond.code y_Js_charAt c_Js_charAt 2 (some .char) ∈ aw_tw := aw_in2 (List.mem_of_getElem? (i := 61) rfl) rfl
theorem n_ml_Js_495 : Cond.methodLink "java/lang/String" 495 y_Jl_charAt ∈ aw_tw := aw_in2 (List.mem_of_getElem? (i := 62) rfl) rfl
theorem n_st_Jl_charAt : Cond.static y_Jl_charAt ∈ aw_tw := aw_in2 (List.mem_of_getElem? (i := 63) rfl) rfl
theorem n_co_Jl_charAt : Cond.code y_Jl_charAt c_Jl_charAt 2 (some .char) ∈ aw_tw := aw_in2 (List.mem_of_getElem? (i := 64) rfl) rfl
theorem n_ml_Jl_9 : Cond.methodLink "java/lang/StringLatin1" 9 y_Js_checkIndex ∈ aw_tw := aw_in2 (List.mem_of_getElem? (i := 65) rfl) rfl
theorem n_st_Js_checkIndex : Cond.static y_Js_checkIndex ∈ aw_tw := aw_in2 (List.mem_of_getElem? (i := 66) rfl) rfl
theorem n_co_Js_checkIndex : Cond.code y_Js_checkIndex c_Js_checkIndex 2 none ∈ aw_tw := aw_in2 (List.mem_of_getElem? (i := 67) rfl) rfl
theorem n_ml_Js_1059 : Cond.methodLink "java/lang/String" 1059 y_Jp_checkIndex ∈ aw_tw := aw_in2 (List.mem_of_getElem? (i := 68) rfl) rfl
theorem n_st_Jp_checkIndex : Cond.static y_Jp_checkIndex ∈ aw_tw := aw_in2 (List.mem_of_getElem? (i := 69) rfl) rfl
theorem n_co_Jp_checkIndex : Cond.code y_Jp_checkIndex c_Jp_checkIndex 3 (some .int) ∈ aw_tw := aw_in2 (List.mem_of_getElem? (i := 70) rfl) rfl
theorem n_ml_Rf_43 : Cond.methodLink "AddressTerms$Reference" 43 y_Rw_nextOf ∈ aw_tw := aw_in2 (List.mem_of_getElem? (i := 79) rfl) rfl
theorem n_im_Rw_nextOf : Cond.instanceMethod y_Rw_nextOf ∈ aw_tw := aw_in2 (List.mem_of_getElem? (i := 80) rfl) rfl
theorem n_se_Rw_nextOf : Cond.selects (y_Rw_nextOf).cls y_Rw_nextOf y_Rw_nextOf ∈ aw_tw := aw_in2 (List.mem_of_getElem? (i := 81) rfl) rfl
theorem n_co_Rw_nextOf : Cond.code y_Rw_nextOf c_Rw_nextOf 4 (some .int) ∈ aw_tw := aw_in2 (List.mem_of_getElem? (i := 82) rfl) rfl
theorem n_ml_Rw_58 : Cond.methodLink "AddressTerms$Row" 58 y_Js_indexOf1 ∈ aw_tw := aw_in2 (List.mem_of_getElem? (i := 83) rfl) rfl
theorem n_ml_At_88 : Cond.methodLink "AddressTerms" 88 y_At_addressAt ∈ aw_tw := aw_in2 (List.mem_of_getElem? (i := 86) rfl) rfl
theorem n_im_At_addressAt : Cond.instanceMethod y_At_addressAt ∈ aw_tw := aw_in2 (List.mem_of_getElem? (i := 88) rfl) rfl
theorem n_co_At_addressAt : Cond.code y_At_addressAt c_At_addressAt 3 (some (.object "AddressTerms$Term")) ∈ aw_tw := aw_in2 (List.mem_of_getElem? (i := 89) rfl) rfl
theorem n_ml_At_122 : Cond.methodLink "AddressTerms" 122 y_At_termAt ∈ aw_tw := aw_in2 (List.mem_of_getElem? (i := 90) rfl) rfl
theorem n_im_At_termAt : Cond.instanceMethod y_At_termAt ∈ aw_tw := aw_in2 (List.mem_of_getElem? (i := 92) rfl) rfl
theorem n_co_At_termAt : Cond.code y_At_termAt c_At_termAt 2 (some (.object "AddressTerms$Term")) ∈ aw_tw := aw_in2 (List.mem_of_getElem? (i := 93) rfl) rfl
theorem n_ml_At_116 : Cond.methodLink "AddressTerms" 116 y_Rf_has ∈ aw_tw := aw_in2 (List.mem_of_getElem? (i := 94) rfl) rfl
theorem n_im_Rf_has : Cond.instanceMethod y_Rf_has ∈ aw_tw := aw_in2 (List.mem_of_getElem? (i := 95) rfl) rfl
theorem n_se_Rf_has : Cond.selects (y_Rf_has).cls y_Rf_has y_Rf_has ∈ aw_tw := aw_in2 (List.mem_of_getElem? (i := 96) rfl) rfl
theorem n_co_Rf_has : Cond.code y_Rf_has c_Rf_has 2 (some .boolean) ∈ aw_tw := aw_in2 (List.mem_of_getElem? (i := 97) rfl) rfl
theorem n_ml_Rf_65 : Cond.methodLink "AddressTerms$Reference" 65 y_Rf_endOf ∈ aw_tw := aw_in2 (List.mem_of_getElem? (i := 98) rfl) rfl
theorem n_im_Rf_endOf : Cond.instanceMethod y_Rf_endOf ∈ aw_tw := aw_in2 (List.mem_of_getElem? (i := 100) rfl) rfl
theorem n_co_Rf_endOf : Cond.code y_Rf_endOf c_Rf_endOf 2 (some .int) ∈ aw_tw := aw_in2 (List.mem_of_getElem? (i := 101) rfl) rfl
theorem n_ml_At_92 : Cond.methodLink "AddressTerms" 92 y_Tm_begin ∈ aw_tw := aw_in2 (List.mem_of_getElem? (i := 102) rfl) rfl
theorem n_im_Tm_begin : Cond.instanceMethod y_Tm_begin ∈ aw_tw := aw_in2 (List.mem_of_getElem? (i := 103) rfl) rfl
theorem n_se_Tm_begin : Cond.selects (y_Tm_begin).cls y_Tm_begin y_Tm_begin ∈ aw_tw := aw_in2 (List.mem_of_getElem? (i := 104) rfl) rfl
theorem n_co_Tm_begin : Cond.code y_Tm_begin c_Tm_begin 4 none ∈ aw_tw := aw_in2 (List.mem_of_getElem? (i := 105) rfl) rfl
theorem n_ml_Tm_33 : Cond.methodLink "AddressTerms$Term" 33 y_Rw_cutTo ∈ aw_tw := aw_in2 (List.mem_of_getElem? (i := 106) rfl) rfl
theorem n_im_Rw_cutTo : Cond.instanceMethod y_Rw_cutTo ∈ aw_tw := aw_in2 (List.mem_of_getElem? (i := 107) rfl) rfl
theorem n_se_Rw_cutTo : Cond.selects (y_Rw_cutTo).cls y_Rw_cutTo y_Rw_cutTo ∈ aw_tw := aw_in2 (List.mem_of_getElem? (i := 108) rfl) rfl
theorem n_co_Rw_cutTo : Cond.code y_Rw_cutTo c_Rw_cutTo 2 none ∈ aw_tw := aw_in2 (List.mem_of_getElem? (i := 109) rfl) rfl
theorem n_ml_At_173 : Cond.methodLink "AddressTerms" 173 y_Rw_addRange ∈ aw_tw := aw_in2 (List.mem_of_getElem? (i := 110) rfl) rfl
theorem n_im_Rw_addRange : Cond.instanceMethod y_Rw_addRange ∈ aw_tw := aw_in2 (List.mem_of_getElem? (i := 111) rfl) rfl
theorem n_se_Rw_addRange : Cond.selects (y_Rw_addRange).cls y_Rw_addRange y_Rw_addRange ∈ aw_tw := aw_in2 (List.mem_of_getElem? (i := 112) rfl) rfl
theorem n_co_Rw_addRange : Cond.code y_Rw_addRange c_Rw_addRange 6 none ∈ aw_tw := aw_in2 (List.mem_of_getElem? (i := 113) rfl) rfl
theorem n_ml_Rw_25 : Cond.methodLink "AddressTerms$Row" 25 Lib.Math.min.name ∈ aw_tw := aw_in2 (List.mem_of_getElem? (i := 114) rfl) rfl
theorem n_ml_Rw_32 : Cond.methodLink "AddressTerms$Row" 32 y_Rw_add ∈ aw_tw := aw_in2 (List.mem_of_getElem? (i := 115) rfl) rfl
theorem n_ml_At_177 : Cond.methodLink "AddressTerms" 177 y_Rs_resolveTo ∈ aw_tw := aw_in2 (List.mem_of_getElem? (i := 116) rfl) rfl
theorem n_im_Rs_resolveTo : Cond.instanceMethod y_Rs_resolveTo ∈ aw_tw := aw_in2 (List.mem_of_getElem? (i := 117) rfl) rfl
theorem n_se_Rs_resolveTo : Cond.selects (y_Rs_resolveTo).cls y_Rs_resolveTo y_Rs_resolveTo ∈ aw_tw := aw_in2 (List.mem_of_getElem? (i := 118) rfl) rfl
theorem n_co_Rs_resolveTo : Cond.code y_Rs_resolveTo c_Rs_resolveTo 8 none ∈ aw_tw := aw_in2 (List.mem_of_getElem? (i := 119) rfl) rfl
theorem n_ml_Rs_20 : Cond.methodLink "AddressTerms$Resolver" 20 y_Rf_has ∈ aw_tw := aw_in2 (List.mem_of_getElem? (i := 120) rfl) rfl
theorem n_ml_Rs_26 : Cond.methodLink "AddressTerms$Resolver" 26 y_Rf_lengthOf ∈ aw_tw := aw_in2 (List.mem_of_getElem? (i := 121) rfl) rfl
theorem n_im_Rf_lengthOf : Cond.instanceMethod y_Rf_lengthOf ∈ aw_tw := aw_in2 (List.mem_of_getElem? (i := 122) rfl) rfl
theorem n_se_Rf_lengthOf : Cond.selects (y_Rf_lengthOf).cls y_Rf_lengthOf y_Rf_lengthOf ∈ aw_tw := aw_in2 (List.mem_of_getElem? (i := 123) rfl) rfl
theorem n_co_Rf_lengthOf : Cond.code y_Rf_lengthOf c_Rf_lengthOf 2 (some .int) ∈ aw_tw := aw_in2 (List.mem_of_getElem? (i := 124) rfl) rfl
theorem n_ml_Rf_68 : Cond.methodLink "AddressTerms$Reference" 68 y_Rf_has ∈ aw_tw := aw_in2 (List.mem_of_getElem? (i := 125) rfl) rfl
theorem n_ml_Rf_71 : Cond.methodLink "AddressTerms$Reference" 71 y_Rf_beginOf ∈ aw_tw := aw_in2 (List.mem_of_getElem? (i := 126) rfl) rfl
theorem n_im_Rf_beginOf : Cond.instanceMethod y_Rf_beginOf ∈ aw_tw := aw_in2 (List.mem_of_getElem? (i := 128) rfl) rfl
theorem n_co_Rf_beginOf : Cond.code y_Rf_beginOf c_Rf_beginOf 2 (some .int) ∈ aw_tw := aw_in2 (List.mem_of_getElem? (i := 129) rfl) rfl
theorem n_ml_Rs_30 : Cond.methodLink "AddressTerms$Resolver" 30 y_Rf_copyTo ∈ aw_tw := aw_in2 (List.mem_of_getElem? (i := 130) rfl) rfl
theorem n_im_Rf_copyTo : Cond.instanceMethod y_Rf_copyTo ∈ aw_tw := aw_in2 (List.mem_of_getElem? (i := 131) rfl) rfl
theorem n_se_Rf_copyTo : Cond.selects (y_Rf_copyTo).cls y_Rf_copyTo y_Rf_copyTo ∈ aw_tw := aw_in2 (List.mem_of_getElem? (i := 132) rfl) rfl
theorem n_co_Rf_copyTo : Cond.code y_Rf_copyTo c_Rf_copyTo 3 none ∈ aw_tw := aw_in2 (List.mem_of_getElem? (i := 133) rfl) rfl
theorem n_ml_Rf_77 : Cond.methodLink "AddressTerms$Reference" 77 y_Rw_addRange ∈ aw_tw := aw_in2 (List.mem_of_getElem? (i := 134) rfl) rfl
theorem n_ml_Rs_34 : Cond.methodLink "AddressTerms$Resolver" 34 y_Rw_add ∈ aw_tw := aw_in2 (List.mem_of_getElem? (i := 135) rfl) rfl
theorem n_ml_Rs_39 : Cond.methodLink "AddressTerms$Resolver" 39 y_Rs_addBehind ∈ aw_tw := aw_in2 (List.mem_of_getElem? (i := 137) rfl) rfl
theorem n_st_Rs_addBehind : Cond.static y_Rs_addBehind ∈ aw_tw := aw_in2 (List.mem_of_getElem? (i := 138) rfl) rfl
theorem n_co_Rs_addBehind : Cond.code y_Rs_addBehind c_Rs_addBehind 4 none ∈ aw_tw := aw_in2 (List.mem_of_getElem? (i := 139) rfl) rfl
theorem n_ml_Rs_55 : Cond.methodLink "AddressTerms$Resolver" 55 y_Rw_addText ∈ aw_tw := aw_in2 (List.mem_of_getElem? (i := 140) rfl) rfl
theorem n_im_Rw_addText : Cond.instanceMethod y_Rw_addText ∈ aw_tw := aw_in2 (List.mem_of_getElem? (i := 141) rfl) rfl
theorem n_se_Rw_addText : Cond.selects (y_Rw_addText).cls y_Rw_addText y_Rw_addText ∈ aw_tw := aw_in2 (List.mem_of_getElem? (i := 142) rfl) rfl
theorem n_co_Rw_addText : Cond.code y_Rw_addText c_Rw_addText 3 none ∈ aw_tw := aw_in2 (List.mem_of_getElem? (i := 143) rfl) rfl
theorem n_ml_Rs_43 : Cond.methodLink "AddressTerms$Resolver" 43 y_Rs_gatherPath ∈ aw_tw := aw_in2 (List.mem_of_getElem? (i := 144) rfl) rfl
theorem n_im_Rs_gatherPath : Cond.instanceMethod y_Rs_gatherPath ∈ aw_tw := aw_in2 (List.mem_of_getElem? (i := 146) rfl) rfl
theorem n_co_Rs_gatherPath : Cond.code y_Rs_gatherPath c_Rs_gatherPath 4 none ∈ aw_tw := aw_in2 (List.mem_of_getElem? (i := 147) rfl) rfl
theorem n_ml_Rs_59 : Cond.methodLink "AddressTerms$Resolver" 59 y_Rw_cutTo ∈ aw_tw := aw_in2 (List.mem_of_getElem? (i := 148) rfl) rfl
theorem n_ml_Rs_62 : Cond.methodLink "AddressTerms$Resolver" 62 y_Rf_hasPathFromTop ∈ aw_tw := aw_in2 (List.mem_of_getElem? (i := 149) rfl) rfl
theorem n_im_Rf_hasPathFromTop : Cond.instanceMethod y_Rf_hasPathFromTop ∈ aw_tw := aw_in2 (List.mem_of_getElem? (i := 150) rfl) rfl
theorem n_se_Rf_hasPathFromTop : Cond.selects (y_Rf_hasPathFromTop).cls y_Rf_hasPathFromTop y_Rf_hasPathFromTop ∈ aw_tw := aw_in2 (List.mem_of_getElem? (i := 151) rfl) rfl
theorem n_co_Rf_hasPathFromTop : Cond.code y_Rf_hasPathFromTop c_Rf_hasPathFromTop 1 (some .boolean) ∈ aw_tw := aw_in2 (List.mem_of_getElem? (i := 152) rfl) rfl
theorem n_ml_Rf_74 : Cond.methodLink "AddressTerms$Reference" 74 y_Rf_lengthOf ∈ aw_tw := aw_in2 (List.mem_of_getElem? (i := 153) rfl) rfl
theorem n_ml_Rs_66 : Cond.methodLink "AddressTerms$Resolver" 66 y_Rf_copyFolderTo ∈ aw_tw := aw_in2 (List.mem_of_getElem? (i := 154) rfl) rfl
theorem n_im_Rf_copyFolderTo : Cond.instanceMethod y_Rf_copyFolderTo ∈ aw_tw := aw_in2 (List.mem_of_getElem? (i := 155) rfl) rfl
theorem n_se_Rf_copyFolderTo : Cond.selects (y_Rf_copyFolderTo).cls y_Rf_copyFolderTo y_Rf_copyFolderTo ∈ aw_tw := aw_in2 (List.mem_of_getElem? (i := 156) rfl) rfl
theorem n_co_Rf_copyFolderTo : Cond.code y_Rf_copyFolderTo c_Rf_copyFolderTo 3 none ∈ aw_tw := aw_in2 (List.mem_of_getElem? (i := 157) rfl) rfl
theorem n_ml_Rf_81 : Cond.methodLink "AddressTerms$Reference" 81 y_Rw_lastSlash ∈ aw_tw := aw_in2 (List.mem_of_getElem? (i := 158) rfl) rfl
theorem n_im_Rw_lastSlash : Cond.instanceMethod y_Rw_lastSlash ∈ aw_tw := aw_in2 (List.mem_of_getElem? (i := 159) rfl) rfl
theorem n_se_Rw_lastSlash : Cond.selects (y_Rw_lastSlash).cls y_Rw_lastSlash y_Rw_lastSlash ∈ aw_tw := aw_in2 (List.mem_of_getElem? (i := 160) rfl) rfl
theorem n_co_Rw_lastSlash : Cond.code y_Rw_lastSlash c_Rw_lastSlash 4 (some .int) ∈ aw_tw := aw_in2 (List.mem_of_getElem? (i := 161) rfl) rfl
theorem n_ml_Rs_47 : Cond.methodLink "AddressTerms$Resolver" 47 y_Rs_addPlainPath ∈ aw_tw := aw_in2 (List.mem_of_getElem? (i := 162) rfl) rfl
theorem n_im_Rs_addPlainPath : Cond.instanceMethod y_Rs_addPlainPath ∈ aw_tw := aw_in2 (List.mem_of_getElem? (i := 164) rfl) rfl
theorem n_co_Rs_addPlainPath : Cond.code y_Rs_addPlainPath c_Rs_addPlainPath 7 none ∈ aw_tw := aw_in2 (List.mem_of_getElem? (i := 165) rfl) rfl
theorem n_ml_Rs_69 : Cond.methodLink "AddressTerms$Resolver" 69 y_Rw_size ∈ aw_tw := aw_in2 (List.mem_of_getElem? (i := 166) rfl) rfl
theorem n_ml_Rs_75 : Cond.methodLink "AddressTerms$Resolver" 75 y_Rw_hasThere ∈ aw_tw := aw_in2 (List.mem_of_getElem? (i := 168) rfl) rfl
theorem n_ml_Rs_85 : Cond.methodLink "AddressTerms$Resolver" 85 y_Rw_isRest ∈ aw_tw := aw_in2 (List.mem_of_getElem? (i := 172) rfl) rfl
theorem n_im_Rw_isRest : Cond.instanceMethod y_Rw_isRest ∈ aw_tw := aw_in2 (List.mem_of_getElem? (i := 173) rfl) rfl
theorem n_se_Rw_isRest : Cond.selects (y_Rw_isRest).cls y_Rw_isRest y_Rw_isRest ∈ aw_tw := aw_in2 (List.mem_of_getElem? (i := 174) rfl) rfl
theorem n_co_Rw_isRest : Cond.code y_Rw_isRest c_Rw_isRest 3 (some .boolean) ∈ aw_tw := aw_in2 (List.mem_of_getElem? (i := 175) rfl) rfl
theorem n_ml_Rw_54 : Cond.methodLink "AddressTerms$Row" 54 y_Rw_hasThere ∈ aw_tw := aw_in2 (List.mem_of_getElem? (i := 176) rfl) rfl
theorem n_ml_Rs_88 : Cond.methodLink "AddressTerms$Resolver" 88 y_Rw_set ∈ aw_tw := aw_in2 (List.mem_of_getElem? (i := 177) rfl) rfl
theorem n_im_Rw_set : Cond.instanceMethod y_Rw_set ∈ aw_tw := aw_in2 (List.mem_of_getElem? (i := 178) rfl) rfl
theorem n_se_Rw_set : Cond.selects (y_Rw_set).cls y_Rw_set y_Rw_set ∈ aw_tw := aw_in2 (List.mem_of_getElem? (i := 179) rfl) rfl
theorem n_co_Rw_set : Cond.code y_Rw_set c_Rw_set 3 none ∈ aw_tw := aw_in2 (List.mem_of_getElem? (i := 180) rfl) rfl
theorem n_ml_Rs_94 : Cond.methodLink "AddressTerms$Resolver" 94 y_Rs_dropLast ∈ aw_tw := aw_in2 (List.mem_of_getElem? (i := 182) rfl) rfl
theorem n_st_Rs_dropLast : Cond.static y_Rs_dropLast ∈ aw_tw := aw_in2 (List.mem_of_getElem? (i := 183) rfl) rfl
theorem n_co_Rs_dropLast : Cond.code y_Rs_dropLast c_Rs_dropLast 3 none ∈ aw_tw := aw_in2 (List.mem_of_getElem? (i := 184) rfl) rfl
theorem n_ml_Rs_113 : Cond.methodLink "AddressTerms$Resolver" 113 y_Rw_lastSlash ∈ aw_tw := aw_in2 (List.mem_of_getElem? (i := 185) rfl) rfl
theorem n_ml_Rs_105 : Cond.methodLink "AddressTerms$Resolver" 105 y_Rw_nextOf ∈ aw_tw := aw_in2 (List.mem_of_getElem? (i := 190) rfl) rfl
theorem n_ml_Rs_109 : Cond.methodLink "AddressTerms$Resolver" 109 y_Rw_addRange ∈ aw_tw := aw_in2 (List.mem_of_getElem? (i := 191) rfl) rfl
theorem n_ml_At_96 : Cond.methodLink "AddressTerms" 96 y_At_placeOfWanted ∈ aw_tw := aw_in2 (List.mem_of_getElem? (i := 194) rfl) rfl
theorem n_im_At_placeOfWanted : Cond.instanceMethod y_At_placeOfWanted ∈ aw_tw := aw_in2 (List.mem_of_getElem? (i := 196) rfl) rfl
theorem n_co_At_placeOfWanted : Cond.code y_At_placeOfWanted c_At_placeOfWanted 3 (some .int) ∈ aw_tw := aw_in2 (List.mem_of_getElem? (i := 197) rfl) rfl
theorem n_ml_At_138 : Cond.methodLink "AddressTerms" 138 y_Tm_order ∈ aw_tw := aw_in2 (List.mem_of_getElem? (i := 198) rfl) rfl
theorem n_im_Tm_order : Cond.instanceMethod y_Tm_order ∈ aw_tw := aw_in2 (List.mem_of_getElem? (i := 199) rfl) rfl
theorem n_se_Tm_order : Cond.selects (y_Tm_order).cls y_Tm_order y_Tm_order ∈ aw_tw := aw_in2 (List.mem_of_getElem? (i := 200) rfl) rfl
theorem n_co_Tm_order : Cond.code y_Tm_order c_Tm_order 3 (some .int) ∈ aw_tw := aw_in2 (List.mem_of_getElem? (i := 201) rfl) rfl
theorem n_ml_Tm_51 : Cond.methodLink "AddressTerms$Term" 51 y_Tm_rank ∈ aw_tw := aw_in2 (List.mem_of_getElem? (i := 202) rfl) rfl
theorem n_im_Tm_rank : Cond.instanceMethod y_Tm_rank ∈ aw_tw := aw_in2 (List.mem_of_getElem? (i := 204) rfl) rfl
theorem n_co_Tm_rank : Cond.code y_Tm_rank c_Tm_rank 1 (some .int) ∈ aw_tw := aw_in2 (List.mem_of_getElem? (i := 205) rfl) rfl
theorem n_st_At_orderOf : Cond.static y_At_orderOf ∈ aw_tw := aw_in2 (List.mem_of_getElem? (i := 207) rfl) rfl
theorem n_co_At_orderOf : Cond.code y_At_orderOf c_At_orderOf 2 (some .int) ∈ aw_tw := aw_in2 (List.mem_of_getElem? (i := 208) rfl) rfl
theorem n_ml_Tm_58 : Cond.methodLink "AddressTerms$Term" 58 y_Rw_order ∈ aw_tw := aw_in2 (List.mem_of_getElem? (i := 209) rfl) rfl
theorem n_im_Rw_order : Cond.instanceMethod y_Rw_order ∈ aw_tw := aw_in2 (List.mem_of_getElem? (i := 210) rfl) rfl
theorem n_se_Rw_order : Cond.selects (y_Rw_order).cls y_Rw_order y_Rw_order ∈ aw_tw := aw_in2 (List.mem_of_getElem? (i := 211) rfl) rfl
theorem n_co_Rw_order : Cond.code y_Rw_order c_Rw_order 5 (some .int) ∈ aw_tw := aw_in2 (List.mem_of_getElem? (i := 212) rfl) rfl
theorem n_ml_At_165 : Cond.methodLink "AddressTerms" 165 y_Tm_copy ∈ aw_tw := aw_in2 (List.mem_of_getElem? (i := 214) rfl) rfl
theorem n_im_Tm_copy : Cond.instanceMethod y_Tm_copy ∈ aw_tw := aw_in2 (List.mem_of_getElem? (i := 215) rfl) rfl
theorem n_se_Tm_copy : Cond.selects (y_Tm_copy).cls y_Tm_copy y_Tm_copy ∈ aw_tw := aw_in2 (List.mem_of_getElem? (i := 216) rfl) rfl
theorem n_co_Tm_copy : Cond.code y_Tm_copy c_Tm_copy 2 (some (.object "AddressTerms$Term")) ∈ aw_tw := aw_in2 (List.mem_of_getElem? (i := 217) rfl) rfl
theorem n_cl_Tm_10 : Cond.classLink "AddressTerms$Term" 10 "AddressTerms$Term" ∈ aw_tw := aw_in2 (List.mem_of_getElem? (i := 218) rfl) rfl
theorem n_ml_Tm_36 : Cond.methodLink "AddressTerms$Term" 36 y_Rw_size ∈ aw_tw := aw_in2 (List.mem_of_getElem? (i := 219) rfl) rfl
theorem n_ml_Tm_40 : Cond.methodLink "AddressTerms$Term" 40 y_Tm_init ∈ aw_tw := aw_in2 (List.mem_of_getElem? (i := 220) rfl) rfl
theorem n_ml_Tm_43 : Cond.methodLink "AddressTerms$Term" 43 y_Tm_begin ∈ aw_tw := aw_in2 (List.mem_of_getElem? (i := 221) rfl) rfl
theorem n_ml_Tm_47 : Cond.methodLink "AddressTerms$Term" 47 y_Rw_addRange ∈ aw_tw := aw_in2 (List.mem_of_getElem? (i := 222) rfl) rfl
theorem n_ml_At_85 : Cond.methodLink "AddressTerms" 85 y_Rw_cutTo ∈ aw_tw := aw_in2 (List.mem_of_getElem? (i := 223) rfl) rfl
theorem n_ml_Lw_25 : Cond.methodLink "AddressTermsLaw" 25 y_At_base ∈ aw_tw := aw_in2 (List.mem_of_getElem? (i := 224) rfl) rfl
theorem n_im_At_base : Cond.instanceMethod y_At_base ∈ aw_tw := aw_in2 (List.mem_of_getElem? (i := 225) rfl) rfl
theorem n_se_At_base : Cond.selects (y_At_base).cls y_At_base y_At_base ∈ aw_tw := aw_in2 (List.mem_of_getElem? (i := 226) rfl) rfl
theorem n_co_At_base : Cond.code y_At_base c_At_base 2 (some .int) ∈ aw_tw := aw_in2 (List.mem_of_getElem? (i := 227) rfl) rfl
theorem n_ml_Lw_30 : Cond.methodLink "AddressTermsLaw" 30 y_At_label ∈ aw_tw := aw_in2 (List.mem_of_getElem? (i := 228) rfl) rfl
theorem n_im_At_label : Cond.instanceMethod y_At_label ∈ aw_tw := aw_in2 (List.mem_of_getElem? (i := 229) rfl) rfl
theorem n_se_At_label : Cond.selects (y_At_label).cls y_At_label y_At_label ∈ aw_tw := aw_in2 (List.mem_of_getElem? (i := 230) rfl) rfl
theorem n_co_At_label : Cond.code y_At_label c_At_label 2 (some .int) ∈ aw_tw := aw_in2 (List.mem_of_getElem? (i := 231) rfl) rfl
theorem n_ml_Lw_34 : Cond.methodLink "AddressTermsLaw" 34 y_At_literal ∈ aw_tw := aw_in2 (List.mem_of_getElem? (i := 232) rfl) rfl
theorem n_im_At_literal : Cond.instanceMethod y_At_literal ∈ aw_tw := aw_in2 (List.mem_of_getElem? (i := 233) rfl) rfl
theorem n_se_At_literal : Cond.selects (y_At_literal).cls y_At_literal y_At_literal ∈ aw_tw := aw_in2 (List.mem_of_getElem? (i := 234) rfl) rfl
theorem n_co_At_literal : Cond.code y_At_literal c_At_literal 3 (some .int) ∈ aw_tw := aw_in2 (List.mem_of_getElem? (i := 235) rfl) rfl
theorem n_ml_At_99 : Cond.methodLink "AddressTerms" 99 y_At_literalOnTape ∈ aw_tw := aw_in2 (List.mem_of_getElem? (i := 236) rfl) rfl
theorem n_im_At_literalOnTape : Cond.instanceMethod y_At_literalOnTape ∈ aw_tw := aw_in2 (List.mem_of_getElem? (i := 238) rfl) rfl
theorem n_co_At_literalOnTape : Cond.code y_At_literalOnTape c_At_literalOnTape 3 (some .int) ∈ aw_tw := aw_in2 (List.mem_of_getElem? (i := 239) rfl) rfl
theorem n_ml_At_181 : Cond.methodLink "AddressTerms" 181 y_At_readText ∈ aw_tw := aw_in3 (List.mem_of_getElem? (i := 0) rfl) rfl
theorem n_st_At_readText : Cond.static y_At_readText ∈ aw_tw := aw_in3 (List.mem_of_getElem? (i := 1) rfl) rfl
theorem n_co_At_readText : Cond.code y_At_readText c_At_readText 6 (some .int) ∈ aw_tw := aw_in3 (List.mem_of_getElem? (i := 2) rfl) rfl
theorem n_ml_At_276 : Cond.methodLink "AddressTerms" 276 y_At_escapedByte ∈ aw_tw := aw_in3 (List.mem_of_getElem? (i := 3) rfl) rfl
theorem n_st_At_escapedByte : Cond.static y_At_escapedByte ∈ aw_tw := aw_in3 (List.mem_of_getElem? (i := 4) rfl) rfl
theorem n_co_At_escapedByte : Cond.code y_At_escapedByte c_At_escapedByte 2 (some .int) ∈ aw_tw := aw_in3 (List.mem_of_getElem? (i := 5) rfl) rfl
theorem n_ml_At_280 : Cond.methodLink "AddressTerms" 280 y_At_hexByte ∈ aw_tw := aw_in3 (List.mem_of_getElem? (i := 6) rfl) rfl
theorem n_st_At_hexByte : Cond.static y_At_hexByte ∈ aw_tw := aw_in3 (List.mem_of_getElem? (i := 7) rfl) rfl
theorem n_co_At_hexByte : Cond.code y_At_hexByte c_At_hexByte 5 (some .int) ∈ aw_tw := aw_in3 (List.mem_of_getElem? (i := 8) rfl) rfl
theorem n_ml_At_283 : Cond.methodLink "AddressTerms" 283 y_At_isTextByte ∈ aw_tw := aw_in3 (List.mem_of_getElem? (i := 9) rfl) rfl
theorem n_st_At_isTextByte : Cond.static y_At_isTextByte ∈ aw_tw := aw_in3 (List.mem_of_getElem? (i := 10) rfl) rfl
theorem n_co_At_isTextByte : Cond.code y_At_isTextByte c_At_isTextByte 1 (some .boolean) ∈ aw_tw := aw_in3 (List.mem_of_getElem? (i := 11) rfl) rfl
theorem n_ml_Lw_38 : Cond.methodLink "AddressTermsLaw" 38 y_At_tagged ∈ aw_tw := aw_in3 (List.mem_of_getElem? (i := 12) rfl) rfl
theorem n_im_At_tagged : Cond.instanceMethod y_At_tagged ∈ aw_tw := aw_in3 (List.mem_of_getElem? (i := 13) rfl) rfl
theorem n_se_At_tagged : Cond.selects (y_At_tagged).cls y_At_tagged y_At_tagged ∈ aw_tw := aw_in3 (List.mem_of_getElem? (i := 14) rfl) rfl
theorem n_co_At_tagged : Cond.code y_At_tagged c_At_tagged 3 (some .int) ∈ aw_tw := aw_in3 (List.mem_of_getElem? (i := 15) rfl) rfl
theorem n_ml_At_103 : Cond.methodLink "AddressTerms" 103 y_At_tagOnTape ∈ aw_tw := aw_in3 (List.mem_of_getElem? (i := 16) rfl) rfl
theorem n_im_At_tagOnTape : Cond.instanceMethod y_At_tagOnTape ∈ aw_tw := aw_in3 (List.mem_of_getElem? (i := 18) rfl) rfl
theorem n_co_At_tagOnTape : Cond.code y_At_tagOnTape c_At_tagOnTape 5 (some .int) ∈ aw_tw := aw_in3 (List.mem_of_getElem? (i := 19) rfl) rfl
theorem n_ml_At_128 : Cond.methodLink "AddressTerms" 128 y_At_literalAt ∈ aw_tw := aw_in3 (List.mem_of_getElem? (i := 20) rfl) rfl
theorem n_im_At_literalAt : Cond.instanceMethod y_At_literalAt ∈ aw_tw := aw_in3 (List.mem_of_getElem? (i := 22) rfl) rfl
theorem n_co_At_literalAt : Cond.code y_At_literalAt c_At_literalAt 3 (some (.object "AddressTerms$Term")) ∈ aw_tw := aw_in3 (List.mem_of_getElem? (i := 23) rfl) rfl
theorem n_ml_At_185 : Cond.methodLink "AddressTerms" 185 y_At_wrongInTag ∈ aw_tw := aw_in3 (List.mem_of_getElem? (i := 24) rfl) rfl
theorem n_st_At_wrongInTag : Cond.static y_At_wrongInTag ∈ aw_tw := aw_in3 (List.mem_of_getElem? (i := 25) rfl) rfl
theorem n_co_At_wrongInTag : Cond.code y_At_wrongInTag c_At_wrongInTag 7 (some .int) ∈ aw_tw := aw_in3 (List.mem_of_getElem? (i := 26) rfl) rfl
theorem n_ml_At_273 : Cond.methodLink "AddressTerms" 273 y_At_isLetterOrDigit ∈ aw_tw := aw_in3 (List.mem_of_getElem? (i := 27) rfl) rfl
theorem n_ml_At_191 : Cond.methodLink "AddressTerms" 191 y_At_smallOf ∈ aw_tw := aw_in3 (List.mem_of_getElem? (i := 28) rfl) rfl
theorem n_st_At_smallOf : Cond.static y_At_smallOf ∈ aw_tw := aw_in3 (List.mem_of_getElem? (i := 29) rfl) rfl
theorem n_co_At_smallOf : Cond.code y_At_smallOf c_At_smallOf 1 (some .int) ∈ aw_tw := aw_in3 (List.mem_of_getElem? (i := 30) rfl) rfl
theorem n_ml_Lw_42 : Cond.methodLink "AddressTermsLaw" 42 y_At_prefix ∈ aw_tw := aw_in3 (List.mem_of_getElem? (i := 31) rfl) rfl
theorem n_im_At_prefix : Cond.instanceMethod y_At_prefix ∈ aw_tw := aw_in3 (List.mem_of_getElem? (i := 32) rfl) rfl
theorem n_se_At_prefix : Cond.selects (y_At_prefix).cls y_At_prefix y_At_prefix ∈ aw_tw := aw_in3 (List.mem_of_getElem? (i := 33) rfl) rfl
theorem n_co_At_prefix : Cond.code y_At_prefix c_At_prefix 3 (some .int) ∈ aw_tw := aw_in3 (List.mem_of_getElem? (i := 34) rfl) rfl
theorem n_ml_At_106 : Cond.methodLink "AddressTerms" 106 y_At_nameOnTape ∈ aw_tw := aw_in3 (List.mem_of_getElem? (i := 35) rfl) rfl
theorem n_im_At_nameOnTape : Cond.instanceMethod y_At_nameOnTape ∈ aw_tw := aw_in3 (List.mem_of_getElem? (i := 37) rfl) rfl
theorem n_co_At_nameOnTape : Cond.code y_At_nameOnTape c_At_nameOnTape 5 (some .int) ∈ aw_tw := aw_in3 (List.mem_of_getElem? (i := 38) rfl) rfl
theorem n_ml_At_194 : Cond.methodLink "AddressTerms" 194 y_At_isName ∈ aw_tw := aw_in3 (List.mem_of_getElem? (i := 39) rfl) rfl
theorem n_st_At_isName : Cond.static y_At_isName ∈ aw_tw := aw_in3 (List.mem_of_getElem? (i := 40) rfl) rfl
theorem n_co_At_isName : Cond.code y_At_isName c_At_isName 2 (some .boolean) ∈ aw_tw := aw_in3 (List.mem_of_getElem? (i := 41) rfl) rfl
theorem n_ml_At_198 : Cond.methodLink "AddressTerms" 198 y_At_prefixAt ∈ aw_tw := aw_in3 (List.mem_of_getElem? (i := 42) rfl) rfl
theorem n_im_At_prefixAt : Cond.instanceMethod y_At_prefixAt ∈ aw_tw := aw_in3 (List.mem_of_getElem? (i := 44) rfl) rfl
theorem n_co_At_prefixAt : Cond.code y_At_prefixAt c_At_prefixAt 2 (some (.object "AddressTerms$Prefix")) ∈ aw_tw := aw_in3 (List.mem_of_getElem? (i := 45) rfl) rfl
theorem n_ml_At_205 : Cond.methodLink "AddressTerms" 205 y_Rw_order ∈ aw_tw := aw_in3 (List.mem_of_getElem? (i := 46) rfl) rfl
theorem n_ib_Px : Cond.instantiable "AddressTerms$Prefix" 2 ∈ aw_tw := aw_in3 (List.mem_of_getElem? (i := 47) rfl) rfl
theorem n_ml_At_210 : Cond.methodLink "AddressTerms" 210 y_Rw_copy ∈ aw_tw := aw_in3 (List.mem_of_getElem? (i := 48) rfl) rfl
theorem n_im_Rw_copy : Cond.instanceMethod y_Rw_copy ∈ aw_tw := aw_in3 (List.mem_of_getElem? (i := 49) rfl) rfl
theorem n_se_Rw_copy : Cond.selects (y_Rw_copy).cls y_Rw_copy y_Rw_copy ∈ aw_tw := aw_in3 (List.mem_of_getElem? (i := 50) rfl) rfl
theorem n_co_Rw_copy : Cond.code y_Rw_copy c_Rw_copy 2 (some (.object "AddressTerms$Row")) ∈ aw_tw := aw_in3 (List.mem_of_getElem? (i := 51) rfl) rfl
theorem n_cl_Rw_10 : Cond.classLink "AddressTerms$Row" 10 "AddressTerms$Row" ∈ aw_tw := aw_in3 (List.mem_of_getElem? (i := 52) rfl) rfl
theorem n_ml_Rw_45 : Cond.methodLink "AddressTerms$Row" 45 y_Rw_init ∈ aw_tw := aw_in3 (List.mem_of_getElem? (i := 53) rfl) rfl
theorem n_ml_Rw_47 : Cond.methodLink "AddressTerms$Row" 47 y_Rw_addRange ∈ aw_tw := aw_in3 (List.mem_of_getElem? (i := 54) rfl) rfl
theorem n_ml_At_213 : Cond.methodLink "AddressTerms" 213 y_Px_init ∈ aw_tw := aw_in3 (List.mem_of_getElem? (i := 55) rfl) rfl
theorem n_im_Px_init : Cond.instanceMethod y_Px_init ∈ aw_tw := aw_in3 (List.mem_of_getElem? (i := 56) rfl) rfl
theorem n_co_Px_init : Cond.code y_Px_init c_Px_init 3 none ∈ aw_tw := aw_in3 (List.mem_of_getElem? (i := 57) rfl) rfl
theorem n_ml_Px_1 : Cond.methodLink "AddressTerms$Prefix" 1 objectInit ∈ aw_tw := aw_in3 (List.mem_of_getElem? (i := 58) rfl) rfl
theorem n_fl_Px_7 : Cond.fieldLink "AddressTerms$Prefix" 7 "AddressTerms$Prefix" "name" "LAddressTerms$Row;" ∈ aw_tw := aw_in3 (List.mem_of_getElem? (i := 59) rfl) rfl
theorem n_fl_At_202 : Cond.fieldLink "AddressTerms" 202 "AddressTerms$Prefix" "name" "LAddressTerms$Row;" ∈ aw_tw := aw_in3 (List.mem_of_getElem? (i := 60) rfl) rfl
theorem n_fl_Px_13 : Cond.fieldLink "AddressTerms$Prefix" 13 "AddressTerms$Prefix" "address" "LAddressTerms$Row;" ∈ aw_tw := aw_in3 (List.mem_of_getElem? (i := 61) rfl) rfl
theorem n_fl_At_207 : Cond.fieldLink "AddressTerms" 207 "AddressTerms$Prefix" "address" "LAddressTerms$Row;" ∈ aw_tw := aw_in3 (List.mem_of_getElem? (i := 62) rfl) rfl
theorem n_la_Px_name : Cond.laysFinal "AddressTerms$Prefix" "AddressTerms$Prefix" "name" "LAddressTerms$Row;" ∈ aw_tw := aw_in3 (List.mem_of_getElem? (i := 63) rfl) rfl
theorem n_la_Px_address : Cond.lays "AddressTerms$Prefix" "AddressTerms$Prefix" "address" "LAddressTerms$Row;" ∈ aw_tw := aw_in3 (List.mem_of_getElem? (i := 65) rfl) rfl
theorem n_ml_Lw_46 : Cond.methodLink "AddressTermsLaw" 46 y_At_part ∈ aw_tw := aw_in3 (List.mem_of_getElem? (i := 68) rfl) rfl
theorem n_im_At_part : Cond.instanceMethod y_At_part ∈ aw_tw := aw_in3 (List.mem_of_getElem? (i := 69) rfl) rfl
theorem n_se_At_part : Cond.selects (y_At_part).cls y_At_part y_At_part ∈ aw_tw := aw_in3 (List.mem_of_getElem? (i := 70) rfl) rfl
theorem n_co_At_part : Cond.code y_At_part c_At_part 4 (some .int) ∈ aw_tw := aw_in3 (List.mem_of_getElem? (i := 71) rfl) rfl
theorem n_ml_At_119 : Cond.methodLink "AddressTerms" 119 y_Rf_lengthOf ∈ aw_tw := aw_in3 (List.mem_of_getElem? (i := 72) rfl) rfl
theorem n_ml_Lw_51 : Cond.methodLink "AddressTermsLaw" 51 y_At_kind ∈ aw_tw := aw_in3 (List.mem_of_getElem? (i := 73) rfl) rfl
theorem n_im_At_kind : Cond.instanceMethod y_At_kind ∈ aw_tw := aw_in3 (List.mem_of_getElem? (i := 74) rfl) rfl
theorem n_se_At_kind : Cond.selects (y_At_kind).cls y_At_kind y_At_kind ∈ aw_tw := aw_in3 (List.mem_of_getElem? (i := 75) rfl) rfl
theorem n_co_At_kind : Cond.code y_At_kind c_At_kind 3 (some .int) ∈ aw_tw := aw_in3 (List.mem_of_getElem? (i := 76) rfl) rfl
theorem n_ml_Lw_55 : Cond.methodLink "AddressTermsLaw" 55 y_At_sort ∈ aw_tw := aw_in3 (List.mem_of_getElem? (i := 77) rfl) rfl
theorem n_im_At_sort : Cond.instanceMethod y_At_sort ∈ aw_tw := aw_in3 (List.mem_of_getElem? (i := 78) rfl) rfl
theorem n_se_At_sort : Cond.selects (y_At_sort).cls y_At_sort y_At_sort ∈ aw_tw := aw_in3 (List.mem_of_getElem? (i := 79) rfl) rfl
theorem n_co_At_sort : Cond.code y_At_sort c_At_sort 3 (some .int) ∈ aw_tw := aw_in3 (List.mem_of_getElem? (i := 80) rfl) rfl
theorem n_ml_Lw_59 : Cond.methodLink "AddressTermsLaw" 59 y_At_alike ∈ aw_tw := aw_in3 (List.mem_of_getElem? (i := 81) rfl) rfl
theorem n_im_At_alike : Cond.instanceMethod y_At_alike ∈ aw_tw := aw_in3 (List.mem_of_getElem? (i := 82) rfl) rfl
theorem n_se_At_alike : Cond.selects (y_At_alike).cls y_At_alike y_At_alike ∈ aw_tw := aw_in3 (List.mem_of_getElem? (i := 83) rfl) rfl
theorem n_co_At_alike : Cond.code y_At_alike c_At_alike 5 (some .int) ∈ aw_tw := aw_in3 (List.mem_of_getElem? (i := 84) rfl) rfl
theorem n_ml_At_134 : Cond.methodLink "AddressTerms" 134 y_At_haveSameValue ∈ aw_tw := aw_in3 (List.mem_of_getElem? (i := 85) rfl) rfl
theorem n_st_At_haveSameValue : Cond.static y_At_haveSameValue ∈ aw_tw := aw_in3 (List.mem_of_getElem? (i := 86) rfl) rfl
theorem n_co_At_haveSameValue : Cond.code y_At_haveSameValue c_At_haveSameValue 2 (some .boolean) ∈ aw_tw := aw_in3 (List.mem_of_getElem? (i := 87) rfl) rfl
theorem n_ml_At_286 : Cond.methodLink "AddressTerms" 286 y_At_isWhole ∈ aw_tw := aw_in3 (List.mem_of_getElem? (i := 88) rfl) rfl
theorem n_st_At_isWhole : Cond.static y_At_isWhole ∈ aw_tw := aw_in3 (List.mem_of_getElem? (i := 89) rfl) rfl
theorem n_co_At_isWhole : Cond.code y_At_isWhole c_At_isWhole 3 (some .boolean) ∈ aw_tw := aw_in3 (List.mem_of_getElem? (i := 90) rfl) rfl
theorem n_ml_At_311 : Cond.methodLink "AddressTerms" 311 y_At_signLength ∈ aw_tw := aw_in3 (List.mem_of_getElem? (i := 91) rfl) rfl
theorem n_st_At_signLength : Cond.static y_At_signLength ∈ aw_tw := aw_in3 (List.mem_of_getElem? (i := 92) rfl) rfl
theorem n_co_At_signLength : Cond.code y_At_signLength c_At_signLength 1 (some .int) ∈ aw_tw := aw_in3 (List.mem_of_getElem? (i := 93) rfl) rfl
theorem n_ml_At_289 : Cond.methodLink "AddressTerms" 289 y_At_wholeValue ∈ aw_tw := aw_in3 (List.mem_of_getElem? (i := 94) rfl) rfl
theorem n_st_At_wholeValue : Cond.static y_At_wholeValue ∈ aw_tw := aw_in3 (List.mem_of_getElem? (i := 95) rfl) rfl
theorem n_co_At_wholeValue : Cond.code y_At_wholeValue c_At_wholeValue 4 (some .long) ∈ aw_tw := aw_in3 (List.mem_of_getElem? (i := 96) rfl) rfl
theorem n_ct_At_314 : Cond.constantLong "AddressTerms" 314 (10) ∈ aw_tw := aw_in3 (List.mem_of_getElem? (i := 97) rfl) rfl
theorem n_ml_At_293 : Cond.methodLink "AddressTerms" 293 y_At_isTrue ∈ aw_tw := aw_in3 (List.mem_of_getElem? (i := 98) rfl) rfl
theorem n_st_At_isTrue : Cond.static y_At_isTrue ∈ aw_tw := aw_in3 (List.mem_of_getElem? (i := 99) rfl) rfl
theorem n_co_At_isTrue : Cond.code y_At_isTrue c_At_isTrue 1 (some .boolean) ∈ aw_tw := aw_in3 (List.mem_of_getElem? (i := 100) rfl) rfl
theorem n_ml_At_301 : Cond.methodLink "AddressTerms" 301 y_Rw_isRest ∈ aw_tw := aw_in3 (List.mem_of_getElem? (i := 102) rfl) rfl
theorem n_ml_At_296 : Cond.methodLink "AddressTerms" 296 y_At_isFalse ∈ aw_tw := aw_in3 (List.mem_of_getElem? (i := 104) rfl) rfl
theorem n_st_At_isFalse : Cond.static y_At_isFalse ∈ aw_tw := aw_in3 (List.mem_of_getElem? (i := 105) rfl) rfl
theorem n_co_At_isFalse : Cond.code y_At_isFalse c_At_isFalse 1 (some .boolean) ∈ aw_tw := aw_in3 (List.mem_of_getElem? (i := 106) rfl) rfl
theorem n_ml_Lw_63 : Cond.methodLink "AddressTermsLaw" 63 y_At_compare ∈ aw_tw := aw_in3 (List.mem_of_getElem? (i := 109) rfl) rfl
theorem n_im_At_compare : Cond.instanceMethod y_At_compare ∈ aw_tw := aw_in3 (List.mem_of_getElem? (i := 110) rfl) rfl
theorem n_se_At_compare : Cond.selects (y_At_compare).cls y_At_compare y_At_compare ∈ aw_tw := aw_in3 (List.mem_of_getElem? (i := 111) rfl) rfl
theorem n_co_At_compare : Cond.code y_At_compare c_At_compare 5 (some .int) ∈ aw_tw := aw_in3 (List.mem_of_getElem? (i := 112) rfl) rfl
theorem n_ml_Lw_67 : Cond.methodLink "AddressTermsLaw" 67 y_At_print ∈ aw_tw := aw_in3 (List.mem_of_getElem? (i := 113) rfl) rfl
theorem n_im_At_print : Cond.instanceMethod y_At_print ∈ aw_tw := aw_in3 (List.mem_of_getElem? (i := 114) rfl) rfl
theorem n_se_At_print : Cond.selects (y_At_print).cls y_At_print y_At_print ∈ aw_tw := aw_in3 (List.mem_of_getElem? (i := 115) rfl) rfl
theorem n_co_At_print : Cond.code y_At_print c_At_print 4 (some .int) ∈ aw_tw := aw_in3 (List.mem_of_getElem? (i := 116) rfl) rfl
theorem n_ml_At_144 : Cond.methodLink "AddressTerms" 144 y_Rw_addText ∈ aw_tw := aw_in3 (List.mem_of_getElem? (i := 118) rfl) rfl
theorem n_ml_At_151 : Cond.methodLink "AddressTerms" 151 y_Rw_addNumber ∈ aw_tw := aw_in3 (List.mem_of_getElem? (i := 119) rfl) rfl
theorem n_im_Rw_addNumber : Cond.instanceMethod y_Rw_addNumber ∈ aw_tw := aw_in3 (List.mem_of_getElem? (i := 120) rfl) rfl
theorem n_se_Rw_addNumber : Cond.selects (y_Rw_addNumber).cls y_Rw_addNumber y_Rw_addNumber ∈ aw_tw := aw_in3 (List.mem_of_getElem? (i := 121) rfl) rfl
theorem n_co_Rw_addNumber : Cond.code y_Rw_addNumber c_Rw_addNumber 2 none ∈ aw_tw := aw_in3 (List.mem_of_getElem? (i := 122) rfl) rfl
theorem n_ml_At_154 : Cond.methodLink "AddressTerms" 154 y_At_printLiteral ∈ aw_tw := aw_in3 (List.mem_of_getElem? (i := 123) rfl) rfl
theorem n_im_At_printLiteral : Cond.instanceMethod y_At_printLiteral ∈ aw_tw := aw_in3 (List.mem_of_getElem? (i := 125) rfl) rfl
theorem n_co_At_printLiteral : Cond.code y_At_printLiteral c_At_printLiteral 3 none ∈ aw_tw := aw_in3 (List.mem_of_getElem? (i := 126) rfl) rfl
theorem n_ml_At_227 : Cond.methodLink "AddressTerms" 227 y_At_printTextByte ∈ aw_tw := aw_in3 (List.mem_of_getElem? (i := 127) rfl) rfl
theorem n_im_At_printTextByte : Cond.instanceMethod y_At_printTextByte ∈ aw_tw := aw_in3 (List.mem_of_getElem? (i := 129) rfl) rfl
theorem n_co_At_printTextByte : Cond.code y_At_printTextByte c_At_printTextByte 2 none ∈ aw_tw := aw_in3 (List.mem_of_getElem? (i := 130) rfl) rfl
theorem n_ml_At_158 : Cond.methodLink "AddressTerms" 158 y_At_printAddress ∈ aw_tw := aw_in3 (List.mem_of_getElem? (i := 139) rfl) rfl
theorem n_im_At_printAddress : Cond.instanceMethod y_At_printAddress ∈ aw_tw := aw_in3 (List.mem_of_getElem? (i := 141) rfl) rfl
theorem n_co_At_printAddress : Cond.code y_At_printAddress c_At_printAddress 4 none ∈ aw_tw := aw_in3 (List.mem_of_getElem? (i := 142) rfl) rfl
theorem n_ml_At_216 : Cond.methodLink "AddressTerms" 216 y_At_bestPrefix ∈ aw_tw := aw_in3 (List.mem_of_getElem? (i := 143) rfl) rfl
theorem n_im_At_bestPrefix : Cond.instanceMethod y_At_bestPrefix ∈ aw_tw := aw_in3 (List.mem_of_getElem? (i := 145) rfl) rfl
theorem n_co_At_bestPrefix : Cond.code y_At_bestPrefix c_At_bestPrefix 5 (some (.object "AddressTerms$Prefix")) ∈ aw_tw := aw_in3 (List.mem_of_getElem? (i := 146) rfl) rfl
theorem n_ml_At_220 : Cond.methodLink "AddressTerms" 220 y_Px_tells ∈ aw_tw := aw_in3 (List.mem_of_getElem? (i := 147) rfl) rfl
theorem n_im_Px_tells : Cond.instanceMethod y_Px_tells ∈ aw_tw := aw_in3 (List.mem_of_getElem? (i := 148) rfl) rfl
theorem n_se_Px_tells : Cond.selects (y_Px_tells).cls y_Px_tells y_Px_tells ∈ aw_tw := aw_in3 (List.mem_of_getElem? (i := 149) rfl) rfl
theorem n_co_Px_tells : Cond.code y_Px_tells c_Px_tells 4 (some .boolean) ∈ aw_tw := aw_in3 (List.mem_of_getElem? (i := 150) rfl) rfl
theorem n_ml_Px_16 : Cond.methodLink "AddressTerms$Prefix" 16 y_Rw_beginsWith ∈ aw_tw := aw_in3 (List.mem_of_getElem? (i := 151) rfl) rfl
theorem n_im_Rw_beginsWith : Cond.instanceMethod y_Rw_beginsWith ∈ aw_tw := aw_in3 (List.mem_of_getElem? (i := 152) rfl) rfl
theorem n_se_Rw_beginsWith : Cond.selects (y_Rw_beginsWith).cls y_Rw_beginsWith y_Rw_beginsWith ∈ aw_tw := aw_in3 (List.mem_of_getElem? (i := 153) rfl) rfl
theorem n_co_Rw_beginsWith : Cond.code y_Rw_beginsWith c_Rw_beginsWith 3 (some .boolean) ∈ aw_tw := aw_in3 (List.mem_of_getElem? (i := 154) rfl) rfl
theorem n_ml_Px_22 : Cond.methodLink "AddressTerms$Prefix" 22 y_Rw_size ∈ aw_tw := aw_in3 (List.mem_of_getElem? (i := 155) rfl) rfl
theorem n_ml_Px_26 : Cond.methodLink "AddressTerms$Prefix" 26 y_Rw_byteAt ∈ aw_tw := aw_in3 (List.mem_of_getElem? (i := 156) rfl) rfl
theorem n_ml_At_223 : Cond.methodLink "AddressTerms" 223 y_Px_isBetterThan ∈ aw_tw := aw_in3 (List.mem_of_getElem? (i := 158) rfl) rfl
theorem n_im_Px_isBetterThan : Cond.instanceMethod y_Px_isBetterThan ∈ aw_tw := aw_in3 (List.mem_of_getElem? (i := 159) rfl) rfl
theorem n_se_Px_isBetterThan : Cond.selects (y_Px_isBetterThan).cls y_Px_isBetterThan y_Px_isBetterThan ∈ aw_tw := aw_in3 (List.mem_of_getElem? (i := 160) rfl) rfl
theorem n_co_Px_isBetterThan : Cond.code y_Px_isBetterThan c_Px_isBetterThan 3 (some .boolean) ∈ aw_tw := aw_in3 (List.mem_of_getElem? (i := 161) rfl) rfl
theorem n_ml_Px_40 : Cond.methodLink "AddressTerms$Prefix" 40 y_Rw_order ∈ aw_tw := aw_in3 (List.mem_of_getElem? (i := 163) rfl) rfl
theorem n_ml_Lw_71 : Cond.methodLink "AddressTermsLaw" 71 y_At_at ∈ aw_tw := aw_in3 (List.mem_of_getElem? (i := 164) rfl) rfl
theorem n_im_At_at : Cond.instanceMethod y_At_at ∈ aw_tw := aw_in3 (List.mem_of_getElem? (i := 165) rfl) rfl
theorem n_se_At_at : Cond.selects (y_At_at).cls y_At_at y_At_at ∈ aw_tw := aw_in3 (List.mem_of_getElem? (i := 166) rfl) rfl
theorem n_co_At_at : Cond.code y_At_at c_At_at 3 (some .int) ∈ aw_tw := aw_in3 (List.mem_of_getElem? (i := 167) rfl) rfl
theorem n_ml_Lw_75 : Cond.methodLink "AddressTermsLaw" 75 y_At_count ∈ aw_tw := aw_in3 (List.mem_of_getElem? (i := 168) rfl) rfl
theorem n_im_At_count : Cond.instanceMethod y_At_count ∈ aw_tw := aw_in3 (List.mem_of_getElem? (i := 169) rfl) rfl
theorem n_se_At_count : Cond.selects (y_At_count).cls y_At_count y_At_count ∈ aw_tw := aw_in3 (List.mem_of_getElem? (i := 170) rfl) rfl
theorem n_co_At_count : Cond.code y_At_count c_At_count 2 (some .int) ∈ aw_tw := aw_in3 (List.mem_of_getElem? (i := 171) rfl) rfl
theorem n_cl_Lw_10 : Cond.classLink "AddressTermsLaw" 10 "AddressTermsModel" ∈ aw_tw := aw_in3 (List.mem_of_getElem? (i := 172) rfl) rfl
theorem n_ib_Md : Cond.instantiable "AddressTermsModel" 30 ∈ aw_tw := aw_in3 (List.mem_of_getElem? (i := 173) rfl) rfl
theorem n_ml_Lw_12 : Cond.methodLink "AddressTermsLaw" 12 y_Md_init ∈ aw_tw := aw_in3 (List.mem_of_getElem? (i := 174) rfl) rfl
theorem n_im_Md_init : Cond.instanceMethod y_Md_init ∈ aw_tw := aw_in3 (List.mem_of_getElem? (i := 175) rfl) rfl
theorem n_co_Md_init : Cond.code y_Md_init c_Md_init 1 none ∈ aw_tw := aw_in3 (List.mem_of_getElem? (i := 176) rfl) rfl
theorem n_ml_Md_1 : Cond.methodLink "AddressTermsModel" 1 objectInit ∈ aw_tw := aw_in3 (List.mem_of_getElem? (i := 177) rfl) rfl
theorem n_fl_Md_90 : Cond.fieldLink "AddressTermsModel" 90 "AddressTermsModel" "tapeMany" "I" ∈ aw_tw := aw_in3 (List.mem_of_getElem? (i := 178) rfl) rfl
theorem n_fl_Md_7 : Cond.fieldLink "AddressTermsModel" 7 "AddressTermsModel" "tape" "[I" ∈ aw_tw := aw_in3 (List.mem_of_getElem? (i := 179) rfl) rfl
theorem n_fl_Md_74 : Cond.fieldLink "AddressTermsModel" 74 "AddressTermsModel" "terms" "I" ∈ aw_tw := aw_in3 (List.mem_of_getElem? (i := 180) rfl) rfl
theorem n_fl_Md_13 : Cond.fieldLink "AddressTermsModel" 13 "AddressTermsModel" "kinds" "[I" ∈ aw_tw := aw_in3 (List.mem_of_getElem? (i := 181) rfl) rfl
theorem n_fl_Md_16 : Cond.fieldLink "AddressTermsModel" 16 "AddressTermsModel" "numbers" "[I" ∈ aw_tw := aw_in3 (List.mem_of_getElem? (i := 182) rfl) rfl
theorem n_fl_Md_19 : Cond.fieldLink "AddressTermsModel" 19 "AddressTermsModel" "sizes" "[I" ∈ aw_tw := aw_in3 (List.mem_of_getElem? (i := 183) rfl) rfl
theorem n_fl_Md_22 : Cond.fieldLink "AddressTermsModel" 22 "AddressTermsModel" "bytes" "[I" ∈ aw_tw := aw_in3 (List.mem_of_getElem? (i := 184) rfl) rfl
theorem n_fl_Md_25 : Cond.fieldLink "AddressTermsModel" 25 "AddressTermsModel" "tagSizes" "[I" ∈ aw_tw := aw_in3 (List.mem_of_getElem? (i := 185) rfl) rfl
theorem n_fl_Md_28 : Cond.fieldLink "AddressTermsModel" 28 "AddressTermsModel" "tags" "[I" ∈ aw_tw := aw_in3 (List.mem_of_getElem? (i := 186) rfl) rfl
theorem n_fl_Md_31 : Cond.fieldLink "AddressTermsModel" 31 "AddressTermsModel" "base" "I" ∈ aw_tw := aw_in3 (List.mem_of_getElem? (i := 187) rfl) rfl
theorem n_fl_Md_187 : Cond.fieldLink "AddressTermsModel" 187 "AddressTermsModel" "prefixes" "I" ∈ aw_tw := aw_in3 (List.mem_of_getElem? (i := 188) rfl) rfl
theorem n_fl_Md_35 : Cond.fieldLink "AddressTermsModel" 35 "AddressTermsModel" "nameSizes" "[I" ∈ aw_tw := aw_in3 (List.mem_of_getElem? (i := 189) rfl) rfl
theorem n_fl_Md_38 : Cond.fieldLink "AddressTermsModel" 38 "AddressTermsModel" "names" "[I" ∈ aw_tw := aw_in3 (List.mem_of_getElem? (i := 190) rfl) rfl
theorem n_fl_Md_41 : Cond.fieldLink "AddressTermsModel" 41 "AddressTermsModel" "addresses" "[I" ∈ aw_tw := aw_in3 (List.mem_of_getElem? (i := 191) rfl) rfl
theorem n_fl_Md_93 : Cond.fieldLink "AddressTermsModel" 93 "AddressTermsModel" "made" "I" ∈ aw_tw := aw_in3 (List.mem_of_getElem? (i := 192) rfl) rfl
theorem n_fl_Md_44 : Cond.fieldLink "AddressTermsModel" 44 "AddressTermsModel" "row" "[I" ∈ aw_tw := aw_in3 (List.mem_of_getElem? (i := 193) rfl) rfl
theorem n_fl_Md_96 : Cond.fieldLink "AddressTermsModel" 96 "AddressTermsModel" "madeTag" "I" ∈ aw_tw := aw_in3 (List.mem_of_getElem? (i := 194) rfl) rfl
theorem n_fl_Md_47 : Cond.fieldLink "AddressTermsModel" 47 "AddressTermsModel" "tag" "[I" ∈ aw_tw := aw_in3 (List.mem_of_getElem? (i := 195) rfl) rfl
theorem n_fl_Md_226 : Cond.fieldLink "AddressTermsModel" 226 "AddressTermsModel" "printedMany" "I" ∈ aw_tw := aw_in3 (List.mem_of_getElem? (i := 196) rfl) rfl
theorem n_fl_Md_50 : Cond.fieldLink "AddressTermsModel" 50 "AddressTermsModel" "printed" "[I" ∈ aw_tw := aw_in3 (List.mem_of_getElem? (i := 197) rfl) rfl
theorem n_fl_Md_109 : Cond.fieldLink "AddressTermsModel" 109 "AddressTermsModel" "refMany" "I" ∈ aw_tw := aw_in3 (List.mem_of_getElem? (i := 198) rfl) rfl
theorem n_fl_Md_53 : Cond.fieldLink "AddressTermsModel" 53 "AddressTermsModel" "ref" "[I" ∈ aw_tw := aw_in3 (List.mem_of_getElem? (i := 199) rfl) rfl
theorem n_fl_Md_56 : Cond.fieldLink "AddressTermsModel" 56 "AddressTermsModel" "froms" "[I" ∈ aw_tw := aw_in3 (List.mem_of_getElem? (i := 200) rfl) rfl
theorem n_fl_Md_59 : Cond.fieldLink "AddressTermsModel" 59 "AddressTermsModel" "tos" "[I" ∈ aw_tw := aw_in3 (List.mem_of_getElem? (i := 201) rfl) rfl
theorem n_fl_Md_62 : Cond.fieldLink "AddressTermsModel" 62 "AddressTermsModel" "baseFroms" "[I" ∈ aw_tw := aw_in3 (List.mem_of_getElem? (i := 202) rfl) rfl
theorem n_fl_Md_65 : Cond.fieldLink "AddressTermsModel" 65 "AddressTermsModel" "baseTos" "[I" ∈ aw_tw := aw_in3 (List.mem_of_getElem? (i := 203) rfl) rfl
theorem n_fl_Md_129 : Cond.fieldLink "AddressTermsModel" 129 "AddressTermsModel" "inMany" "I" ∈ aw_tw := aw_in3 (List.mem_of_getElem? (i := 204) rfl) rfl
theorem n_fl_Md_68 : Cond.fieldLink "AddressTermsModel" 68 "AddressTermsModel" "in" "[I" ∈ aw_tw := aw_in3 (List.mem_of_getElem? (i := 205) rfl) rfl
theorem n_fl_Md_132 : Cond.fieldLink "AddressTermsModel" 132 "AddressTermsModel" "outMany" "I" ∈ aw_tw := aw_in3 (List.mem_of_getElem? (i := 206) rfl) rfl
theorem n_fl_Md_71 : Cond.fieldLink "AddressTermsModel" 71 "AddressTermsModel" "out" "[I" ∈ aw_tw := aw_in3 (List.mem_of_getElem? (i := 207) rfl) rfl
theorem n_la_Md_tapeMany : Cond.lays "AddressTermsModel" "AddressTermsModel" "tapeMany" "I" ∈ aw_tw := aw_in3 (List.mem_of_getElem? (i := 208) rfl) rfl
theorem n_la_Md_tape : Cond.laysFinal "AddressTermsModel" "AddressTermsModel" "tape" "[I" ∈ aw_tw := aw_in3 (List.mem_of_getElem? (i := 210) rfl) rfl
theorem n_la_Md_terms : Cond.lays "AddressTermsModel" "AddressTermsModel" "terms" "I" ∈ aw_tw := aw_in3 (List.mem_of_getElem? (i := 212) rfl) rfl
theorem n_la_Md_kinds : Cond.laysFinal "AddressTermsModel" "AddressTermsModel" "kinds" "[I" ∈ aw_tw := aw_in3 (List.mem_of_getElem? (i := 214) rfl) rfl
theorem n_la_Md_numbers : Cond.laysFinal "AddressTermsModel" "AddressTermsModel" "numbers" "[I" ∈ aw_tw := aw_in3 (List.mem_of_getElem? (i := 216) rfl) rfl
theorem n_la_Md_sizes : Cond.laysFinal "AddressTermsModel" "AddressTermsModel" "sizes" "[I" ∈ aw_tw := aw_in3 (List.mem_of_getElem? (i := 218) rfl) rfl
theorem n_la_Md_bytes : Cond.laysFinal "AddressTermsModel" "AddressTermsModel" "bytes" "[I" ∈ aw_tw := aw_in3 (List.mem_of_getElem? (i := 220) rfl) rfl
theorem n_la_Md_tagSizes : Cond.laysFinal "AddressTermsModel" "AddressTermsModel" "tagSizes" "[I" ∈ aw_tw := aw_in3 (List.mem_of_getElem? (i := 222) rfl) rfl
theorem n_la_Md_tags : Cond.laysFinal "AddressTermsModel" "AddressTermsModel" "tags" "[I" ∈ aw_tw := aw_in3 (List.mem_of_getElem? (i := 224) rfl) rfl
theorem n_la_Md_base : Cond.lays "AddressTermsModel" "AddressTermsModel" "base" "I" ∈ aw_tw := aw_in3 (List.mem_of_getElem? (i := 226) rfl) rfl
theorem n_la_Md_prefixes : Cond.lays "AddressTermsModel" "AddressTermsModel" "prefixes" "I" ∈ aw_tw := aw_in3 (List.mem_of_getElem? (i := 228) rfl) rfl
theorem n_la_Md_nameSizes : Cond.laysFinal "AddressTermsModel" "AddressTermsModel" "nameSizes" "[I" ∈ aw_tw := aw_in3 (List.mem_of_getElem? (i := 230) rfl) rfl
theorem n_la_Md_names : Cond.laysFinal "AddressTermsModel" "AddressTermsModel" "names" "[I" ∈ aw_tw := aw_in3 (List.mem_of_getElem? (i := 232) rfl) rfl
theorem n_la_Md_addresses : Cond.laysFinal "AddressTermsModel" "AddressTermsModel" "addresses" "[I" ∈ aw_tw := aw_in3 (List.mem_of_getElem? (i := 234) rfl) rfl
theorem n_la_Md_made : Cond.lays "AddressTermsModel" "AddressTermsModel" "made" "I" ∈ aw_tw := aw_in3 (List.mem_of_getElem? (i := 236) rfl) rfl
theorem n_la_Md_row : Cond.laysFinal "AddressTermsModel" "AddressTermsModel" "row" "[I" ∈ aw_tw := aw_in3 (List.mem_of_getElem? (i := 238) rfl) rfl
theorem n_la_Md_madeTag : Cond.lays "AddressTermsModel" "AddressTermsModel" "madeTag" "I" ∈ aw_tw := aw_in4 (List.mem_of_getElem? (i := 0) rfl) rfl
theorem n_la_Md_tag : Cond.laysFinal "AddressTermsModel" "AddressTermsModel" "tag" "[I" ∈ aw_tw := aw_in4 (List.mem_of_getElem? (i := 2) rfl) rfl
theorem n_la_Md_printedMany : Cond.lays "AddressTermsModel" "AddressTermsModel" "printedMany" "I" ∈ aw_tw := aw_in4 (List.mem_of_getElem? (i := 4) rfl) rfl
theorem n_la_Md_printed : Cond.laysFinal "AddressTermsModel" "AddressTermsModel" "printed" "[I" ∈ aw_tw := aw_in4 (List.mem_of_getElem? (i := 6) rfl) rfl
theorem n_la_Md_refMany : Cond.lays "AddressTermsModel" "AddressTermsModel" "refMany" "I" ∈ aw_tw := aw_in4 (List.mem_of_getElem? (i := 8) rfl) rfl
theorem n_la_Md_ref : Cond.laysFinal "AddressTermsModel" "AddressTermsModel" "ref" "[I" ∈ aw_tw := aw_in4 (List.mem_of_getElem? (i := 10) rfl) rfl
theorem n_la_Md_froms : Cond.laysFinal "AddressTermsModel" "AddressTermsModel" "froms" "[I" ∈ aw_tw := aw_in4 (List.mem_of_getElem? (i := 12) rfl) rfl
theorem n_la_Md_tos : Cond.laysFinal "AddressTermsModel" "AddressTermsModel" "tos" "[I" ∈ aw_tw := aw_in4 (List.mem_of_getElem? (i := 14) rfl) rfl
theorem n_la_Md_baseFroms : Cond.laysFinal "AddressTermsModel" "AddressTermsModel" "baseFroms" "[I" ∈ aw_tw := aw_in4 (List.mem_of_getElem? (i := 16) rfl) rfl
theorem n_la_Md_baseTos : Cond.laysFinal "AddressTermsModel" "AddressTermsModel" "baseTos" "[I" ∈ aw_tw := aw_in4 (List.mem_of_getElem? (i := 18) rfl) rfl
theorem n_la_Md_inMany : Cond.lays "AddressTermsModel" "AddressTermsModel" "inMany" "I" ∈ aw_tw := aw_in4 (List.mem_of_getElem? (i := 20) rfl) rfl
theorem n_la_Md_in : Cond.laysFinal "AddressTermsModel" "AddressTermsModel" "in" "[I" ∈ aw_tw := aw_in4 (List.mem_of_getElem? (i := 22) rfl) rfl
theorem n_la_Md_outMany : Cond.lays "AddressTermsModel" "AddressTermsModel" "outMany" "I" ∈ aw_tw := aw_in4 (List.mem_of_getElem? (i := 24) rfl) rfl
theorem n_la_Md_out : Cond.laysFinal "AddressTermsModel" "AddressTermsModel" "out" "[I" ∈ aw_tw := aw_in4 (List.mem_of_getElem? (i := 26) rfl) rfl
theorem n_ml_Lw_19 : Cond.methodLink "AddressTermsLaw" 19 y_Md_type ∈ aw_tw := aw_in4 (List.mem_of_getElem? (i := 29) rfl) rfl
theorem n_im_Md_type : Cond.instanceMethod y_Md_type ∈ aw_tw := aw_in4 (List.mem_of_getElem? (i := 30) rfl) rfl
theorem n_se_Md_type : Cond.selects (y_Md_type).cls y_Md_type y_Md_type ∈ aw_tw := aw_in4 (List.mem_of_getElem? (i := 31) rfl) rfl
theorem n_co_Md_type : Cond.code y_Md_type c_Md_type 6 (some .int) ∈ aw_tw := aw_in4 (List.mem_of_getElem? (i := 32) rfl) rfl
theorem n_ml_Md_77 : Cond.methodLink "AddressTermsModel" 77 y_Md_is ∈ aw_tw := aw_in4 (List.mem_of_getElem? (i := 33) rfl) rfl
theorem n_st_Md_is : Cond.static y_Md_is ∈ aw_tw := aw_in4 (List.mem_of_getElem? (i := 34) rfl) rfl
theorem n_co_Md_is : Cond.code y_Md_is c_Md_is 3 (some .boolean) ∈ aw_tw := aw_in4 (List.mem_of_getElem? (i := 35) rfl) rfl
theorem n_ct_Md_88 : Cond.constantLong "AddressTermsModel" 88 (255) ∈ aw_tw := aw_in4 (List.mem_of_getElem? (i := 36) rfl) rfl
theorem n_ml_Lw_33 : Cond.methodLink "AddressTermsLaw" 33 y_Md_label ∈ aw_tw := aw_in4 (List.mem_of_getElem? (i := 37) rfl) rfl
theorem n_im_Md_label : Cond.instanceMethod y_Md_label ∈ aw_tw := aw_in4 (List.mem_of_getElem? (i := 38) rfl) rfl
theorem n_se_Md_label : Cond.selects (y_Md_label).cls y_Md_label y_Md_label ∈ aw_tw := aw_in4 (List.mem_of_getElem? (i := 39) rfl) rfl
theorem n_co_Md_label : Cond.code y_Md_label c_Md_label 2 (some .int) ∈ aw_tw := aw_in4 (List.mem_of_getElem? (i := 40) rfl) rfl
theorem n_ml_Md_106 : Cond.methodLink "AddressTermsModel" 106 y_Md_note ∈ aw_tw := aw_in4 (List.mem_of_getElem? (i := 41) rfl) rfl
theorem n_im_Md_note : Cond.instanceMethod y_Md_note ∈ aw_tw := aw_in4 (List.mem_of_getElem? (i := 43) rfl) rfl
theorem n_co_Md_note : Cond.code y_Md_note c_Md_note 5 (some .int) ∈ aw_tw := aw_in4 (List.mem_of_getElem? (i := 44) rfl) rfl
theorem n_ml_Md_99 : Cond.methodLink "AddressTermsModel" 99 y_Md_find ∈ aw_tw := aw_in4 (List.mem_of_getElem? (i := 45) rfl) rfl
theorem n_im_Md_find : Cond.instanceMethod y_Md_find ∈ aw_tw := aw_in4 (List.mem_of_getElem? (i := 47) rfl) rfl
theorem n_co_Md_find : Cond.code y_Md_find c_Md_find 6 (some .int) ∈ aw_tw := aw_in4 (List.mem_of_getElem? (i := 48) rfl) rfl
theorem n_ml_Lw_24 : Cond.methodLink "AddressTermsLaw" 24 y_Md_resolve ∈ aw_tw := aw_in4 (List.mem_of_getElem? (i := 49) rfl) rfl
theorem n_im_Md_resolve : Cond.instanceMethod y_Md_resolve ∈ aw_tw := aw_in4 (List.mem_of_getElem? (i := 50) rfl) rfl
theorem n_se_Md_resolve : Cond.selects (y_Md_resolve).cls y_Md_resolve y_Md_resolve ∈ aw_tw := aw_in4 (List.mem_of_getElem? (i := 51) rfl) rfl
theorem n_co_Md_resolve : Cond.code y_Md_resolve c_Md_resolve 4 (some .int) ∈ aw_tw := aw_in4 (List.mem_of_getElem? (i := 52) rfl) rfl
theorem n_ml_Md_171 : Cond.methodLink "AddressTermsModel" 171 y_Md_wrong ∈ aw_tw := aw_in4 (List.mem_of_getElem? (i := 53) rfl) rfl
theorem n_im_Md_wrong : Cond.instanceMethod y_Md_wrong ∈ aw_tw := aw_in4 (List.mem_of_getElem? (i := 55) rfl) rfl
theorem n_co_Md_wrong : Cond.code y_Md_wrong c_Md_wrong 4 (some .int) ∈ aw_tw := aw_in4 (List.mem_of_getElem? (i := 56) rfl) rfl
theorem n_ml_Md_126 : Cond.methodLink "AddressTermsModel" 126 y_Md_hex ∈ aw_tw := aw_in4 (List.mem_of_getElem? (i := 57) rfl) rfl
theorem n_st_Md_hex : Cond.static y_Md_hex ∈ aw_tw := aw_in4 (List.mem_of_getElem? (i := 58) rfl) rfl
theorem n_co_Md_hex : Cond.code y_Md_hex c_Md_hex 1 (some .int) ∈ aw_tw := aw_in4 (List.mem_of_getElem? (i := 59) rfl) rfl
theorem n_ml_Md_85 : Cond.methodLink "AddressTermsModel" 85 y_Md_isDigit ∈ aw_tw := aw_in4 (List.mem_of_getElem? (i := 60) rfl) rfl
theorem n_st_Md_isDigit : Cond.static y_Md_isDigit ∈ aw_tw := aw_in4 (List.mem_of_getElem? (i := 61) rfl) rfl
theorem n_co_Md_isDigit : Cond.code y_Md_isDigit c_Md_isDigit 1 (some .boolean) ∈ aw_tw := aw_in4 (List.mem_of_getElem? (i := 62) rfl) rfl
theorem n_ml_Md_175 : Cond.methodLink "AddressTermsModel" 175 y_Md_resolveAgainst ∈ aw_tw := aw_in4 (List.mem_of_getElem? (i := 63) rfl) rfl
theorem n_im_Md_resolveAgainst : Cond.instanceMethod y_Md_resolveAgainst ∈ aw_tw := aw_in4 (List.mem_of_getElem? (i := 65) rfl) rfl
theorem n_co_Md_resolveAgainst : Cond.code y_Md_resolveAgainst c_Md_resolveAgainst 5 none ∈ aw_tw := aw_in4 (List.mem_of_getElem? (i := 66) rfl) rfl
theorem n_ml_Md_149 : Cond.methodLink "AddressTermsModel" 149 y_Md_take ∈ aw_tw := aw_in4 (List.mem_of_getElem? (i := 67) rfl) rfl
theorem n_im_Md_take : Cond.instanceMethod y_Md_take ∈ aw_tw := aw_in4 (List.mem_of_getElem? (i := 69) rfl) rfl
theorem n_co_Md_take : Cond.code y_Md_take c_Md_take 3 none ∈ aw_tw := aw_in4 (List.mem_of_getElem? (i := 70) rfl) rfl
theorem n_ml_Md_123 : Cond.methodLink "AddressTermsModel" 123 y_Md_split ∈ aw_tw := aw_in4 (List.mem_of_getElem? (i := 71) rfl) rfl
theorem n_im_Md_split : Cond.instanceMethod y_Md_split ∈ aw_tw := aw_in4 (List.mem_of_getElem? (i := 73) rfl) rfl
theorem n_co_Md_split : Cond.code y_Md_split c_Md_split 3 none ∈ aw_tw := aw_in4 (List.mem_of_getElem? (i := 74) rfl) rfl
theorem n_ml_Md_112 : Cond.methodLink "AddressTermsModel" 112 y_Md_refAt ∈ aw_tw := aw_in4 (List.mem_of_getElem? (i := 75) rfl) rfl
theorem n_im_Md_refAt : Cond.instanceMethod y_Md_refAt ∈ aw_tw := aw_in4 (List.mem_of_getElem? (i := 77) rfl) rfl
theorem n_co_Md_refAt : Cond.code y_Md_refAt c_Md_refAt 2 (some .int) ∈ aw_tw := aw_in4 (List.mem_of_getElem? (i := 78) rfl) rfl
theorem n_ml_Md_116 : Cond.methodLink "AddressTermsModel" 116 y_Md_isLetter ∈ aw_tw := aw_in4 (List.mem_of_getElem? (i := 79) rfl) rfl
theorem n_st_Md_isLetter : Cond.static y_Md_isLetter ∈ aw_tw := aw_in4 (List.mem_of_getElem? (i := 80) rfl) rfl
theorem n_co_Md_isLetter : Cond.code y_Md_isLetter c_Md_isLetter 1 (some .boolean) ∈ aw_tw := aw_in4 (List.mem_of_getElem? (i := 81) rfl) rfl
theorem n_ml_Md_81 : Cond.methodLink "AddressTermsModel" 81 y_Md_isSmall ∈ aw_tw := aw_in4 (List.mem_of_getElem? (i := 82) rfl) rfl
theorem n_st_Md_isSmall : Cond.static y_Md_isSmall ∈ aw_tw := aw_in4 (List.mem_of_getElem? (i := 83) rfl) rfl
theorem n_co_Md_isSmall : Cond.code y_Md_isSmall c_Md_isSmall 1 (some .boolean) ∈ aw_tw := aw_in4 (List.mem_of_getElem? (i := 84) rfl) rfl
theorem n_ml_Md_119 : Cond.methodLink "AddressTermsModel" 119 y_Md_stop ∈ aw_tw := aw_in4 (List.mem_of_getElem? (i := 85) rfl) rfl
theorem n_im_Md_stop : Cond.instanceMethod y_Md_stop ∈ aw_tw := aw_in4 (List.mem_of_getElem? (i := 87) rfl) rfl
theorem n_co_Md_stop : Cond.code y_Md_stop c_Md_stop 5 (some .int) ∈ aw_tw := aw_in4 (List.mem_of_getElem? (i := 88) rfl) rfl
theorem n_ml_Md_152 : Cond.methodLink "AddressTermsModel" 152 y_Md_addRef ∈ aw_tw := aw_in4 (List.mem_of_getElem? (i := 89) rfl) rfl
theorem n_im_Md_addRef : Cond.instanceMethod y_Md_addRef ∈ aw_tw := aw_in4 (List.mem_of_getElem? (i := 91) rfl) rfl
theorem n_co_Md_addRef : Cond.code y_Md_addRef c_Md_addRef 4 none ∈ aw_tw := aw_in4 (List.mem_of_getElem? (i := 92) rfl) rfl
theorem n_ml_Md_146 : Cond.methodLink "AddressTermsModel" 146 y_Md_add ∈ aw_tw := aw_in4 (List.mem_of_getElem? (i := 93) rfl) rfl
theorem n_im_Md_add : Cond.instanceMethod y_Md_add ∈ aw_tw := aw_in4 (List.mem_of_getElem? (i := 95) rfl) rfl
theorem n_co_Md_add : Cond.code y_Md_add c_Md_add 2 none ∈ aw_tw := aw_in4 (List.mem_of_getElem? (i := 96) rfl) rfl
theorem n_ml_Md_156 : Cond.methodLink "AddressTermsModel" 156 y_Md_addBase ∈ aw_tw := aw_in4 (List.mem_of_getElem? (i := 97) rfl) rfl
theorem n_im_Md_addBase : Cond.instanceMethod y_Md_addBase ∈ aw_tw := aw_in4 (List.mem_of_getElem? (i := 99) rfl) rfl
theorem n_co_Md_addBase : Cond.code y_Md_addBase c_Md_addBase 4 none ∈ aw_tw := aw_in4 (List.mem_of_getElem? (i := 100) rfl) rfl
theorem n_ml_Md_159 : Cond.methodLink "AddressTermsModel" 159 y_Md_lead ∈ aw_tw := aw_in4 (List.mem_of_getElem? (i := 101) rfl) rfl
theorem n_im_Md_lead : Cond.instanceMethod y_Md_lead ∈ aw_tw := aw_in4 (List.mem_of_getElem? (i := 103) rfl) rfl
theorem n_co_Md_lead : Cond.code y_Md_lead c_Md_lead 3 none ∈ aw_tw := aw_in4 (List.mem_of_getElem? (i := 104) rfl) rfl
theorem n_ml_Md_162 : Cond.methodLink "AddressTermsModel" 162 y_Md_merge ∈ aw_tw := aw_in4 (List.mem_of_getElem? (i := 105) rfl) rfl
theorem n_im_Md_merge : Cond.instanceMethod y_Md_merge ∈ aw_tw := aw_in4 (List.mem_of_getElem? (i := 107) rfl) rfl
theorem n_co_Md_merge : Cond.code y_Md_merge c_Md_merge 3 none ∈ aw_tw := aw_in4 (List.mem_of_getElem? (i := 108) rfl) rfl
theorem n_ml_Md_165 : Cond.methodLink "AddressTermsModel" 165 y_Md_feed ∈ aw_tw := aw_in4 (List.mem_of_getElem? (i := 109) rfl) rfl
theorem n_im_Md_feed : Cond.instanceMethod y_Md_feed ∈ aw_tw := aw_in4 (List.mem_of_getElem? (i := 111) rfl) rfl
theorem n_co_Md_feed : Cond.code y_Md_feed c_Md_feed 4 none ∈ aw_tw := aw_in4 (List.mem_of_getElem? (i := 112) rfl) rfl
theorem n_ml_Md_168 : Cond.methodLink "AddressTermsModel" 168 y_Md_plain ∈ aw_tw := aw_in4 (List.mem_of_getElem? (i := 113) rfl) rfl
theorem n_im_Md_plain : Cond.instanceMethod y_Md_plain ∈ aw_tw := aw_in4 (List.mem_of_getElem? (i := 115) rfl) rfl
theorem n_co_Md_plain : Cond.code y_Md_plain c_Md_plain 3 none ∈ aw_tw := aw_in4 (List.mem_of_getElem? (i := 116) rfl) rfl
theorem n_ml_Md_135 : Cond.methodLink "AddressTermsModel" 135 y_Md_begins ∈ aw_tw := aw_in4 (List.mem_of_getElem? (i := 117) rfl) rfl
theorem n_im_Md_begins : Cond.instanceMethod y_Md_begins ∈ aw_tw := aw_in4 (List.mem_of_getElem? (i := 119) rfl) rfl
theorem n_co_Md_begins : Cond.code y_Md_begins c_Md_begins 5 (some .boolean) ∈ aw_tw := aw_in4 (List.mem_of_getElem? (i := 120) rfl) rfl
theorem n_ml_Md_139 : Cond.methodLink "AddressTermsModel" 139 y_Md_skip ∈ aw_tw := aw_in4 (List.mem_of_getElem? (i := 121) rfl) rfl
theorem n_im_Md_skip : Cond.instanceMethod y_Md_skip ∈ aw_tw := aw_in4 (List.mem_of_getElem? (i := 123) rfl) rfl
theorem n_co_Md_skip : Cond.code y_Md_skip c_Md_skip 3 none ∈ aw_tw := aw_in4 (List.mem_of_getElem? (i := 124) rfl) rfl
theorem n_ml_Md_143 : Cond.methodLink "AddressTermsModel" 143 y_Md_back ∈ aw_tw := aw_in4 (List.mem_of_getElem? (i := 125) rfl) rfl
theorem n_im_Md_back : Cond.instanceMethod y_Md_back ∈ aw_tw := aw_in4 (List.mem_of_getElem? (i := 127) rfl) rfl
theorem n_co_Md_back : Cond.code y_Md_back c_Md_back 2 none ∈ aw_tw := aw_in4 (List.mem_of_getElem? (i := 128) rfl) rfl
theorem n_ml_Lw_29 : Cond.methodLink "AddressTermsLaw" 29 y_Md_base ∈ aw_tw := aw_in4 (List.mem_of_getElem? (i := 129) rfl) rfl
theorem n_im_Md_base : Cond.instanceMethod y_Md_base ∈ aw_tw := aw_in4 (List.mem_of_getElem? (i := 130) rfl) rfl
theorem n_se_Md_base : Cond.selects (y_Md_base).cls y_Md_base y_Md_base ∈ aw_tw := aw_in4 (List.mem_of_getElem? (i := 131) rfl) rfl
theorem n_co_Md_base : Cond.code y_Md_base c_Md_base 2 (some .int) ∈ aw_tw := aw_in4 (List.mem_of_getElem? (i := 132) rfl) rfl
theorem n_ml_Md_178 : Cond.methodLink "AddressTermsModel" 178 y_Md_isAddress ∈ aw_tw := aw_in4 (List.mem_of_getElem? (i := 133) rfl) rfl
theorem n_im_Md_isAddress : Cond.instanceMethod y_Md_isAddress ∈ aw_tw := aw_in4 (List.mem_of_getElem? (i := 135) rfl) rfl
theorem n_co_Md_isAddress : Cond.code y_Md_isAddress c_Md_isAddress 2 (some .boolean) ∈ aw_tw := aw_in4 (List.mem_of_getElem? (i := 136) rfl) rfl
theorem n_ml_Md_103 : Cond.methodLink "AddressTermsModel" 103 y_Md_isTerm ∈ aw_tw := aw_in4 (List.mem_of_getElem? (i := 137) rfl) rfl
theorem n_im_Md_isTerm : Cond.instanceMethod y_Md_isTerm ∈ aw_tw := aw_in4 (List.mem_of_getElem? (i := 139) rfl) rfl
theorem n_co_Md_isTerm : Cond.code y_Md_isTerm c_Md_isTerm 2 (some .boolean) ∈ aw_tw := aw_in4 (List.mem_of_getElem? (i := 140) rfl) rfl
theorem n_ml_Lw_37 : Cond.methodLink "AddressTermsLaw" 37 y_Md_literal ∈ aw_tw := aw_in4 (List.mem_of_getElem? (i := 141) rfl) rfl
theorem n_im_Md_literal : Cond.instanceMethod y_Md_literal ∈ aw_tw := aw_in4 (List.mem_of_getElem? (i := 142) rfl) rfl
theorem n_se_Md_literal : Cond.selects (y_Md_literal).cls y_Md_literal y_Md_literal ∈ aw_tw := aw_in4 (List.mem_of_getElem? (i := 143) rfl) rfl
theorem n_co_Md_literal : Cond.code y_Md_literal c_Md_literal 6 (some .int) ∈ aw_tw := aw_in4 (List.mem_of_getElem? (i := 144) rfl) rfl
theorem n_ml_Md_184 : Cond.methodLink "AddressTermsModel" 184 y_Md_escaped ∈ aw_tw := aw_in4 (List.mem_of_getElem? (i := 145) rfl) rfl
theorem n_im_Md_escaped : Cond.instanceMethod y_Md_escaped ∈ aw_tw := aw_in4 (List.mem_of_getElem? (i := 147) rfl) rfl
theorem n_co_Md_escaped : Cond.code y_Md_escaped c_Md_escaped 6 (some .int) ∈ aw_tw := aw_in4 (List.mem_of_getElem? (i := 148) rfl) rfl
theorem n_ml_Md_181 : Cond.methodLink "AddressTermsModel" 181 y_Md_isText ∈ aw_tw := aw_in4 (List.mem_of_getElem? (i := 149) rfl) rfl
theorem n_st_Md_isText : Cond.static y_Md_isText ∈ aw_tw := aw_in4 (List.mem_of_getElem? (i := 150) rfl) rfl
theorem n_co_Md_isText : Cond.code y_Md_isText c_Md_isText 1 (some .boolean) ∈ aw_tw := aw_in4 (List.mem_of_getElem? (i := 151) rfl) rfl
theorem n_ml_Lw_41 : Cond.methodLink "AddressTermsLaw" 41 y_Md_tagged ∈ aw_tw := aw_in4 (List.mem_of_getElem? (i := 152) rfl) rfl
theorem n_im_Md_tagged : Cond.instanceMethod y_Md_tagged ∈ aw_tw := aw_in4 (List.mem_of_getElem? (i := 153) rfl) rfl
theorem n_se_Md_tagged : Cond.selects (y_Md_tagged).cls y_Md_tagged y_Md_tagged ∈ aw_tw := aw_in4 (List.mem_of_getElem? (i := 154) rfl) rfl
theorem n_co_Md_tagged : Cond.code y_Md_tagged c_Md_tagged 9 (some .int) ∈ aw_tw := aw_in4 (List.mem_of_getElem? (i := 155) rfl) rfl
theorem n_ml_Lw_45 : Cond.methodLink "AddressTermsLaw" 45 y_Md_prefix ∈ aw_tw := aw_in4 (List.mem_of_getElem? (i := 156) rfl) rfl
theorem n_im_Md_prefix : Cond.instanceMethod y_Md_prefix ∈ aw_tw := aw_in4 (List.mem_of_getElem? (i := 157) rfl) rfl
theorem n_se_Md_prefix : Cond.selects (y_Md_prefix).cls y_Md_prefix y_Md_prefix ∈ aw_tw := aw_in4 (List.mem_of_getElem? (i := 158) rfl) rfl
theorem n_co_Md_prefix : Cond.code y_Md_prefix c_Md_prefix 7 (some .int) ∈ aw_tw := aw_in4 (List.mem_of_getElem? (i := 159) rfl) rfl
theorem n_ml_Lw_50 : Cond.methodLink "AddressTermsLaw" 50 y_Md_part ∈ aw_tw := aw_in4 (List.mem_of_getElem? (i := 160) rfl) rfl
theorem n_im_Md_part : Cond.instanceMethod y_Md_part ∈ aw_tw := aw_in4 (List.mem_of_getElem? (i := 161) rfl) rfl
theorem n_se_Md_part : Cond.selects (y_Md_part).cls y_Md_part y_Md_part ∈ aw_tw := aw_in4 (List.mem_of_getElem? (i := 162) rfl) rfl
theorem n_co_Md_part : Cond.code y_Md_part c_Md_part 3 (some .int) ∈ aw_tw := aw_in4 (List.mem_of_getElem? (i := 163) rfl) rfl
theorem n_ml_Lw_54 : Cond.methodLink "AddressTermsLaw" 54 y_Md_kind ∈ aw_tw := aw_in4 (List.mem_of_getElem? (i := 164) rfl) rfl
theorem n_im_Md_kind : Cond.instanceMethod y_Md_kind ∈ aw_tw := aw_in4 (List.mem_of_getElem? (i := 165) rfl) rfl
theorem n_se_Md_kind : Cond.selects (y_Md_kind).cls y_Md_kind y_Md_kind ∈ aw_tw := aw_in4 (List.mem_of_getElem? (i := 166) rfl) rfl
theorem n_co_Md_kind : Cond.code y_Md_kind c_Md_kind 2 (some .int) ∈ aw_tw := aw_in4 (List.mem_of_getElem? (i := 167) rfl) rfl
theorem n_ml_Lw_58 : Cond.methodLink "AddressTermsLaw" 58 y_Md_sort ∈ aw_tw := aw_in4 (List.mem_of_getElem? (i := 168) rfl) rfl
theorem n_im_Md_sort : Cond.instanceMethod y_Md_sort ∈ aw_tw := aw_in4 (List.mem_of_getElem? (i := 169) rfl) rfl
theorem n_se_Md_sort : Cond.selects (y_Md_sort).cls y_Md_sort y_Md_sort ∈ aw_tw := aw_in4 (List.mem_of_getElem? (i := 170) rfl) rfl
theorem n_co_Md_sort : Cond.code y_Md_sort c_Md_sort 2 (some .int) ∈ aw_tw := aw_in4 (List.mem_of_getElem? (i := 171) rfl) rfl
theorem n_ml_Lw_62 : Cond.methodLink "AddressTermsLaw" 62 y_Md_alike ∈ aw_tw := aw_in4 (List.mem_of_getElem? (i := 172) rfl) rfl
theorem n_im_Md_alike : Cond.instanceMethod y_Md_alike ∈ aw_tw := aw_in4 (List.mem_of_getElem? (i := 173) rfl) rfl
theorem n_se_Md_alike : Cond.selects (y_Md_alike).cls y_Md_alike y_Md_alike ∈ aw_tw := aw_in4 (List.mem_of_getElem? (i := 174) rfl) rfl
theorem n_co_Md_alike : Cond.code y_Md_alike c_Md_alike 3 (some .int) ∈ aw_tw := aw_in4 (List.mem_of_getElem? (i := 175) rfl) rfl
theorem n_ml_Md_204 : Cond.methodLink "AddressTermsModel" 204 y_Md_isWhole ∈ aw_tw := aw_in4 (List.mem_of_getElem? (i := 176) rfl) rfl
theorem n_im_Md_isWhole : Cond.instanceMethod y_Md_isWhole ∈ aw_tw := aw_in4 (List.mem_of_getElem? (i := 178) rfl) rfl
theorem n_co_Md_isWhole : Cond.code y_Md_isWhole c_Md_isWhole 5 (some .boolean) ∈ aw_tw := aw_in4 (List.mem_of_getElem? (i := 179) rfl) rfl
theorem n_ml_Md_207 : Cond.methodLink "AddressTermsModel" 207 y_Md_whole ∈ aw_tw := aw_in4 (List.mem_of_getElem? (i := 180) rfl) rfl
theorem n_im_Md_whole : Cond.instanceMethod y_Md_whole ∈ aw_tw := aw_in4 (List.mem_of_getElem? (i := 182) rfl) rfl
theorem n_co_Md_whole : Cond.code y_Md_whole c_Md_whole 5 (some .long) ∈ aw_tw := aw_in4 (List.mem_of_getElem? (i := 183) rfl) rfl
theorem n_ct_Md_190 : Cond.constantLong "AddressTermsModel" 190 (10) ∈ aw_tw := aw_in4 (List.mem_of_getElem? (i := 184) rfl) rfl
theorem n_ct_Md_192 : Cond.constantLong "AddressTermsModel" 192 (48) ∈ aw_tw := aw_in4 (List.mem_of_getElem? (i := 185) rfl) rfl
theorem n_ml_Md_211 : Cond.methodLink "AddressTermsModel" 211 y_Md_truth ∈ aw_tw := aw_in4 (List.mem_of_getElem? (i := 186) rfl) rfl
theorem n_im_Md_truth : Cond.instanceMethod y_Md_truth ∈ aw_tw := aw_in4 (List.mem_of_getElem? (i := 188) rfl) rfl
theorem n_co_Md_truth : Cond.code y_Md_truth c_Md_truth 2 (some .int) ∈ aw_tw := aw_in4 (List.mem_of_getElem? (i := 189) rfl) rfl
theorem n_ct_Md_194 : Cond.constantLong "AddressTermsModel" 194 (1953658213) ∈ aw_tw := aw_in4 (List.mem_of_getElem? (i := 190) rfl) rfl
theorem n_ml_Md_196 : Cond.methodLink "AddressTermsModel" 196 y_Md_isBytes ∈ aw_tw := aw_in4 (List.mem_of_getElem? (i := 191) rfl) rfl
theorem n_im_Md_isBytes : Cond.instanceMethod y_Md_isBytes ∈ aw_tw := aw_in4 (List.mem_of_getElem? (i := 193) rfl) rfl
theorem n_co_Md_isBytes : Cond.code y_Md_isBytes c_Md_isBytes 7 (some .boolean) ∈ aw_tw := aw_in4 (List.mem_of_getElem? (i := 194) rfl) rfl
theorem n_ct_Md_200 : Cond.constantLong "AddressTermsModel" 200 (49) ∈ aw_tw := aw_in4 (List.mem_of_getElem? (i := 195) rfl) rfl
theorem n_ct_Md_202 : Cond.constantLong "AddressTermsModel" 202 (439721161573) ∈ aw_tw := aw_in4 (List.mem_of_getElem? (i := 196) rfl) rfl
theorem n_ml_Lw_66 : Cond.methodLink "AddressTermsLaw" 66 y_Md_compare ∈ aw_tw := aw_in4 (List.mem_of_getElem? (i := 197) rfl) rfl
theorem n_im_Md_compare : Cond.instanceMethod y_Md_compare ∈ aw_tw := aw_in4 (List.mem_of_getElem? (i := 198) rfl) rfl
theorem n_se_Md_compare : Cond.selects (y_Md_compare).cls y_Md_compare y_Md_compare ∈ aw_tw := aw_in4 (List.mem_of_getElem? (i := 199) rfl) rfl
theorem n_co_Md_compare : Cond.code y_Md_compare c_Md_compare 4 (some .int) ∈ aw_tw := aw_in4 (List.mem_of_getElem? (i := 200) rfl) rfl
theorem n_ml_Md_214 : Cond.methodLink "AddressTermsModel" 214 y_Md_rank ∈ aw_tw := aw_in4 (List.mem_of_getElem? (i := 201) rfl) rfl
theorem n_st_Md_rank : Cond.static y_Md_rank ∈ aw_tw := aw_in4 (List.mem_of_getElem? (i := 202) rfl) rfl
theorem n_co_Md_rank : Cond.code y_Md_rank c_Md_rank 1 (some .int) ∈ aw_tw := aw_in4 (List.mem_of_getElem? (i := 203) rfl) rfl
theorem n_ml_Md_217 : Cond.methodLink "AddressTermsModel" 217 y_Md_compareBytes ∈ aw_tw := aw_in4 (List.mem_of_getElem? (i := 204) rfl) rfl
theorem n_im_Md_compareBytes : Cond.instanceMethod y_Md_compareBytes ∈ aw_tw := aw_in4 (List.mem_of_getElem? (i := 206) rfl) rfl
theorem n_co_Md_compareBytes : Cond.code y_Md_compareBytes c_Md_compareBytes 5 (some .int) ∈ aw_tw := aw_in4 (List.mem_of_getElem? (i := 207) rfl) rfl
theorem n_ml_Md_220 : Cond.methodLink "AddressTermsModel" 220 y_Md_compareTags ∈ aw_tw := aw_in4 (List.mem_of_getElem? (i := 208) rfl) rfl
theorem n_im_Md_compareTags : Cond.instanceMethod y_Md_compareTags ∈ aw_tw := aw_in4 (List.mem_of_getElem? (i := 210) rfl) rfl
theorem n_co_Md_compareTags : Cond.code y_Md_compareTags c_Md_compareTags 5 (some .int) ∈ aw_tw := aw_in4 (List.mem_of_getElem? (i := 211) rfl) rfl
theorem n_ml_Md_223 : Cond.methodLink "AddressTermsModel" 223 y_Md_sign ∈ aw_tw := aw_in4 (List.mem_of_getElem? (i := 212) rfl) rfl
theorem n_st_Md_sign : Cond.static y_Md_sign ∈ aw_tw := aw_in4 (List.mem_of_getElem? (i := 213) rfl) rfl
theorem n_co_Md_sign : Cond.code y_Md_sign c_Md_sign 1 (some .int) ∈ aw_tw := aw_in4 (List.mem_of_getElem? (i := 214) rfl) rfl
theorem n_ml_Lw_70 : Cond.methodLink "AddressTermsLaw" 70 y_Md_print ∈ aw_tw := aw_in4 (List.mem_of_getElem? (i := 215) rfl) rfl
theorem n_im_Md_print : Cond.instanceMethod y_Md_print ∈ aw_tw := aw_in4 (List.mem_of_getElem? (i := 216) rfl) rfl
theorem n_se_Md_print : Cond.selects (y_Md_print).cls y_Md_print y_Md_print ∈ aw_tw := aw_in4 (List.mem_of_getElem? (i := 217) rfl) rfl
theorem n_co_Md_print : Cond.code y_Md_print c_Md_print 3 (some .int) ∈ aw_tw := aw_in4 (List.mem_of_getElem? (i := 218) rfl) rfl
theorem n_ml_Md_249 : Cond.methodLink "AddressTermsModel" 249 y_Md_tellAddress ∈ aw_tw := aw_in4 (List.mem_of_getElem? (i := 219) rfl) rfl
theorem n_im_Md_tellAddress : Cond.instanceMethod y_Md_tellAddress ∈ aw_tw := aw_in4 (List.mem_of_getElem? (i := 221) rfl) rfl
theorem n_co_Md_tellAddress : Cond.code y_Md_tellAddress c_Md_tellAddress 6 none ∈ aw_tw := aw_in4 (List.mem_of_getElem? (i := 222) rfl) rfl
theorem n_ml_Md_242 : Cond.methodLink "AddressTermsModel" 242 y_Md_isNameBefore ∈ aw_tw := aw_in4 (List.mem_of_getElem? (i := 223) rfl) rfl
theorem n_im_Md_isNameBefore : Cond.instanceMethod y_Md_isNameBefore ∈ aw_tw := aw_in4 (List.mem_of_getElem? (i := 225) rfl) rfl
theorem n_co_Md_isNameBefore : Cond.code y_Md_isNameBefore c_Md_isNameBefore 4 (some .boolean) ∈ aw_tw := aw_in4 (List.mem_of_getElem? (i := 226) rfl) rfl
theorem n_ml_Md_246 : Cond.methodLink "AddressTermsModel" 246 y_Md_shortens ∈ aw_tw := aw_in4 (List.mem_of_getElem? (i := 227) rfl) rfl
theorem n_im_Md_shortens : Cond.instanceMethod y_Md_shortens ∈ aw_tw := aw_in4 (List.mem_of_getElem? (i := 229) rfl) rfl
theorem n_co_Md_shortens : Cond.code y_Md_shortens c_Md_shortens 7 (some .boolean) ∈ aw_tw := aw_in4 (List.mem_of_getElem? (i := 230) rfl) rfl
theorem n_ml_Md_229 : Cond.methodLink "AddressTermsModel" 229 y_Md_tell ∈ aw_tw := aw_in4 (List.mem_of_getElem? (i := 231) rfl) rfl
theorem n_im_Md_tell : Cond.instanceMethod y_Md_tell ∈ aw_tw := aw_in4 (List.mem_of_getElem? (i := 233) rfl) rfl
theorem n_co_Md_tell : Cond.code y_Md_tell c_Md_tell 2 none ∈ aw_tw := aw_in4 (List.mem_of_getElem? (i := 234) rfl) rfl
theorem n_ct_Md_253 : Cond.constantLong "AddressTermsModel" 253 (6240866) ∈ aw_tw := aw_in4 (List.mem_of_getElem? (i := 235) rfl) rfl
theorem n_ml_Md_234 : Cond.methodLink "AddressTermsModel" 234 y_Md_tellAll ∈ aw_tw := aw_in4 (List.mem_of_getElem? (i := 236) rfl) rfl
theorem n_im_Md_tellAll : Cond.instanceMethod y_Md_tellAll ∈ aw_tw := aw_in4 (List.mem_of_getElem? (i := 238) rfl) rfl
theorem n_co_Md_tellAll : Cond.code y_Md_tellAll c_Md_tellAll 5 none ∈ aw_tw := aw_in4 (List.mem_of_getElem? (i := 239) rfl) rfl
theorem n_ml_Md_255 : Cond.methodLink "AddressTermsModel" 255 y_Md_tellNumber ∈ aw_tw := aw_in5 (List.mem_of_getElem? (i := 0) rfl) rfl
theorem n_im_Md_tellNumber : Cond.instanceMethod y_Md_tellNumber ∈ aw_tw := aw_in5 (List.mem_of_getElem? (i := 2) rfl) rfl
theorem n_co_Md_tellNumber : Cond.code y_Md_tellNumber c_Md_tellNumber 2 none ∈ aw_tw := aw_in5 (List.mem_of_getElem? (i := 3) rfl) rfl
theorem n_ml_Md_258 : Cond.methodLink "AddressTermsModel" 258 y_Md_tellLiteral ∈ aw_tw := aw_in5 (List.mem_of_getElem? (i := 4) rfl) rfl
theorem n_im_Md_tellLiteral : Cond.instanceMethod y_Md_tellLiteral ∈ aw_tw := aw_in5 (List.mem_of_getElem? (i := 6) rfl) rfl
theorem n_co_Md_tellLiteral : Cond.code y_Md_tellLiteral c_Md_tellLiteral 4 none ∈ aw_tw := aw_in5 (List.mem_of_getElem? (i := 7) rfl) rfl
theorem n_ct_Md_232 : Cond.constantLong "AddressTermsModel" 232 (26562514757053541) ∈ aw_tw := aw_in5 (List.mem_of_getElem? (i := 8) rfl) rfl
theorem n_ct_Md_238 : Cond.constantLong "AddressTermsModel" 238 (26562502040319080) ∈ aw_tw := aw_in5 (List.mem_of_getElem? (i := 9) rfl) rfl
theorem n_ct_Md_240 : Cond.constantLong "AddressTermsModel" 240 (26562480598181234) ∈ aw_tw := aw_in5 (List.mem_of_getElem? (i := 10) rfl) rfl
theorem n_ml_Lw_74 : Cond.methodLink "AddressTermsLaw" 74 y_Md_at ∈ aw_tw := aw_in5 (List.mem_of_getElem? (i := 11) rfl) rfl
theorem n_im_Md_at : Cond.instanceMethod y_Md_at ∈ aw_tw := aw_in5 (List.mem_of_getElem? (i := 12) rfl) rfl
theorem n_se_Md_at : Cond.selects (y_Md_at).cls y_Md_at y_Md_at ∈ aw_tw := aw_in5 (List.mem_of_getElem? (i := 13) rfl) rfl
theorem n_co_Md_at : Cond.code y_Md_at c_Md_at 2 (some .int) ∈ aw_tw := aw_in5 (List.mem_of_getElem? (i := 14) rfl) rfl
theorem n_ml_Lw_78 : Cond.methodLink "AddressTermsLaw" 78 y_Md_count ∈ aw_tw := aw_in5 (List.mem_of_getElem? (i := 15) rfl) rfl
theorem n_im_Md_count : Cond.instanceMethod y_Md_count ∈ aw_tw := aw_in5 (List.mem_of_getElem? (i := 16) rfl) rfl
theorem n_se_Md_count : Cond.selects (y_Md_count).cls y_Md_count y_Md_count ∈ aw_tw := aw_in5 (List.mem_of_getElem? (i := 17) rfl) rfl
theorem n_co_Md_count : Cond.code y_Md_count c_Md_count 2 (some .int) ∈ aw_tw := aw_in5 (List.mem_of_getElem? (i := 18) rfl) rfl
theorem n_ct_Lw_13 : Cond.constantLong "AddressTermsLaw" 13 (4294967295) ∈ aw_tw := aw_in5 (List.mem_of_getElem? (i := 19) rfl) rfl
theorem n_fl_Js_15 : Cond.fieldLink "java/lang/String" 15 "java/lang/String" "coder" "B" ∈ aw_tw := aw_in5 (List.mem_of_getElem? (i := 20) rfl) rfl
theorem n_fl_Js_9 : Cond.fieldLink "java/lang/String" 9 "java/lang/String" "value" "[B" ∈ aw_tw := aw_in5 (List.mem_of_getElem? (i := 21) rfl) rfl
theorem n_se_At_addressOnTape : Cond.selects (y_At_addressOnTape).cls y_At_addressOnTape y_At_addressOnTape ∈ aw_tw := aw_in0 (q := (y_At_addressOnTape, 11)) (List.mem_append_left _ (List.mem_of_getElem? (i := 0) rfl)) rfl
theorem n_se_Rf_note : Cond.selects (y_Rf_note).cls y_Rf_note y_Rf_note ∈ aw_tw := aw_in0 (q := (y_Rf_note, 3)) (List.mem_append_left _ (List.mem_of_getElem? (i := 1) rfl)) rfl
theorem n_se_Rf_colonOfScheme : Cond.selects (y_Rf_colonOfScheme).cls y_Rf_colonOfScheme y_Rf_colonOfScheme ∈ aw_tw := aw_in0 (q := (y_Rf_colonOfScheme, 3)) (List.mem_append_left _ (List.mem_of_getElem? (i := 2) rfl)) rfl
theorem n_se_At_addressAt : Cond.selects (y_At_addressAt).cls y_At_addressAt y_At_addressAt ∈ aw_tw := aw_in0 (q := (y_At_addressAt, 11)) (List.mem_append_left _ (List.mem_of_getElem? (i := 3) rfl)) rfl
theorem n_se_At_termAt : Cond.selects (y_At_termAt).cls y_At_termAt y_At_termAt ∈ aw_tw := aw_in0 (q := (y_At_termAt, 11)) (List.mem_append_left _ (List.mem_of_getElem? (i := 4) rfl)) rfl
theorem n_se_Rf_endOf : Cond.selects (y_Rf_endOf).cls y_Rf_endOf y_Rf_endOf ∈ aw_tw := aw_in0 (q := (y_Rf_endOf, 3)) (List.mem_append_left _ (List.mem_of_getElem? (i := 5) rfl)) rfl
theorem n_se_Rf_beginOf : Cond.selects (y_Rf_beginOf).cls y_Rf_beginOf y_Rf_beginOf ∈ aw_tw := aw_in0 (q := (y_Rf_beginOf, 3)) (List.mem_append_left _ (List.mem_of_getElem? (i := 6) rfl)) rfl
theorem n_se_Rs_gatherPath : Cond.selects (y_Rs_gatherPath).cls y_Rs_gatherPath y_Rs_gatherPath ∈ aw_tw := aw_in0 (q := (y_Rs_gatherPath, 1)) (List.mem_append_left _ (List.mem_of_getElem? (i := 7) rfl)) rfl
theorem n_se_Rs_addPlainPath : Cond.selects (y_Rs_addPlainPath).cls y_Rs_addPlainPath y_Rs_addPlainPath ∈ aw_tw := aw_in0 (q := (y_Rs_addPlainPath, 1)) (List.mem_append_left _ (List.mem_of_getElem? (i := 8) rfl)) rfl
theorem n_se_At_placeOfWanted : Cond.selects (y_At_placeOfWanted).cls y_At_placeOfWanted y_At_placeOfWanted ∈ aw_tw := aw_in0 (q := (y_At_placeOfWanted, 11)) (List.mem_append_left _ (List.mem_of_getElem? (i := 9) rfl)) rfl
theorem n_se_Tm_rank : Cond.selects (y_Tm_rank).cls y_Tm_rank y_Tm_rank ∈ aw_tw := aw_in0 (q := (y_Tm_rank, 5)) (List.mem_append_left _ (List.mem_of_getElem? (i := 10) rfl)) rfl
theorem n_se_At_literalOnTape : Cond.selects (y_At_literalOnTape).cls y_At_literalOnTape y_At_literalOnTape ∈ aw_tw := aw_in0 (q := (y_At_literalOnTape, 11)) (List.mem_append_left _ (List.mem_of_getElem? (i := 11) rfl)) rfl
theorem n_se_At_tagOnTape : Cond.selects (y_At_tagOnTape).cls y_At_tagOnTape y_At_tagOnTape ∈ aw_tw := aw_in0 (q := (y_At_tagOnTape, 11)) (List.mem_append_left _ (List.mem_of_getElem? (i := 12) rfl)) rfl
theorem n_se_At_literalAt : Cond.selects (y_At_literalAt).cls y_At_literalAt y_At_literalAt ∈ aw_tw := aw_in0 (q := (y_At_literalAt, 11)) (List.mem_append_left _ (List.mem_of_getElem? (i := 13) rfl)) rfl
theorem n_se_At_nameOnTape : Cond.selects (y_At_nameOnTape).cls y_At_nameOnTape y_At_nameOnTape ∈ aw_tw := aw_in0 (q := (y_At_nameOnTape, 11)) (List.mem_append_left _ (List.mem_of_getElem? (i := 14) rfl)) rfl
theorem n_se_At_prefixAt : Cond.selects (y_At_prefixAt).cls y_At_prefixAt y_At_prefixAt ∈ aw_tw := aw_in0 (q := (y_At_prefixAt, 11)) (List.mem_append_left _ (List.mem_of_getElem? (i := 15) rfl)) rfl
theorem n_se_At_printLiteral : Cond.selects (y_At_printLiteral).cls y_At_printLiteral y_At_printLiteral ∈ aw_tw := aw_in0 (q := (y_At_printLiteral, 11)) (List.mem_append_right _ (List.mem_append_left _ (List.mem_of_getElem? (i := 0) rfl))) rfl
theorem n_se_At_printTextByte : Cond.selects (y_At_printTextByte).cls y_At_printTextByte y_At_printTextByte ∈ aw_tw := aw_in0 (q := (y_At_printTextByte, 11)) (List.mem_append_right _ (List.mem_append_left _ (List.mem_of_getElem? (i := 1) rfl))) rfl
theorem n_se_At_printAddress : Cond.selects (y_At_printAddress).cls y_At_printAddress y_At_printAddress ∈ aw_tw := aw_in0 (q := (y_At_printAddress, 11)) (List.mem_append_right _ (List.mem_append_left _ (List.mem_of_getElem? (i := 2) rfl))) rfl
theorem n_se_At_bestPrefix : Cond.selects (y_At_bestPrefix).cls y_At_bestPrefix y_At_bestPrefix ∈ aw_tw := aw_in0 (q := (y_At_bestPrefix, 11)) (List.mem_append_right _ (List.mem_append_left _ (List.mem_of_getElem? (i := 3) rfl))) rfl
theorem n_se_Md_note : Cond.selects (y_Md_note).cls y_Md_note y_Md_note ∈ aw_tw := aw_in0 (q := (y_Md_note, 30)) (List.mem_append_right _ (List.mem_append_left _ (List.mem_of_getElem? (i := 4) rfl))) rfl
theorem n_se_Md_find : Cond.selects (y_Md_find).cls y_Md_find y_Md_find ∈ aw_tw := aw_in0 (q := (y_Md_find, 30)) (List.mem_append_right _ (List.mem_append_left _ (List.mem_of_getElem? (i := 5) rfl))) rfl
theorem n_se_Md_wrong : Cond.selects (y_Md_wrong).cls y_Md_wrong y_Md_wrong ∈ aw_tw := aw_in0 (q := (y_Md_wrong, 30)) (List.mem_append_right _ (List.mem_append_left _ (List.mem_of_getElem? (i := 6) rfl))) rfl
theorem n_se_Md_resolveAgainst : Cond.selects (y_Md_resolveAgainst).cls y_Md_resolveAgainst y_Md_resolveAgainst ∈ aw_tw := aw_in0 (q := (y_Md_resolveAgainst, 30)) (List.mem_append_right _ (List.mem_append_left _ (List.mem_of_getElem? (i := 7) rfl))) rfl
theorem n_se_Md_take : Cond.selects (y_Md_take).cls y_Md_take y_Md_take ∈ aw_tw := aw_in0 (q := (y_Md_take, 30)) (List.mem_append_right _ (List.mem_append_left _ (List.mem_of_getElem? (i := 8) rfl))) rfl
theorem n_se_Md_split : Cond.selects (y_Md_split).cls y_Md_split y_Md_split ∈ aw_tw := aw_in0 (q := (y_Md_split, 30)) (List.mem_append_right _ (List.mem_append_left _ (List.mem_of_getElem? (i := 9) rfl))) rfl
theorem n_se_Md_refAt : Cond.selects (y_Md_refAt).cls y_Md_refAt y_Md_refAt ∈ aw_tw := aw_in0 (q := (y_Md_refAt, 30)) (List.mem_append_right _ (List.mem_append_left _ (List.mem_of_getElem? (i := 10) rfl))) rfl
theorem n_se_Md_stop : Cond.selects (y_Md_stop).cls y_Md_stop y_Md_stop ∈ aw_tw := aw_in0 (q := (y_Md_stop, 30)) (List.mem_append_right _ (List.mem_append_left _ (List.mem_of_getElem? (i := 11) rfl))) rfl
theorem n_se_Md_addRef : Cond.selects (y_Md_addRef).cls y_Md_addRef y_Md_addRef ∈ aw_tw := aw_in0 (q := (y_Md_addRef, 30)) (List.mem_append_right _ (List.mem_append_left _ (List.mem_of_getElem? (i := 12) rfl))) rfl
theorem n_se_Md_add : Cond.selects (y_Md_add).cls y_Md_add y_Md_add ∈ aw_tw := aw_in0 (q := (y_Md_add, 30)) (List.mem_append_right _ (List.mem_append_left _ (List.mem_of_getElem? (i := 13) rfl))) rfl
theorem n_se_Md_addBase : Cond.selects (y_Md_addBase).cls y_Md_addBase y_Md_addBase ∈ aw_tw := aw_in0 (q := (y_Md_addBase, 30)) (List.mem_append_right _ (List.mem_append_left _ (List.mem_of_getElem? (i := 14) rfl))) rfl
theorem n_se_Md_lead : Cond.selects (y_Md_lead).cls y_Md_lead y_Md_lead ∈ aw_tw := aw_in0 (q := (y_Md_lead, 30)) (List.mem_append_right _ (List.mem_append_left _ (List.mem_of_getElem? (i := 15) rfl))) rfl
theorem n_se_Md_merge : Cond.selects (y_Md_merge).cls y_Md_merge y_Md_merge ∈ aw_tw := aw_in0 (q := (y_Md_merge, 30)) (List.mem_append_right _ (List.mem_append_right _ (List.mem_append_left _ (List.mem_of_getElem? (i := 0) rfl)))) rfl
theorem n_se_Md_feed : Cond.selects (y_Md_feed).cls y_Md_feed y_Md_feed ∈ aw_tw := aw_in0 (q := (y_Md_feed, 30)) (List.mem_append_right _ (List.mem_append_right _ (List.mem_append_left _ (List.mem_of_getElem? (i := 1) rfl)))) rfl
theorem n_se_Md_plain : Cond.selects (y_Md_plain).cls y_Md_plain y_Md_plain ∈ aw_tw := aw_in0 (q := (y_Md_plain, 30)) (List.mem_append_right _ (List.mem_append_right _ (List.mem_append_left _ (List.mem_of_getElem? (i := 2) rfl)))) rfl
theorem n_se_Md_begins : Cond.selects (y_Md_begins).cls y_Md_begins y_Md_begins ∈ aw_tw := aw_in0 (q := (y_Md_begins, 30)) (List.mem_append_right _ (List.mem_append_right _ (List.mem_append_left _ (List.mem_of_getElem? (i := 3) rfl)))) rfl
theorem n_se_Md_skip : Cond.selects (y_Md_skip).cls y_Md_skip y_Md_skip ∈ aw_tw := aw_in0 (q := (y_Md_skip, 30)) (List.mem_append_right _ (List.mem_append_right _ (List.mem_append_left _ (List.mem_of_getElem? (i := 4) rfl)))) rfl
theorem n_se_Md_back : Cond.selects (y_Md_back).cls y_Md_back y_Md_back ∈ aw_tw := aw_in0 (q := (y_Md_back, 30)) (List.mem_append_right _ (List.mem_append_right _ (List.mem_append_left _ (List.mem_of_getElem? (i := 5) rfl)))) rfl
theorem n_se_Md_isAddress : Cond.selects (y_Md_isAddress).cls y_Md_isAddress y_Md_isAddress ∈ aw_tw := aw_in0 (q := (y_Md_isAddress, 30)) (List.mem_append_right _ (List.mem_append_right _ (List.mem_append_left _ (List.mem_of_getElem? (i := 6) rfl)))) rfl
theorem n_se_Md_isTerm : Cond.selects (y_Md_isTerm).cls y_Md_isTerm y_Md_isTerm ∈ aw_tw := aw_in0 (q := (y_Md_isTerm, 30)) (List.mem_append_right _ (List.mem_append_right _ (List.mem_append_left _ (List.mem_of_getElem? (i := 7) rfl)))) rfl
theorem n_se_Md_escaped : Cond.selects (y_Md_escaped).cls y_Md_escaped y_Md_escaped ∈ aw_tw := aw_in0 (q := (y_Md_escaped, 30)) (List.mem_append_right _ (List.mem_append_right _ (List.mem_append_left _ (List.mem_of_getElem? (i := 8) rfl)))) rfl
theorem n_se_Md_isWhole : Cond.selects (y_Md_isWhole).cls y_Md_isWhole y_Md_isWhole ∈ aw_tw := aw_in0 (q := (y_Md_isWhole, 30)) (List.mem_append_right _ (List.mem_append_right _ (List.mem_append_left _ (List.mem_of_getElem? (i := 9) rfl)))) rfl
theorem n_se_Md_whole : Cond.selects (y_Md_whole).cls y_Md_whole y_Md_whole ∈ aw_tw := aw_in0 (q := (y_Md_whole, 30)) (List.mem_append_right _ (List.mem_append_right _ (List.mem_append_left _ (List.mem_of_getElem? (i := 10) rfl)))) rfl
theorem n_se_Md_truth : Cond.selects (y_Md_truth).cls y_Md_truth y_Md_truth ∈ aw_tw := aw_in0 (q := (y_Md_truth, 30)) (List.mem_append_right _ (List.mem_append_right _ (List.mem_append_left _ (List.mem_of_getElem? (i := 11) rfl)))) rfl
theorem n_se_Md_isBytes : Cond.selects (y_Md_isBytes).cls y_Md_isBytes y_Md_isBytes ∈ aw_tw := aw_in0 (q := (y_Md_isBytes, 30)) (List.mem_append_right _ (List.mem_append_right _ (List.mem_append_left _ (List.mem_of_getElem? (i := 12) rfl)))) rfl
theorem n_se_Md_compareBytes : Cond.selects (y_Md_compareBytes).cls y_Md_compareBytes y_Md_compareBytes ∈ aw_tw := aw_in0 (q := (y_Md_compareBytes, 30)) (List.mem_append_right _ (List.mem_append_right _ (List.mem_append_left _ (List.mem_of_getElem? (i := 13) rfl)))) rfl
theorem n_se_Md_compareTags : Cond.selects (y_Md_compareTags).cls y_Md_compareTags y_Md_compareTags ∈ aw_tw := aw_in0 (q := (y_Md_compareTags, 30)) (List.mem_append_right _ (List.mem_append_right _ (List.mem_append_left _ (List.mem_of_getElem? (i := 14) rfl)))) rfl
theorem n_se_Md_tellAddress : Cond.selects (y_Md_tellAddress).cls y_Md_tellAddress y_Md_tellAddress ∈ aw_tw := aw_in0 (q := (y_Md_tellAddress, 30)) (List.mem_append_right _ (List.mem_append_right _ (List.mem_append_left _ (List.mem_of_getElem? (i := 15) rfl)))) rfl
theorem n_se_Md_isNameBefore : Cond.selects (y_Md_isNameBefore).cls y_Md_isNameBefore y_Md_isNameBefore ∈ aw_tw := aw_in0 (q := (y_Md_isNameBefore, 30)) (List.mem_append_right _ (List.mem_append_right _ (List.mem_append_right _ (List.mem_of_getElem? (i := 0) rfl)))) rfl
theorem n_se_Md_shortens : Cond.selects (y_Md_shortens).cls y_Md_shortens y_Md_shortens ∈ aw_tw := aw_in0 (q := (y_Md_shortens, 30)) (List.mem_append_right _ (List.mem_append_right _ (List.mem_append_right _ (List.mem_of_getElem? (i := 1) rfl)))) rfl
theorem n_se_Md_tell : Cond.selects (y_Md_tell).cls y_Md_tell y_Md_tell ∈ aw_tw := aw_in0 (q := (y_Md_tell, 30)) (List.mem_append_right _ (List.mem_append_right _ (List.mem_append_right _ (List.mem_of_getElem? (i := 2) rfl)))) rfl
theorem n_se_Md_tellAll : Cond.selects (y_Md_tellAll).cls y_Md_tellAll y_Md_tellAll ∈ aw_tw := aw_in0 (q := (y_Md_tellAll, 30)) (List.mem_append_right _ (List.mem_append_right _ (List.mem_append_right _ (List.mem_of_getElem? (i := 3) rfl)))) rfl
theorem n_se_Md_tellNumber : Cond.selects (y_Md_tellNumber).cls y_Md_tellNumber y_Md_tellNumber ∈ aw_tw := aw_in0 (q := (y_Md_tellNumber, 30)) (List.mem_append_right _ (List.mem_append_right _ (List.mem_append_right _ (List.mem_of_getElem? (i := 4) rfl)))) rfl
theorem n_se_Md_tellLiteral : Cond.selects (y_Md_tellLiteral).cls y_Md_tellLiteral y_Md_tellLiteral ∈ aw_tw := aw_in0 (q := (y_Md_tellLiteral, 30)) (List.mem_append_right _ (List.mem_append_right _ (List.mem_append_right _ (List.mem_of_getElem? (i := 5) rfl)))) rfl
