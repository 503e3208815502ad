/-! the methods' words together -/
theorem mb_At_init : aw_MB y_At_init c_At_init 1 none 0 := ⟨n_co_At_init, n_ini_At, by decide +kernel⟩
theorem mb_Rw_init : aw_MB y_Rw_init c_Rw_init 2 none 1 := ⟨n_co_Rw_init, n_ini_Rw, by decide +kernel⟩
theorem mb_Tm_init : aw_MB y_Tm_init c_Tm_init 3 none 2 := ⟨n_co_Tm_init, n_ini_Tm, by decide +kernel⟩
theorem mb_Rf_init : aw_MB y_Rf_init c_Rf_init 1 none 0 := ⟨n_co_Rf_init, n_ini_Rf, by decide +kernel⟩
theorem mb_Rs_init : aw_MB y_Rs_init c_Rs_init 1 none 0 := ⟨n_co_Rs_init, n_ini_Rs, by decide +kernel⟩
theorem mb_At_type : aw_MB y_At_type c_At_type 5 (some .int) 2 := ⟨n_co_At_type, n_ini_At, by decide +kernel⟩
theorem mi_At_type : Cond.instanceMethod y_At_type ∈ aw_tw ∧ Cond.selects (y_At_type).cls y_At_type y_At_type ∈ aw_tw := ⟨n_im_At_type, n_se_At_type⟩
theorem mb_At_byteOf : aw_MB y_At_byteOf c_At_byteOf 3 (some .int) 2 := ⟨n_co_At_byteOf, n_ini_At, by decide +kernel⟩
theorem mb_At_isTapeByte : aw_MB y_At_isTapeByte c_At_isTapeByte 1 (some .boolean) 1 := ⟨n_co_At_isTapeByte, n_ini_At, by decide +kernel⟩
theorem mb_Rw_size : aw_MB y_Rw_size c_Rw_size 1 (some .int) 0 := ⟨n_co_Rw_size, n_ini_Rw, by decide +kernel⟩
theorem mi_Rw_size : Cond.instanceMethod y_Rw_size ∈ aw_tw ∧ Cond.selects (y_Rw_size).cls y_Rw_size y_Rw_size ∈ aw_tw := ⟨n_im_Rw_size, n_se_Rw_size⟩
theorem mb_Rw_add : aw_MB y_Rw_add c_Rw_add 2 none 1 := ⟨n_co_Rw_add, n_ini_Rw, by decide +kernel⟩
theorem mi_Rw_add : Cond.instanceMethod y_Rw_add ∈ aw_tw ∧ Cond.selects (y_Rw_add).cls y_Rw_add y_Rw_add ∈ aw_tw := ⟨n_im_Rw_add, n_se_Rw_add⟩
theorem mb_At_resolve : aw_MB y_At_resolve c_At_resolve 2 (some .int) 0 := ⟨n_co_At_resolve, n_ini_At, by decide +kernel⟩
theorem mi_At_resolve : Cond.instanceMethod y_At_resolve ∈ aw_tw ∧ Cond.selects (y_At_resolve).cls y_At_resolve y_At_resolve ∈ aw_tw := ⟨n_im_At_resolve, n_se_At_resolve⟩
theorem mb_At_addressOnTape : aw_MB y_At_addressOnTape c_At_addressOnTape 3 (some .int) 0 := ⟨n_co_At_addressOnTape, n_ini_At, by decide +kernel⟩
theorem mi_At_addressOnTape : Cond.instanceMethod y_At_addressOnTape ∈ aw_tw ∧ Cond.selects (y_At_addressOnTape).cls y_At_addressOnTape y_At_addressOnTape ∈ aw_tw := ⟨n_im_At_addressOnTape, n_se_At_addressOnTape⟩
theorem mb_At_wrongInReference : aw_MB y_At_wrongInReference c_At_wrongInReference 3 (some .int) 1 := ⟨n_co_At_wrongInReference, n_ini_At, by decide +kernel⟩
theorem mb_Rw_byteAt : aw_MB y_Rw_byteAt c_Rw_byteAt 2 (some .int) 1 := ⟨n_co_Rw_byteAt, n_ini_Rw, by decide +kernel⟩
theorem mi_Rw_byteAt : Cond.instanceMethod y_Rw_byteAt ∈ aw_tw ∧ Cond.selects (y_Rw_byteAt).cls y_Rw_byteAt y_Rw_byteAt ∈ aw_tw := ⟨n_im_Rw_byteAt, n_se_Rw_byteAt⟩
theorem mb_At_isReferenceByte : aw_MB y_At_isReferenceByte c_At_isReferenceByte 1 (some .boolean) 1 := ⟨n_co_At_isReferenceByte, n_ini_At, by decide +kernel⟩
theorem mb_Js_indexOf1 : aw_MB y_Js_indexOf1 c_Js_indexOf1 2 (some .int) 1 := ⟨n_co_Js_indexOf1, n_ini_Js, by decide +kernel⟩
theorem mi_Js_indexOf1 : Cond.instanceMethod y_Js_indexOf1 ∈ aw_tw ∧ Cond.selects (y_Js_indexOf1).cls y_Js_indexOf1 y_Js_indexOf1 ∈ aw_tw := ⟨n_im_Js_indexOf1, n_se_Js_indexOf1⟩
theorem mb_Js_indexOf2 : aw_MB y_Js_indexOf2 c_Js_indexOf2 3 (some .int) 2 := ⟨n_co_Js_indexOf2, n_ini_Js, by decide +kernel⟩
theorem mi_Js_indexOf2 : Cond.instanceMethod y_Js_indexOf2 ∈ aw_tw ∧ Cond.selects (y_Js_indexOf2).cls y_Js_indexOf2 y_Js_indexOf2 ∈ aw_tw := ⟨n_im_Js_indexOf2, n_se_Js_indexOf2⟩
theorem mb_Js_isLatin1 : aw_MB y_Js_isLatin1 c_Js_isLatin1 1 (some .boolean) 0 := ⟨n_co_Js_isLatin1, n_ini_Js, by decide +kernel⟩
theorem mi_Js_isLatin1 : Cond.instanceMethod y_Js_isLatin1 ∈ aw_tw ∧ Cond.selects (y_Js_isLatin1).cls y_Js_isLatin1 y_Js_isLatin1 ∈ aw_tw := ⟨n_im_Js_isLatin1, n_se_Js_isLatin1⟩
theorem mb_Js_length : aw_MB y_Js_length c_Js_length 1 (some .int) 0 := ⟨n_co_Js_length, n_ini_Js, by decide +kernel⟩
theorem mi_Js_length : Cond.instanceMethod y_Js_length ∈ aw_tw ∧ Cond.selects (y_Js_length).cls y_Js_length y_Js_length ∈ aw_tw := ⟨n_im_Js_length, n_se_Js_length⟩
theorem mb_Js_coder : aw_MB y_Js_coder c_Js_coder 1 (some .byte) 0 := ⟨n_co_Js_coder, n_ini_Js, by decide +kernel⟩
theorem mi_Js_coder : Cond.instanceMethod y_Js_coder ∈ aw_tw ∧ Cond.selects (y_Js_coder).cls y_Js_coder y_Js_coder ∈ aw_tw := ⟨n_im_Js_coder, n_se_Js_coder⟩
theorem mb_Jl_indexOf : aw_MB y_Jl_indexOf c_Jl_indexOf 4 (some .int) 4 := ⟨n_co_Jl_indexOf, n_ini_Jl, by decide +kernel⟩
theorem mb_Jl_canEncode : aw_MB y_Jl_canEncode c_Jl_canEncode 1 (some .boolean) 1 := ⟨n_co_Jl_canEncode, n_ini_Jl, by decide +kernel⟩
theorem mb_Jl_indexOfChar : aw_MB y_Jl_indexOfChar c_Jl_indexOfChar 6 (some .int) 4 := ⟨n_co_Jl_indexOfChar, n_ini_Jl, by decide +kernel⟩
theorem mb_Js_checkBoundsBeginEnd : aw_MB y_Js_checkBoundsBeginEnd c_Js_checkBoundsBeginEnd 3 none 3 := ⟨n_co_Js_checkBoundsBeginEnd, n_ini_Js, by decide +kernel⟩
theorem mb_Jp_checkFromToIndex : aw_MB y_Jp_checkFromToIndex c_Jp_checkFromToIndex 4 (some .int) 4 := ⟨n_co_Jp_checkFromToIndex, n_ini_Jp, by decide +kernel⟩
theorem mb_At_hexValue : aw_MB y_At_hexValue c_At_hexValue 1 (some .int) 1 := ⟨n_co_At_hexValue, n_ini_At, by decide +kernel⟩
theorem mb_At_isDigit : aw_MB y_At_isDigit c_At_isDigit 1 (some .boolean) 1 := ⟨n_co_At_isDigit, n_ini_At, by decide +kernel⟩
theorem mb_Rf_read : aw_MB y_Rf_read c_Rf_read 6 none 1 := ⟨n_co_Rf_read, n_ini_Rf, by decide +kernel⟩
theorem mi_Rf_read : Cond.instanceMethod y_Rf_read ∈ aw_tw ∧ Cond.selects (y_Rf_read).cls y_Rf_read y_Rf_read ∈ aw_tw := ⟨n_im_Rf_read, n_se_Rf_read⟩
theorem mb_Rf_note : aw_MB y_Rf_note c_Rf_note 4 none 3 := ⟨n_co_Rf_note, n_ini_Rf, by decide +kernel⟩
theorem mi_Rf_note : Cond.instanceMethod y_Rf_note ∈ aw_tw ∧ Cond.selects (y_Rf_note).cls y_Rf_note y_Rf_note ∈ aw_tw := ⟨n_im_Rf_note, n_se_Rf_note⟩
theorem mb_Rf_colonOfScheme : aw_MB y_Rf_colonOfScheme c_Rf_colonOfScheme 3 (some .int) 0 := ⟨n_co_Rf_colonOfScheme, n_ini_Rf, by decide +kernel⟩
theorem mi_Rf_colonOfScheme : Cond.instanceMethod y_Rf_colonOfScheme ∈ aw_tw ∧ Cond.selects (y_Rf_colonOfScheme).cls y_Rf_colonOfScheme y_Rf_colonOfScheme ∈ aw_tw := ⟨n_im_Rf_colonOfScheme, n_se_Rf_colonOfScheme⟩
theorem mb_At_isLetter : aw_MB y_At_isLetter c_At_isLetter 1 (some .boolean) 1 := ⟨n_co_At_isLetter, n_ini_At, by decide +kernel⟩
theorem mb_At_isSmallLetter : aw_MB y_At_isSmallLetter c_At_isSmallLetter 1 (some .boolean) 1 := ⟨n_co_At_isSmallLetter, n_ini_At, by decide +kernel⟩
theorem mb_At_isGreatLetter : aw_MB y_At_isGreatLetter c_At_isGreatLetter 1 (some .boolean) 1 := ⟨n_co_At_isGreatLetter, n_ini_At, by decide +kernel⟩
theorem mb_At_isLetterOrDigit : aw_MB y_At_isLetterOrDigit c_At_isLetterOrDigit 1 (some .boolean) 1 := ⟨n_co_At_isLetterOrDigit, n_ini_At, by decide +kernel⟩
theorem mb_Rw_hasThere : aw_MB y_Rw_hasThere c_Rw_hasThere 4 (some .boolean) 2 := ⟨n_co_Rw_hasThere, n_ini_Rw, by decide +kernel⟩
theorem mi_Rw_hasThere : Cond.instanceMethod y_Rw_hasThere ∈ aw_tw ∧ Cond.selects (y_Rw_hasThere).cls y_Rw_hasThere y_Rw_hasThere ∈ aw_tw := ⟨n_im_Rw_hasThere, n_se_Rw_hasThere⟩
theorem mb_Js_charAt : aw_MB y_Js_charAt c_Js_charAt 2 (some .char) 1 := ⟨n_co_Js_charAt, n_ini_Js, by decide +kernel⟩
theorem mi_Js_charAt : Cond.instanceMethod y_Js_charAt ∈ aw_tw ∧ Cond.selects (y_Js_charAt).cls y_Js_charAt y_Js_charAt ∈ aw_tw := ⟨n_im_Js_charAt, n_se_Js_charAt⟩
theorem mb_Jl_charAt : aw_MB y_Jl_charAt c_Jl_charAt 2 (some .char) 2 := ⟨n_co_Jl_charAt, n_ini_Jl, by decide +kernel⟩
theorem mb_Js_checkIndex : aw_MB y_Js_checkIndex c_Js_checkIndex 2 none 2 := ⟨n_co_Js_checkIndex, n_ini_Js, by decide +kernel⟩
theorem mb_Jp_checkIndex : aw_MB y_Jp_checkIndex c_Jp_checkIndex 3 (some .int) 3 := ⟨n_co_Jp_checkIndex, n_ini_Jp, by decide +kernel⟩
theorem mb_Rw_nextOf : aw_MB y_Rw_nextOf c_Rw_nextOf 4 (some .int) 2 := ⟨n_co_Rw_nextOf, n_ini_Rw, by decide +kernel⟩
theorem mi_Rw_nextOf : Cond.instanceMethod y_Rw_nextOf ∈ aw_tw ∧ Cond.selects (y_Rw_nextOf).cls y_Rw_nextOf y_Rw_nextOf ∈ aw_tw := ⟨n_im_Rw_nextOf, n_se_Rw_nextOf⟩
theorem mb_At_addressAt : aw_MB y_At_addressAt c_At_addressAt 3 (some (.object "AddressTerms$Term")) 1 := ⟨n_co_At_addressAt, n_ini_At, by decide +kernel⟩
theorem mi_At_addressAt : Cond.instanceMethod y_At_addressAt ∈ aw_tw ∧ Cond.selects (y_At_addressAt).cls y_At_addressAt y_At_addressAt ∈ aw_tw := ⟨n_im_At_addressAt, n_se_At_addressAt⟩
theorem mb_At_termAt : aw_MB y_At_termAt c_At_termAt 2 (some (.object "AddressTerms$Term")) 1 := ⟨n_co_At_termAt, n_ini_At, by decide +kernel⟩
theorem mi_At_termAt : Cond.instanceMethod y_At_termAt ∈ aw_tw ∧ Cond.selects (y_At_termAt).cls y_At_termAt y_At_termAt ∈ aw_tw := ⟨n_im_At_termAt, n_se_At_termAt⟩
theorem mb_Rf_has : aw_MB y_Rf_has c_Rf_has 2 (some .boolean) 1 := ⟨n_co_Rf_has, n_ini_Rf, by decide +kernel⟩
theorem mi_Rf_has : Cond.instanceMethod y_Rf_has ∈ aw_tw ∧ Cond.selects (y_Rf_has).cls y_Rf_has y_Rf_has ∈ aw_tw := ⟨n_im_Rf_has, n_se_Rf_has⟩
theorem mb_Rf_endOf : aw_MB y_Rf_endOf c_Rf_endOf 2 (some .int) 1 := ⟨n_co_Rf_endOf, n_ini_Rf, by decide +kernel⟩
theorem mi_Rf_endOf : Cond.instanceMethod y_Rf_endOf ∈ aw_tw ∧ Cond.selects (y_Rf_endOf).cls y_Rf_endOf y_Rf_endOf ∈ aw_tw := ⟨n_im_Rf_endOf, n_se_Rf_endOf⟩
theorem mb_Tm_begin : aw_MB y_Tm_begin c_Tm_begin 4 none 3 := ⟨n_co_Tm_begin, n_ini_Tm, by decide +kernel⟩
theorem mi_Tm_begin : Cond.instanceMethod y_Tm_begin ∈ aw_tw ∧ Cond.selects (y_Tm_begin).cls y_Tm_begin y_Tm_begin ∈ aw_tw := ⟨n_im_Tm_begin, n_se_Tm_begin⟩
theorem mb_Rw_cutTo : aw_MB y_Rw_cutTo c_Rw_cutTo 2 none 1 := ⟨n_co_Rw_cutTo, n_ini_Rw, by decide +kernel⟩
theorem mi_Rw_cutTo : Cond.instanceMethod y_Rw_cutTo ∈ aw_tw ∧ Cond.selects (y_Rw_cutTo).cls y_Rw_cutTo y_Rw_cutTo ∈ aw_tw := ⟨n_im_Rw_cutTo, n_se_Rw_cutTo⟩
theorem mb_Rw_addRange : aw_MB y_Rw_addRange c_Rw_addRange 6 none 3 := ⟨n_co_Rw_addRange, n_ini_Rw, by decide +kernel⟩
theorem mi_Rw_addRange : Cond.instanceMethod y_Rw_addRange ∈ aw_tw ∧ Cond.selects (y_Rw_addRange).cls y_Rw_addRange y_Rw_addRange ∈ aw_tw := ⟨n_im_Rw_addRange, n_se_Rw_addRange⟩
theorem mb_Rs_resolveTo : aw_MB y_Rs_resolveTo c_Rs_resolveTo 8 none 3 := ⟨n_co_Rs_resolveTo, n_ini_Rs, by decide +kernel⟩
theorem mi_Rs_resolveTo : Cond.instanceMethod y_Rs_resolveTo ∈ aw_tw ∧ Cond.selects (y_Rs_resolveTo).cls y_Rs_resolveTo y_Rs_resolveTo ∈ aw_tw := ⟨n_im_Rs_resolveTo, n_se_Rs_resolveTo⟩
theorem mb_Rf_lengthOf : aw_MB y_Rf_lengthOf c_Rf_lengthOf 2 (some .int) 1 := ⟨n_co_Rf_lengthOf, n_ini_Rf, by decide +kernel⟩
theorem mi_Rf_lengthOf : Cond.instanceMethod y_Rf_lengthOf ∈ aw_tw ∧ Cond.selects (y_Rf_lengthOf).cls y_Rf_lengthOf y_Rf_lengthOf ∈ aw_tw := ⟨n_im_Rf_lengthOf, n_se_Rf_lengthOf⟩
theorem mb_Rf_beginOf : aw_MB y_Rf_beginOf c_Rf_beginOf 2 (some .int) 1 := ⟨n_co_Rf_beginOf, n_ini_Rf, by decide +kernel⟩
theorem mi_Rf_beginOf : Cond.instanceMethod y_Rf_beginOf ∈ aw_tw ∧ Cond.selects (y_Rf_beginOf).cls y_Rf_beginOf y_Rf_beginOf ∈ aw_tw := ⟨n_im_Rf_beginOf, n_se_Rf_beginOf⟩
theorem mb_Rf_copyTo : aw_MB y_Rf_copyTo c_Rf_copyTo 3 none 2 := ⟨n_co_Rf_copyTo, n_ini_Rf, by decide +kernel⟩
theorem mi_Rf_copyTo : Cond.instanceMethod y_Rf_copyTo ∈ aw_tw ∧ Cond.selects (y_Rf_copyTo).cls y_Rf_copyTo y_Rf_copyTo ∈ aw_tw := ⟨n_im_Rf_copyTo, n_se_Rf_copyTo⟩
theorem mb_Rs_addBehind : aw_MB y_Rs_addBehind c_Rs_addBehind 4 none 4 := ⟨n_co_Rs_addBehind, n_ini_Rs, by decide +kernel⟩
theorem mb_Rw_addText : aw_MB y_Rw_addText c_Rw_addText 3 none 1 := ⟨n_co_Rw_addText, n_ini_Rw, by decide +kernel⟩
theorem mi_Rw_addText : Cond.instanceMethod y_Rw_addText ∈ aw_tw ∧ Cond.selects (y_Rw_addText).cls y_Rw_addText y_Rw_addText ∈ aw_tw := ⟨n_im_Rw_addText, n_se_Rw_addText⟩
theorem mb_Rs_gatherPath : aw_MB y_Rs_gatherPath c_Rs_gatherPath 4 none 3 := ⟨n_co_Rs_gatherPath, n_ini_Rs, by decide +kernel⟩
theorem mi_Rs_gatherPath : Cond.instanceMethod y_Rs_gatherPath ∈ aw_tw ∧ Cond.selects (y_Rs_gatherPath).cls y_Rs_gatherPath y_Rs_gatherPath ∈ aw_tw := ⟨n_im_Rs_gatherPath, n_se_Rs_gatherPath⟩
theorem mb_Rf_hasPathFromTop : aw_MB y_Rf_hasPathFromTop c_Rf_hasPathFromTop 1 (some .boolean) 0 := ⟨n_co_Rf_hasPathFromTop, n_ini_Rf, by decide +kernel⟩
theorem mi_Rf_hasPathFromTop : Cond.instanceMethod y_Rf_hasPathFromTop ∈ aw_tw ∧ Cond.selects (y_Rf_hasPathFromTop).cls y_Rf_hasPathFromTop y_Rf_hasPathFromTop ∈ aw_tw := ⟨n_im_Rf_hasPathFromTop, n_se_Rf_hasPathFromTop⟩
theorem mb_Rf_copyFolderTo : aw_MB y_Rf_copyFolderTo c_Rf_copyFolderTo 3 none 1 := ⟨n_co_Rf_copyFolderTo, n_ini_Rf, by decide +kernel⟩
theorem mi_Rf_copyFolderTo : Cond.instanceMethod y_Rf_copyFolderTo ∈ aw_tw ∧ Cond.selects (y_Rf_copyFolderTo).cls y_Rf_copyFolderTo y_Rf_copyFolderTo ∈ aw_tw := ⟨n_im_Rf_copyFolderTo, n_se_Rf_copyFolderTo⟩
theorem mb_Rw_lastSlash : aw_MB y_Rw_lastSlash c_Rw_lastSlash 4 (some .int) 2 := ⟨n_co_Rw_lastSlash, n_ini_Rw, by decide +kernel⟩
theorem mi_Rw_lastSlash : Cond.instanceMethod y_Rw_lastSlash ∈ aw_tw ∧ Cond.selects (y_Rw_lastSlash).cls y_Rw_lastSlash y_Rw_lastSlash ∈ aw_tw := ⟨n_im_Rw_lastSlash, n_se_Rw_lastSlash⟩
theorem mb_Rs_addPlainPath : aw_MB y_Rs_addPlainPath c_Rs_addPlainPath 7 none 1 := ⟨n_co_Rs_addPlainPath, n_ini_Rs, by decide +kernel⟩
theorem mi_Rs_addPlainPath : Cond.instanceMethod y_Rs_addPlainPath ∈ aw_tw ∧ Cond.selects (y_Rs_addPlainPath).cls y_Rs_addPlainPath y_Rs_addPlainPath ∈ aw_tw := ⟨n_im_Rs_addPlainPath, n_se_Rs_addPlainPath⟩
theorem mb_Rw_isRest : aw_MB y_Rw_isRest c_Rw_isRest 3 (some .boolean) 2 := ⟨n_co_Rw_isRest, n_ini_Rw, by decide +kernel⟩
theorem mi_Rw_isRest : Cond.instanceMethod y_Rw_isRest ∈ aw_tw ∧ Cond.selects (y_Rw_isRest).cls y_Rw_isRest y_Rw_isRest ∈ aw_tw := ⟨n_im_Rw_isRest, n_se_Rw_isRest⟩
theorem mb_Rw_set : aw_MB y_Rw_set c_Rw_set 3 none 2 := ⟨n_co_Rw_set, n_ini_Rw, by decide +kernel⟩
theorem mi_Rw_set : Cond.instanceMethod y_Rw_set ∈ aw_tw ∧ Cond.selects (y_Rw_set).cls y_Rw_set y_Rw_set ∈ aw_tw := ⟨n_im_Rw_set, n_se_Rw_set⟩
theorem mb_Rs_dropLast : aw_MB y_Rs_dropLast c_Rs_dropLast 3 none 2 := ⟨n_co_Rs_dropLast, n_ini_Rs, by decide +kernel⟩
theorem mb_At_placeOfWanted : aw_MB y_At_placeOfWanted c_At_placeOfWanted 3 (some .int) 0 := ⟨n_co_At_placeOfWanted, n_ini_At, by decide +kernel⟩
theorem mi_At_placeOfWanted : Cond.instanceMethod y_At_placeOfWanted ∈ aw_tw ∧ Cond.selects (y_At_placeOfWanted).cls y_At_placeOfWanted y_At_placeOfWanted ∈ aw_tw := ⟨n_im_At_placeOfWanted, n_se_At_placeOfWanted⟩
theorem mb_Tm_order : aw_MB y_Tm_order c_Tm_order 3 (some .int) 1 := ⟨n_co_Tm_order, n_ini_Tm, by decide +kernel⟩
theorem mi_Tm_order : Cond.instanceMethod y_Tm_order ∈ aw_tw ∧ Cond.selects (y_Tm_order).cls y_Tm_order y_Tm_order ∈ aw_tw := ⟨n_im_Tm_order, n_se_Tm_order⟩
theorem mb_Tm_rank : aw_MB y_Tm_rank c_Tm_rank 1 (some .int) 0 := ⟨n_co_Tm_rank, n_ini_Tm, by decide +kernel⟩
theorem mi_Tm_rank : Cond.instanceMethod y_Tm_rank ∈ aw_tw ∧ Cond.selects (y_Tm_rank).cls y_Tm_rank y_Tm_rank ∈ aw_tw := ⟨n_im_Tm_rank, n_se_Tm_rank⟩
theorem mb_At_orderOf : aw_MB y_At_orderOf c_At_orderOf 2 (some .int) 2 := ⟨n_co_At_orderOf, n_ini_At, by decide +kernel⟩
theorem mb_Rw_order : aw_MB y_Rw_order c_Rw_order 5 (some .int) 1 := ⟨n_co_Rw_order, n_ini_Rw, by decide +kernel⟩
theorem mi_Rw_order : Cond.instanceMethod y_Rw_order ∈ aw_tw ∧ Cond.selects (y_Rw_order).cls y_Rw_order y_Rw_order ∈ aw_tw := ⟨n_im_Rw_order, n_se_Rw_order⟩
theorem mb_Tm_copy : aw_MB y_Tm_copy c_Tm_copy 2 (some (.object "AddressTerms$Term")) 0 := ⟨n_co_Tm_copy, n_ini_Tm, by decide +kernel⟩
theorem mi_Tm_copy : Cond.instanceMethod y_Tm_copy ∈ aw_tw ∧ Cond.selects (y_Tm_copy).cls y_Tm_copy y_Tm_copy ∈ aw_tw := ⟨n_im_Tm_copy, n_se_Tm_copy⟩
theorem mb_At_base : aw_MB y_At_base c_At_base 2 (some .int) 1 := ⟨n_co_At_base, n_ini_At, by decide +kernel⟩
theorem mi_At_base : Cond.instanceMethod y_At_base ∈ aw_tw ∧ Cond.selects (y_At_base).cls y_At_base y_At_base ∈ aw_tw := ⟨n_im_At_base, n_se_At_base⟩
theorem mb_At_label : aw_MB y_At_label c_At_label 2 (some .int) 1 := ⟨n_co_At_label, n_ini_At, by decide +kernel⟩
theorem mi_At_label : Cond.instanceMethod y_At_label ∈ aw_tw ∧ Cond.selects (y_At_label).cls y_At_label y_At_label ∈ aw_tw := ⟨n_im_At_label, n_se_At_label⟩
theorem mb_At_literal : aw_MB y_At_literal c_At_literal 3 (some .int) 1 := ⟨n_co_At_literal, n_ini_At, by decide +kernel⟩
theorem mi_At_literal : Cond.instanceMethod y_At_literal ∈ aw_tw ∧ Cond.selects (y_At_literal).cls y_At_literal y_At_literal ∈ aw_tw := ⟨n_im_At_literal, n_se_At_literal⟩
theorem mb_At_literalOnTape : aw_MB y_At_literalOnTape c_At_literalOnTape 3 (some .int) 1 := ⟨n_co_At_literalOnTape, n_ini_At, by decide +kernel⟩
theorem mi_At_literalOnTape : Cond.instanceMethod y_At_literalOnTape ∈ aw_tw ∧ Cond.selects (y_At_literalOnTape).cls y_At_literalOnTape y_At_literalOnTape ∈ aw_tw := ⟨n_im_At_literalOnTape, n_se_At_literalOnTape⟩
theorem mb_At_readText : aw_MB y_At_readText c_At_readText 6 (some .int) 2 := ⟨n_co_At_readText, n_ini_At, by decide +kernel⟩
theorem mb_At_escapedByte : aw_MB y_At_escapedByte c_At_escapedByte 2 (some .int) 2 := ⟨n_co_At_escapedByte, n_ini_At, by decide +kernel⟩
theorem mb_At_hexByte : aw_MB y_At_hexByte c_At_hexByte 5 (some .int) 2 := ⟨n_co_At_hexByte, n_ini_At, by decide +kernel⟩
theorem mb_At_isTextByte : aw_MB y_At_isTextByte c_At_isTextByte 1 (some .boolean) 1 := ⟨n_co_At_isTextByte, n_ini_At, by decide +kernel⟩
theorem mb_At_tagged : aw_MB y_At_tagged c_At_tagged 3 (some .int) 1 := ⟨n_co_At_tagged, n_ini_At, by decide +kernel⟩
theorem mi_At_tagged : Cond.instanceMethod y_At_tagged ∈ aw_tw ∧ Cond.selects (y_At_tagged).cls y_At_tagged y_At_tagged ∈ aw_tw := ⟨n_im_At_tagged, n_se_At_tagged⟩
theorem mb_At_tagOnTape : aw_MB y_At_tagOnTape c_At_tagOnTape 5 (some .int) 1 := ⟨n_co_At_tagOnTape, n_ini_At, by decide +kernel⟩
theorem mi_At_tagOnTape : Cond.instanceMethod y_At_tagOnTape ∈ aw_tw ∧ Cond.selects (y_At_tagOnTape).cls y_At_tagOnTape y_At_tagOnTape ∈ aw_tw := ⟨n_im_At_tagOnTape, n_se_At_tagOnTape⟩
theorem mb_At_literalAt : aw_MB y_At_literalAt c_At_literalAt 3 (some (.object "AddressTerms$Term")) 1 := ⟨n_co_At_literalAt, n_ini_At, by decide +kernel⟩
theorem mi_At_literalAt : Cond.instanceMethod y_At_literalAt ∈ aw_tw ∧ Cond.selects (y_At_literalAt).cls y_At_literalAt y_At_literalAt ∈ aw_tw := ⟨n_im_At_literalAt, n_se_At_literalAt⟩
theorem mb_At_wrongInTag : aw_MB y_At_wrongInTag c_At_wrongInTag 7 (some .int) 1 := ⟨n_co_At_wrongInTag, n_ini_At, by decide +kernel⟩
theorem mb_At_smallOf : aw_MB y_At_smallOf c_At_smallOf 1 (some .int) 1 := ⟨n_co_At_smallOf, n_ini_At, by decide +kernel⟩
theorem mb_At_prefix : aw_MB y_At_prefix c_At_prefix 3 (some .int) 1 := ⟨n_co_At_prefix, n_ini_At, by decide +kernel⟩
theorem mi_At_prefix : Cond.instanceMethod y_At_prefix ∈ aw_tw ∧ Cond.selects (y_At_prefix).cls y_At_prefix y_At_prefix ∈ aw_tw := ⟨n_im_At_prefix, n_se_At_prefix⟩
theorem mb_At_nameOnTape : aw_MB y_At_nameOnTape c_At_nameOnTape 5 (some .int) 1 := ⟨n_co_At_nameOnTape, n_ini_At, by decide +kernel⟩
theorem mi_At_nameOnTape : Cond.instanceMethod y_At_nameOnTape ∈ aw_tw ∧ Cond.selects (y_At_nameOnTape).cls y_At_nameOnTape y_At_nameOnTape ∈ aw_tw := ⟨n_im_At_nameOnTape, n_se_At_nameOnTape⟩
theorem mb_At_isName : aw_MB y_At_isName c_At_isName 2 (some .boolean) 1 := ⟨n_co_At_isName, n_ini_At, by decide +kernel⟩
theorem mb_At_prefixAt : aw_MB y_At_prefixAt c_At_prefixAt 2 (some (.object "AddressTerms$Prefix")) 1 := ⟨n_co_At_prefixAt, n_ini_At, by decide +kernel⟩
theorem mi_At_prefixAt : Cond.instanceMethod y_At_prefixAt ∈ aw_tw ∧ Cond.selects (y_At_prefixAt).cls y_At_prefixAt y_At_prefixAt ∈ aw_tw := ⟨n_im_At_prefixAt, n_se_At_prefixAt⟩
theorem mb_Rw_copy : aw_MB y_Rw_copy c_Rw_copy 2 (some (.object "AddressTerms$Row")) 0 := ⟨n_co_Rw_copy, n_ini_Rw, by decide +kernel⟩
theorem mi_Rw_copy : Cond.instanceMethod y_Rw_copy ∈ aw_tw ∧ Cond.selects (y_Rw_copy).cls y_Rw_copy y_Rw_copy ∈ aw_tw := ⟨n_im_Rw_copy, n_se_Rw_copy⟩
theorem mb_Px_init : aw_MB y_Px_init c_Px_init 3 none 2 := ⟨n_co_Px_init, n_ini_Px, by decide +kernel⟩
theorem mb_At_part : aw_MB y_At_part c_At_part 4 (some .int) 2 := ⟨n_co_At_part, n_ini_At, by decide +kernel⟩
theorem mi_At_part : Cond.instanceMethod y_At_part ∈ aw_tw ∧ Cond.selects (y_At_part).cls y_At_part y_At_part ∈ aw_tw := ⟨n_im_At_part, n_se_At_part⟩
theorem mb_At_kind : aw_MB y_At_kind c_At_kind 3 (some .int) 1 := ⟨n_co_At_kind, n_ini_At, by decide +kernel⟩
theorem mi_At_kind : Cond.instanceMethod y_At_kind ∈ aw_tw ∧ Cond.selects (y_At_kind).cls y_At_kind y_At_kind ∈ aw_tw := ⟨n_im_At_kind, n_se_At_kind⟩
theorem mb_At_sort : aw_MB y_At_sort c_At_sort 3 (some .int) 1 := ⟨n_co_At_sort, n_ini_At, by decide +kernel⟩
theorem mi_At_sort : Cond.instanceMethod y_At_sort ∈ aw_tw ∧ Cond.selects (y_At_sort).cls y_At_sort y_At_sort ∈ aw_tw := ⟨n_im_At_sort, n_se_At_sort⟩
theorem mb_At_alike : aw_MB y_At_alike c_At_alike 5 (some .int) 2 := ⟨n_co_At_alike, n_ini_At, by decide +kernel⟩
theorem mi_At_alike : Cond.instanceMethod y_At_alike ∈ aw_tw ∧ Cond.selects (y_At_alike).cls y_At_alike y_At_alike ∈ aw_tw := ⟨n_im_At_alike, n_se_At_alike⟩
theorem mb_At_haveSameValue : aw_MB y_At_haveSameValue c_At_haveSameValue 2 (some .boolean) 2 := ⟨n_co_At_haveSameValue, n_ini_At, by decide +kernel⟩
theorem mb_At_isWhole : aw_MB y_At_isWhole c_At_isWhole 3 (some .boolean) 1 := ⟨n_co_At_isWhole, n_ini_At, by decide +kernel⟩
theorem mb_At_signLength : aw_MB y_At_signLength c_At_signLength 1 (some .int) 1 := ⟨n_co_At_signLength, n_ini_At, by decide +kernel⟩
theorem mb_At_wholeValue : aw_MB y_At_wholeValue c_At_wholeValue 4 (some .long) 1 := ⟨n_co_At_wholeValue, n_ini_At, by decide +kernel⟩
theorem mb_At_isTrue : aw_MB y_At_isTrue c_At_isTrue 1 (some .boolean) 1 := ⟨n_co_At_isTrue, n_ini_At, by decide +kernel⟩
theorem mb_At_isFalse : aw_MB y_At_isFalse c_At_isFalse 1 (some .boolean) 1 := ⟨n_co_At_isFalse, n_ini_At, by decide +kernel⟩
theorem mb_At_compare : aw_MB y_At_compare c_At_compare 5 (some .int) 2 := ⟨n_co_At_compare, n_ini_At, by decide +kernel⟩
theorem mi_At_compare : Cond.instanceMethod y_At_compare ∈ aw_tw ∧ Cond.selects (y_At_compare).cls y_At_compare y_At_compare ∈ aw_tw := ⟨n_im_At_compare, n_se_At_compare⟩
theorem mb_At_print : aw_MB y_At_print c_At_print 4 (some .int) 2 := ⟨n_co_At_print, n_ini_At, by decide +kernel⟩
theorem mi_At_print : Cond.instanceMethod y_At_print ∈ aw_tw ∧ Cond.selects (y_At_print).cls y_At_print y_At_print ∈ aw_tw := ⟨n_im_At_print, n_se_At_print⟩
theorem mb_Rw_addNumber : aw_MB y_Rw_addNumber c_Rw_addNumber 2 none 1 := ⟨n_co_Rw_addNumber, n_ini_Rw, by decide +kernel⟩
theorem mi_Rw_addNumber : Cond.instanceMethod y_Rw_addNumber ∈ aw_tw ∧ Cond.selects (y_Rw_addNumber).cls y_Rw_addNumber y_Rw_addNumber ∈ aw_tw := ⟨n_im_Rw_addNumber, n_se_Rw_addNumber⟩
theorem mb_At_printLiteral : aw_MB y_At_printLiteral c_At_printLiteral 3 none 1 := ⟨n_co_At_printLiteral, n_ini_At, by decide +kernel⟩
theorem mi_At_printLiteral : Cond.instanceMethod y_At_printLiteral ∈ aw_tw ∧ Cond.selects (y_At_printLiteral).cls y_At_printLiteral y_At_printLiteral ∈ aw_tw := ⟨n_im_At_printLiteral, n_se_At_printLiteral⟩
theorem mb_At_printTextByte : aw_MB y_At_printTextByte c_At_printTextByte 2 none 1 := ⟨n_co_At_printTextByte, n_ini_At, by decide +kernel⟩
theorem mi_At_printTextByte : Cond.instanceMethod y_At_printTextByte ∈ aw_tw ∧ Cond.selects (y_At_printTextByte).cls y_At_printTextByte y_At_printTextByte ∈ aw_tw := ⟨n_im_At_printTextByte, n_se_At_printTextByte⟩
theorem mb_At_printAddress : aw_MB y_At_printAddress c_At_printAddress 4 none 2 := ⟨n_co_At_printAddress, n_ini_At, by decide +kernel⟩
theorem mi_At_printAddress : Cond.instanceMethod y_At_printAddress ∈ aw_tw ∧ Cond.selects (y_At_printAddress).cls y_At_printAddress y_At_printAddress ∈ aw_tw := ⟨n_im_At_printAddress, n_se_At_printAddress⟩
theorem mb_At_bestPrefix : aw_MB y_At_bestPrefix c_At_bestPrefix 5 (some (.object "AddressTerms$Prefix")) 1 := ⟨n_co_At_bestPrefix, n_ini_At, by decide +kernel⟩
theorem mi_At_bestPrefix : Cond.instanceMethod y_At_bestPrefix ∈ aw_tw ∧ Cond.selects (y_At_bestPrefix).cls y_At_bestPrefix y_At_bestPrefix ∈ aw_tw := ⟨n_im_At_bestPrefix, n_se_At_bestPrefix⟩
theorem mb_Px_tells : aw_MB y_Px_tells c_Px_tells 4 (some .boolean) 1 := ⟨n_co_Px_tells, n_ini_Px, by decide +kernel⟩
theorem mi_Px_tells : Cond.instanceMethod y_Px_tells ∈ aw_tw ∧ Cond.selects (y_Px_tells).cls y_Px_tells y_Px_tells ∈ aw_tw := ⟨n_im_Px_tells, n_se_Px_tells⟩
theorem mb_Rw_beginsWith : aw_MB y_Rw_beginsWith c_Rw_beginsWith 3 (some .boolean) 1 := ⟨n_co_Rw_beginsWith, n_ini_Rw, by decide +kernel⟩
theorem mi_Rw_beginsWith : Cond.instanceMethod y_Rw_beginsWith ∈ aw_tw ∧ Cond.selects (y_Rw_beginsWith).cls y_Rw_beginsWith y_Rw_beginsWith ∈ aw_tw := ⟨n_im_Rw_beginsWith, n_se_Rw_beginsWith⟩
theorem mb_Px_isBetterThan : aw_MB y_Px_isBetterThan c_Px_isBetterThan 3 (some .boolean) 1 := ⟨n_co_Px_isBetterThan, n_ini_Px, by decide +kernel⟩
theorem mi_Px_isBetterThan : Cond.instanceMethod y_Px_isBetterThan ∈ aw_tw ∧ Cond.selects (y_Px_isBetterThan).cls y_Px_isBetterThan y_Px_isBetterThan ∈ aw_tw := ⟨n_im_Px_isBetterThan, n_se_Px_isBetterThan⟩
theorem mb_At_at : aw_MB y_At_at c_At_at 3 (some .int) 1 := ⟨n_co_At_at, n_ini_At, by decide +kernel⟩
theorem mi_At_at : Cond.instanceMethod y_At_at ∈ aw_tw ∧ Cond.selects (y_At_at).cls y_At_at y_At_at ∈ aw_tw := ⟨n_im_At_at, n_se_At_at⟩
theorem mb_At_count : aw_MB y_At_count c_At_count 2 (some .int) 1 := ⟨n_co_At_count, n_ini_At, by decide +kernel⟩
theorem mi_At_count : Cond.instanceMethod y_At_count ∈ aw_tw ∧ Cond.selects (y_At_count).cls y_At_count y_At_count ∈ aw_tw := ⟨n_im_At_count, n_se_At_count⟩
theorem mb_Md_init : aw_MB y_Md_init c_Md_init 1 none 0 := ⟨n_co_Md_init, n_ini_Md, by decide +kernel⟩
theorem mb_Md_type : aw_MB y_Md_type c_Md_type 6 (some .int) 2 := ⟨n_co_Md_type, n_ini_Md, by decide +kernel⟩
theorem mi_Md_type : Cond.instanceMethod y_Md_type ∈ aw_tw ∧ Cond.selects (y_Md_type).cls y_Md_type y_Md_type ∈ aw_tw := ⟨n_im_Md_type, n_se_Md_type⟩
theorem mb_Md_is : aw_MB y_Md_is c_Md_is 3 (some .boolean) 3 := ⟨n_co_Md_is, n_ini_Md, by decide +kernel⟩
theorem mb_Md_label : aw_MB y_Md_label c_Md_label 2 (some .int) 1 := ⟨n_co_Md_label, n_ini_Md, by decide +kernel⟩
theorem mi_Md_label : Cond.instanceMethod y_Md_label ∈ aw_tw ∧ Cond.selects (y_Md_label).cls y_Md_label y_Md_label ∈ aw_tw := ⟨n_im_Md_label, n_se_Md_label⟩
theorem mb_Md_note : aw_MB y_Md_note c_Md_note 5 (some .int) 2 := ⟨n_co_Md_note, n_ini_Md, by decide +kernel⟩
theorem mi_Md_note : Cond.instanceMethod y_Md_note ∈ aw_tw ∧ Cond.selects (y_Md_note).cls y_Md_note y_Md_note ∈ aw_tw := ⟨n_im_Md_note, n_se_Md_note⟩
theorem mb_Md_find : aw_MB y_Md_find c_Md_find 6 (some .int) 2 := ⟨n_co_Md_find, n_ini_Md, by decide +kernel⟩
theorem mi_Md_find : Cond.instanceMethod y_Md_find ∈ aw_tw ∧ Cond.selects (y_Md_find).cls y_Md_find y_Md_find ∈ aw_tw := ⟨n_im_Md_find, n_se_Md_find⟩
theorem mb_Md_resolve : aw_MB y_Md_resolve c_Md_resolve 4 (some .int) 0 := ⟨n_co_Md_resolve, n_ini_Md, by decide +kernel⟩
theorem mi_Md_resolve : Cond.instanceMethod y_Md_resolve ∈ aw_tw ∧ Cond.selects (y_Md_resolve).cls y_Md_resolve y_Md_resolve ∈ aw_tw := ⟨n_im_Md_resolve, n_se_Md_resolve⟩
theorem mb_Md_wrong : aw_MB y_Md_wrong c_Md_wrong 4 (some .int) 0 := ⟨n_co_Md_wrong, n_ini_Md, by decide +kernel⟩
theorem mi_Md_wrong : Cond.instanceMethod y_Md_wrong ∈ aw_tw ∧ Cond.selects (y_Md_wrong).cls y_Md_wrong y_Md_wrong ∈ aw_tw := ⟨n_im_Md_wrong, n_se_Md_wrong⟩
theorem mb_Md_hex : aw_MB y_Md_hex c_Md_hex 1 (some .int) 1 := ⟨n_co_Md_hex, n_ini_Md, by decide +kernel⟩
theorem mb_Md_isDigit : aw_MB y_Md_isDigit c_Md_isDigit 1 (some .boolean) 1 := ⟨n_co_Md_isDigit, n_ini_Md, by decide +kernel⟩
theorem mb_Md_resolveAgainst : aw_MB y_Md_resolveAgainst c_Md_resolveAgainst 5 none 0 := ⟨n_co_Md_resolveAgainst, n_ini_Md, by decide +kernel⟩
theorem mi_Md_resolveAgainst : Cond.instanceMethod y_Md_resolveAgainst ∈ aw_tw ∧ Cond.selects (y_Md_resolveAgainst).cls y_Md_resolveAgainst y_Md_resolveAgainst ∈ aw_tw := ⟨n_im_Md_resolveAgainst, n_se_Md_resolveAgainst⟩
theorem mb_Md_take : aw_MB y_Md_take c_Md_take 3 none 1 := ⟨n_co_Md_take, n_ini_Md, by decide +kernel⟩
theorem mi_Md_take : Cond.instanceMethod y_Md_take ∈ aw_tw ∧ Cond.selects (y_Md_take).cls y_Md_take y_Md_take ∈ aw_tw := ⟨n_im_Md_take, n_se_Md_take⟩
theorem mb_Md_split : aw_MB y_Md_split c_Md_split 3 none 0 := ⟨n_co_Md_split, n_ini_Md, by decide +kernel⟩
theorem mi_Md_split : Cond.instanceMethod y_Md_split ∈ aw_tw ∧ Cond.selects (y_Md_split).cls y_Md_split y_Md_split ∈ aw_tw := ⟨n_im_Md_split, n_se_Md_split⟩
theorem mb_Md_refAt : aw_MB y_Md_refAt c_Md_refAt 2 (some .int) 1 := ⟨n_co_Md_refAt, n_ini_Md, by decide +kernel⟩
theorem mi_Md_refAt : Cond.instanceMethod y_Md_refAt ∈ aw_tw ∧ Cond.selects (y_Md_refAt).cls y_Md_refAt y_Md_refAt ∈ aw_tw := ⟨n_im_Md_refAt, n_se_Md_refAt⟩
theorem mb_Md_isLetter : aw_MB y_Md_isLetter c_Md_isLetter 1 (some .boolean) 1 := ⟨n_co_Md_isLetter, n_ini_Md, by decide +kernel⟩
theorem mb_Md_isSmall : aw_MB y_Md_isSmall c_Md_isSmall 1 (some .boolean) 1 := ⟨n_co_Md_isSmall, n_ini_Md, by decide +kernel⟩
theorem mb_Md_stop : aw_MB y_Md_stop c_Md_stop 5 (some .int) 3 := ⟨n_co_Md_stop, n_ini_Md, by decide +kernel⟩
theorem mi_Md_stop : Cond.instanceMethod y_Md_stop ∈ aw_tw ∧ Cond.selects (y_Md_stop).cls y_Md_stop y_Md_stop ∈ aw_tw := ⟨n_im_Md_stop, n_se_Md_stop⟩
theorem mb_Md_addRef : aw_MB y_Md_addRef c_Md_addRef 4 none 2 := ⟨n_co_Md_addRef, n_ini_Md, by decide +kernel⟩
theorem mi_Md_addRef : Cond.instanceMethod y_Md_addRef ∈ aw_tw ∧ Cond.selects (y_Md_addRef).cls y_Md_addRef y_Md_addRef ∈ aw_tw := ⟨n_im_Md_addRef, n_se_Md_addRef⟩
theorem mb_Md_add : aw_MB y_Md_add c_Md_add 2 none 1 := ⟨n_co_Md_add, n_ini_Md, by decide +kernel⟩
theorem mi_Md_add : Cond.instanceMethod y_Md_add ∈ aw_tw ∧ Cond.selects (y_Md_add).cls y_Md_add y_Md_add ∈ aw_tw := ⟨n_im_Md_add, n_se_Md_add⟩
theorem mb_Md_addBase : aw_MB y_Md_addBase c_Md_addBase 4 none 2 := ⟨n_co_Md_addBase, n_ini_Md, by decide +kernel⟩
theorem mi_Md_addBase : Cond.instanceMethod y_Md_addBase ∈ aw_tw ∧ Cond.selects (y_Md_addBase).cls y_Md_addBase y_Md_addBase ∈ aw_tw := ⟨n_im_Md_addBase, n_se_Md_addBase⟩
theorem mb_Md_lead : aw_MB y_Md_lead c_Md_lead 3 none 2 := ⟨n_co_Md_lead, n_ini_Md, by decide +kernel⟩
theorem mi_Md_lead : Cond.instanceMethod y_Md_lead ∈ aw_tw ∧ Cond.selects (y_Md_lead).cls y_Md_lead y_Md_lead ∈ aw_tw := ⟨n_im_Md_lead, n_se_Md_lead⟩
theorem mb_Md_merge : aw_MB y_Md_merge c_Md_merge 3 none 0 := ⟨n_co_Md_merge, n_ini_Md, by decide +kernel⟩
theorem mi_Md_merge : Cond.instanceMethod y_Md_merge ∈ aw_tw ∧ Cond.selects (y_Md_merge).cls y_Md_merge y_Md_merge ∈ aw_tw := ⟨n_im_Md_merge, n_se_Md_merge⟩
theorem mb_Md_feed : aw_MB y_Md_feed c_Md_feed 4 none 2 := ⟨n_co_Md_feed, n_ini_Md, by decide +kernel⟩
theorem mi_Md_feed : Cond.instanceMethod y_Md_feed ∈ aw_tw ∧ Cond.selects (y_Md_feed).cls y_Md_feed y_Md_feed ∈ aw_tw := ⟨n_im_Md_feed, n_se_Md_feed⟩
theorem mb_Md_plain : aw_MB y_Md_plain c_Md_plain 3 none 0 := ⟨n_co_Md_plain, n_ini_Md, by decide +kernel⟩
theorem mi_Md_plain : Cond.instanceMethod y_Md_plain ∈ aw_tw ∧ Cond.selects (y_Md_plain).cls y_Md_plain y_Md_plain ∈ aw_tw := ⟨n_im_Md_plain, n_se_Md_plain⟩
theorem mb_Md_begins : aw_MB y_Md_begins c_Md_begins 5 (some .boolean) 4 := ⟨n_co_Md_begins, n_ini_Md, by decide +kernel⟩
theorem mi_Md_begins : Cond.instanceMethod y_Md_begins ∈ aw_tw ∧ Cond.selects (y_Md_begins).cls y_Md_begins y_Md_begins ∈ aw_tw := ⟨n_im_Md_begins, n_se_Md_begins⟩
theorem mb_Md_skip : aw_MB y_Md_skip c_Md_skip 3 none 1 := ⟨n_co_Md_skip, n_ini_Md, by decide +kernel⟩
theorem mi_Md_skip : Cond.instanceMethod y_Md_skip ∈ aw_tw ∧ Cond.selects (y_Md_skip).cls y_Md_skip y_Md_skip ∈ aw_tw := ⟨n_im_Md_skip, n_se_Md_skip⟩
theorem mb_Md_back : aw_MB y_Md_back c_Md_back 2 none 0 := ⟨n_co_Md_back, n_ini_Md, by decide +kernel⟩
theorem mi_Md_back : Cond.instanceMethod y_Md_back ∈ aw_tw ∧ Cond.selects (y_Md_back).cls y_Md_back y_Md_back ∈ aw_tw := ⟨n_im_Md_back, n_se_Md_back⟩
theorem mb_Md_base : aw_MB y_Md_base c_Md_base 2 (some .int) 1 := ⟨n_co_Md_base, n_ini_Md, by decide +kernel⟩
theorem mi_Md_base : Cond.instanceMethod y_Md_base ∈ aw_tw ∧ Cond.selects (y_Md_base).cls y_Md_base y_Md_base ∈ aw_tw := ⟨n_im_Md_base, n_se_Md_base⟩
theorem mb_Md_isAddress : aw_MB y_Md_isAddress c_Md_isAddress 2 (some .boolean) 1 := ⟨n_co_Md_isAddress, n_ini_Md, by decide +kernel⟩
theorem mi_Md_isAddress : Cond.instanceMethod y_Md_isAddress ∈ aw_tw ∧ Cond.selects (y_Md_isAddress).cls y_Md_isAddress y_Md_isAddress ∈ aw_tw := ⟨n_im_Md_isAddress, n_se_Md_isAddress⟩
theorem mb_Md_isTerm : aw_MB y_Md_isTerm c_Md_isTerm 2 (some .boolean) 1 := ⟨n_co_Md_isTerm, n_ini_Md, by decide +kernel⟩
theorem mi_Md_isTerm : Cond.instanceMethod y_Md_isTerm ∈ aw_tw ∧ Cond.selects (y_Md_isTerm).cls y_Md_isTerm y_Md_isTerm ∈ aw_tw := ⟨n_im_Md_isTerm, n_se_Md_isTerm⟩
theorem mb_Md_literal : aw_MB y_Md_literal c_Md_literal 6 (some .int) 1 := ⟨n_co_Md_literal, n_ini_Md, by decide +kernel⟩
theorem mi_Md_literal : Cond.instanceMethod y_Md_literal ∈ aw_tw ∧ Cond.selects (y_Md_literal).cls y_Md_literal y_Md_literal ∈ aw_tw := ⟨n_im_Md_literal, n_se_Md_literal⟩
theorem mb_Md_escaped : aw_MB y_Md_escaped c_Md_escaped 6 (some .int) 1 := ⟨n_co_Md_escaped, n_ini_Md, by decide +kernel⟩
theorem mi_Md_escaped : Cond.instanceMethod y_Md_escaped ∈ aw_tw ∧ Cond.selects (y_Md_escaped).cls y_Md_escaped y_Md_escaped ∈ aw_tw := ⟨n_im_Md_escaped, n_se_Md_escaped⟩
theorem mb_Md_isText : aw_MB y_Md_isText c_Md_isText 1 (some .boolean) 1 := ⟨n_co_Md_isText, n_ini_Md, by decide +kernel⟩
theorem mb_Md_tagged : aw_MB y_Md_tagged c_Md_tagged 9 (some .int) 1 := ⟨n_co_Md_tagged, n_ini_Md, by decide +kernel⟩
theorem mi_Md_tagged : Cond.instanceMethod y_Md_tagged ∈ aw_tw ∧ Cond.selects (y_Md_tagged).cls y_Md_tagged y_Md_tagged ∈ aw_tw := ⟨n_im_Md_tagged, n_se_Md_tagged⟩
theorem mb_Md_prefix : aw_MB y_Md_prefix c_Md_prefix 7 (some .int) 1 := ⟨n_co_Md_prefix, n_ini_Md, by decide +kernel⟩
theorem mi_Md_prefix : Cond.instanceMethod y_Md_prefix ∈ aw_tw ∧ Cond.selects (y_Md_prefix).cls y_Md_prefix y_Md_prefix ∈ aw_tw := ⟨n_im_Md_prefix, n_se_Md_prefix⟩
theorem mb_Md_part : aw_MB y_Md_part c_Md_part 3 (some .int) 2 := ⟨n_co_Md_part, n_ini_Md, by decide +kernel⟩
theorem mi_Md_part : Cond.instanceMethod y_Md_part ∈ aw_tw ∧ Cond.selects (y_Md_part).cls y_Md_part y_Md_part ∈ aw_tw := ⟨n_im_Md_part, n_se_Md_part⟩
theorem mb_Md_kind : aw_MB y_Md_kind c_Md_kind 2 (some .int) 1 := ⟨n_co_Md_kind, n_ini_Md, by decide +kernel⟩
theorem mi_Md_kind : Cond.instanceMethod y_Md_kind ∈ aw_tw ∧ Cond.selects (y_Md_kind).cls y_Md_kind y_Md_kind ∈ aw_tw := ⟨n_im_Md_kind, n_se_Md_kind⟩
theorem mb_Md_sort : aw_MB y_Md_sort c_Md_sort 2 (some .int) 1 := ⟨n_co_Md_sort, n_ini_Md, by decide +kernel⟩
theorem mi_Md_sort : Cond.instanceMethod y_Md_sort ∈ aw_tw ∧ Cond.selects (y_Md_sort).cls y_Md_sort y_Md_sort ∈ aw_tw := ⟨n_im_Md_sort, n_se_Md_sort⟩
theorem mb_Md_alike : aw_MB y_Md_alike c_Md_alike 3 (some .int) 2 := ⟨n_co_Md_alike, n_ini_Md, by decide +kernel⟩
theorem mi_Md_alike : Cond.instanceMethod y_Md_alike ∈ aw_tw ∧ Cond.selects (y_Md_alike).cls y_Md_alike y_Md_alike ∈ aw_tw := ⟨n_im_Md_alike, n_se_Md_alike⟩
theorem mb_Md_isWhole : aw_MB y_Md_isWhole c_Md_isWhole 5 (some .boolean) 1 := ⟨n_co_Md_isWhole, n_ini_Md, by decide +kernel⟩
theorem mi_Md_isWhole : Cond.instanceMethod y_Md_isWhole ∈ aw_tw ∧ Cond.selects (y_Md_isWhole).cls y_Md_isWhole y_Md_isWhole ∈ aw_tw := ⟨n_im_Md_isWhole, n_se_Md_isWhole⟩
theorem mb_Md_whole : aw_MB y_Md_whole c_Md_whole 5 (some .long) 1 := ⟨n_co_Md_whole, n_ini_Md, by decide +kernel⟩
theorem mi_Md_whole : Cond.instanceMethod y_Md_whole ∈ aw_tw ∧ Cond.selects (y_Md_whole).cls y_Md_whole y_Md_whole ∈ aw_tw := ⟨n_im_Md_whole, n_se_Md_whole⟩
theorem mb_Md_truth : aw_MB y_Md_truth c_Md_truth 2 (some .int) 1 := ⟨n_co_Md_truth, n_ini_Md, by decide +kernel⟩
theorem mi_Md_truth : Cond.instanceMethod y_Md_truth ∈ aw_tw ∧ Cond.selects (y_Md_truth).cls y_Md_truth y_Md_truth ∈ aw_tw := ⟨n_im_Md_truth, n_se_Md_truth⟩
theorem mb_Md_isBytes : aw_MB y_Md_isBytes c_Md_isBytes 7 (some .boolean) 3 := ⟨n_co_Md_isBytes, n_ini_Md, by decide +kernel⟩
theorem mi_Md_isBytes : Cond.instanceMethod y_Md_isBytes ∈ aw_tw ∧ Cond.selects (y_Md_isBytes).cls y_Md_isBytes y_Md_isBytes ∈ aw_tw := ⟨n_im_Md_isBytes, n_se_Md_isBytes⟩
theorem mb_Md_compare : aw_MB y_Md_compare c_Md_compare 4 (some .int) 2 := ⟨n_co_Md_compare, n_ini_Md, by decide +kernel⟩
theorem mi_Md_compare : Cond.instanceMethod y_Md_compare ∈ aw_tw ∧ Cond.selects (y_Md_compare).cls y_Md_compare y_Md_compare ∈ aw_tw := ⟨n_im_Md_compare, n_se_Md_compare⟩
theorem mb_Md_rank : aw_MB y_Md_rank c_Md_rank 1 (some .int) 1 := ⟨n_co_Md_rank, n_ini_Md, by decide +kernel⟩
theorem mb_Md_compareBytes : aw_MB y_Md_compareBytes c_Md_compareBytes 5 (some .int) 2 := ⟨n_co_Md_compareBytes, n_ini_Md, by decide +kernel⟩
theorem mi_Md_compareBytes : Cond.instanceMethod y_Md_compareBytes ∈ aw_tw ∧ Cond.selects (y_Md_compareBytes).cls y_Md_compareBytes y_Md_compareBytes ∈ aw_tw := ⟨n_im_Md_compareBytes, n_se_Md_compareBytes⟩
theorem mb_Md_compareTags : aw_MB y_Md_compareTags c_Md_compareTags 5 (some .int) 2 := ⟨n_co_Md_compareTags, n_ini_Md, by decide +kernel⟩
theorem mi_Md_compareTags : Cond.instanceMethod y_Md_compareTags ∈ aw_tw ∧ Cond.selects (y_Md_compareTags).cls y_Md_compareTags y_Md_compareTags ∈ aw_tw := ⟨n_im_Md_compareTags, n_se_Md_compareTags⟩
theorem mb_Md_sign : aw_MB y_Md_sign c_Md_sign 1 (some .int) 1 := ⟨n_co_Md_sign, n_ini_Md, by decide +kernel⟩
theorem mb_Md_print : aw_MB y_Md_print c_Md_print 3 (some .int) 2 := ⟨n_co_Md_print, n_ini_Md, by decide +kernel⟩
theorem mi_Md_print : Cond.instanceMethod y_Md_print ∈ aw_tw ∧ Cond.selects (y_Md_print).cls y_Md_print y_Md_print ∈ aw_tw := ⟨n_im_Md_print, n_se_Md_print⟩
theorem mb_Md_tellAddress : aw_MB y_Md_tellAddress c_Md_tellAddress 6 none 2 := ⟨n_co_Md_tellAddress, n_ini_Md, by decide +kernel⟩
theorem mi_Md_tellAddress : Cond.instanceMethod y_Md_tellAddress ∈ aw_tw ∧ Cond.selects (y_Md_tellAddress).cls y_Md_tellAddress y_Md_tellAddress ∈ aw_tw := ⟨n_im_Md_tellAddress, n_se_Md_tellAddress⟩
theorem mb_Md_isNameBefore : aw_MB y_Md_isNameBefore c_Md_isNameBefore 4 (some .boolean) 2 := ⟨n_co_Md_isNameBefore, n_ini_Md, by decide +kernel⟩
theorem mi_Md_isNameBefore : Cond.instanceMethod y_Md_isNameBefore ∈ aw_tw ∧ Cond.selects (y_Md_isNameBefore).cls y_Md_isNameBefore y_Md_isNameBefore ∈ aw_tw := ⟨n_im_Md_isNameBefore, n_se_Md_isNameBefore⟩
theorem mb_Md_shortens : aw_MB y_Md_shortens c_Md_shortens 7 (some .boolean) 2 := ⟨n_co_Md_shortens, n_ini_Md, by decide +kernel⟩
theorem mi_Md_shortens : Cond.instanceMethod y_Md_shortens ∈ aw_tw ∧ Cond.selects (y_Md_shortens).cls y_Md_shortens y_Md_shortens ∈ aw_tw := ⟨n_im_Md_shortens, n_se_Md_shortens⟩
theorem mb_Md_tell : aw_MB y_Md_tell c_Md_tell 2 none 1 := ⟨n_co_Md_tell, n_ini_Md, by decide +kernel⟩
theorem mi_Md_tell : Cond.instanceMethod y_Md_tell ∈ aw_tw ∧ Cond.selects (y_Md_tell).cls y_Md_tell y_Md_tell ∈ aw_tw := ⟨n_im_Md_tell, n_se_Md_tell⟩
theorem mb_Md_tellAll : aw_MB y_Md_tellAll c_Md_tellAll 5 none 2 := ⟨n_co_Md_tellAll, n_ini_Md, by decide +kernel⟩
theorem mi_Md_tellAll : Cond.instanceMethod y_Md_tellAll ∈ aw_tw ∧ Cond.selects (y_Md_tellAll).cls y_Md_tellAll y_Md_tellAll ∈ aw_tw := ⟨n_im_Md_tellAll, n_se_Md_tellAll⟩
theorem mb_Md_tellNumber : aw_MB y_Md_tellNumber c_Md_tellNumber 2 none 1 := ⟨n_co_Md_tellNumber, n_ini_Md, by decide +kernel⟩
theorem mi_Md_tellNumber : Cond.instanceMethod y_Md_tellNumber ∈ aw_tw ∧ Cond.selects (y_Md_tellNumber).cls y_Md_tellNumber y_Md_tellNumber ∈ aw_tw := ⟨n_im_Md_tellNumber, n_se_Md_tellNumber⟩
theorem mb_Md_tellLiteral : aw_MB y_Md_tellLiteral c_Md_tellLiteral 4 none 1 := ⟨n_co_Md_tellLiteral, n_ini_Md, by decide +kernel⟩
theorem mi_Md_tellLiteral : Cond.instanceMethod y_Md_tellLiteral ∈ aw_tw ∧ Cond.selects (y_Md_tellLiteral).cls y_Md_tellLiteral y_Md_tellLiteral ∈ aw_tw := ⟨n_im_Md_tellLiteral, n_se_Md_tellLiteral⟩
theorem mb_Md_at : aw_MB y_Md_at c_Md_at 2 (some .int) 1 := ⟨n_co_Md_at, n_ini_Md, by decide +kernel⟩
theorem mi_Md_at : Cond.instanceMethod y_Md_at ∈ aw_tw ∧ Cond.selects (y_Md_at).cls y_Md_at y_Md_at ∈ aw_tw := ⟨n_im_Md_at, n_se_Md_at⟩
theorem mb_Md_count : aw_MB y_Md_count c_Md_count 2 (some .int) 1 := ⟨n_co_Md_count, n_ini_Md, by decide +kernel⟩
theorem mi_Md_count : Cond.instanceMethod y_Md_count ∈ aw_tw ∧ Cond.selects (y_Md_count).cls y_Md_count y_Md_count ∈ aw_tw := ⟨n_im_Md_count, n_se_Md_count⟩
theorem I_Px : aw_CI 0 "AddressTerms$Prefix" T_Px 2 t_Px := by
  refine ⟨rfl, ?_, by decide +kernel, by decide +kernel⟩
  intro w hw
  obtain ⟨k, hk, rfl⟩ := List.mem_map.mp hw
  have hk := List.mem_range.mp hk
  rcases (show k = 0 ∨ k = 1 by omega) with rfl | rfl
  · exact n_la_Px_name
  · exact n_la_Px_address
theorem I_Rf : aw_CI 1 "AddressTerms$Reference" T_Rf 3 t_Rf := by
  refine ⟨rfl, ?_, by decide +kernel, by decide +kernel⟩
  intro w hw
  obtain ⟨k, hk, rfl⟩ := List.mem_map.mp hw
  have hk := List.mem_range.mp hk
  rcases (show k = 0 ∨ k = 1 ∨ k = 2 by omega) with rfl | rfl | rfl
  · exact n_la_Rf_begins
  · exact n_la_Rf_ends
  · exact n_la_Rf_row
theorem I_Rs : aw_CI 2 "AddressTerms$Resolver" T_Rs 1 t_Rs := by
  refine ⟨rfl, ?_, by decide +kernel, by decide +kernel⟩
  intro w hw
  obtain ⟨k, hk, rfl⟩ := List.mem_map.mp hw
  have hk := List.mem_range.mp hk
  rcases (show k = 0 by omega) with rfl
  · exact n_la_Rs_path
theorem I_Rw : aw_CI 3 "AddressTerms$Row" T_Rw 2 t_Rw := by
  refine ⟨rfl, ?_, by decide +kernel, by decide +kernel⟩
  intro w hw
  obtain ⟨k, hk, rfl⟩ := List.mem_map.mp hw
  have hk := List.mem_range.mp hk
  rcases (show k = 0 ∨ k = 1 by omega) with rfl | rfl
  · exact n_la_Rw_bytes
  · exact n_la_Rw_length
theorem I_Tm : aw_CI 4 "AddressTerms$Term" T_Tm 5 t_Tm := by
  refine ⟨rfl, ?_, by decide +kernel, by decide +kernel⟩
  intro w hw
  obtain ⟨k, hk, rfl⟩ := List.mem_map.mp hw
  have hk := List.mem_range.mp hk
  rcases (show k = 0 ∨ k = 1 ∨ k = 2 ∨ k = 3 ∨ k = 4 by omega) with rfl | rfl | rfl | rfl | rfl
  · exact n_la_Tm_text
  · exact n_la_Tm_tag
  · exact n_la_Tm_kind
  · exact n_la_Tm_sort
  · exact n_la_Tm_number
theorem I_At : aw_CI 5 "AddressTerms" T_At 11 t_At := by
  refine ⟨rfl, ?_, by decide +kernel, by decide +kernel⟩
  intro w hw
  obtain ⟨k, hk, rfl⟩ := List.mem_map.mp hw
  have hk := List.mem_range.mp hk
  rcases (show k = 0 ∨ k = 1 ∨ k = 2 ∨ k = 3 ∨ k = 4 ∨ k = 5 ∨ k = 6 ∨ k = 7 ∨ k = 8 ∨ k = 9 ∨ k = 10 by omega) with rfl | rfl | rfl | rfl | rfl | rfl | rfl | rfl | rfl | rfl | rfl
  · exact n_la_At_tape
  · exact n_la_At_printed
  · exact n_la_At_terms
  · exact n_la_At_prefixes
  · exact n_la_At_wanted
  · exact n_la_At_given
  · exact n_la_At_known
  · exact n_la_At_resolver
  · exact n_la_At_termCount
  · exact n_la_At_prefixCount
  · exact n_la_At_baseTerm
theorem I_Md : aw_CI 6 "AddressTermsModel" T_Md 30 t_Md := by
  refine ⟨rfl, ?_, by decide +kernel, by decide +kernel⟩
  intro w hw
  obtain ⟨k, hk, rfl⟩ := List.mem_map.mp hw
  have hk := List.mem_range.mp hk
  rcases (show k = 0 ∨ k = 1 ∨ k = 2 ∨ k = 3 ∨ k = 4 ∨ k = 5 ∨ k = 6 ∨ k = 7 ∨ k = 8 ∨ k = 9 ∨ k = 10 ∨ k = 11 ∨ k = 12 ∨ k = 13 ∨ k = 14 ∨ k = 15 ∨ k = 16 ∨ k = 17 ∨ k = 18 ∨ k = 19 ∨ k = 20 ∨ k = 21 ∨ k = 22 ∨ k = 23 ∨ k = 24 ∨ k = 25 ∨ k = 26 ∨ k = 27 ∨ k = 28 ∨ k = 29 by omega) with rfl | rfl | rfl | rfl | rfl | rfl | rfl | rfl | rfl | rfl | rfl | rfl | rfl | rfl | rfl | rfl | rfl | rfl | rfl | rfl | rfl | rfl | rfl | rfl | rfl | rfl | rfl | rfl | rfl | rfl
  · exact n_la_Md_tapeMany
  · exact n_la_Md_tape
  · exact n_la_Md_terms
  · exact n_la_Md_kinds
  · exact n_la_Md_numbers
  · exact n_la_Md_sizes
  · exact n_la_Md_bytes
  · exact n_la_Md_tagSizes
  · exact n_la_Md_tags
  · exact n_la_Md_base
  · exact n_la_Md_prefixes
  · exact n_la_Md_nameSizes
  · exact n_la_Md_names
  · exact n_la_Md_addresses
  · exact n_la_Md_made
  · exact n_la_Md_row
  · exact n_la_Md_madeTag
  · exact n_la_Md_tag
  · exact n_la_Md_printedMany
  · exact n_la_Md_printed
  · exact n_la_Md_refMany
  · exact n_la_Md_ref
  · exact n_la_Md_froms
  · exact n_la_Md_tos
  · exact n_la_Md_baseFroms
  · exact n_la_Md_baseTos
  · exact n_la_Md_inMany
  · exact n_la_Md_in
  · exact n_la_Md_outMany
  · exact n_la_Md_out
