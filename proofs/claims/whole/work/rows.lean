section
-- ===== PART A: goes FIRST, ahead of the names: the tables' words, and 'selects' of the private methods out of them =====
/-- a private method of a class that the tables say can be made, by its rows of tables_1 -/
def lw_okq (q : MethodName × Nat) : Prop := (q.1.cls ≠ "java/lang/invoke/MethodHandle" ∧ q.1.cls ≠ "java/lang/invoke/VarHandle") ∧ Cond.instantiable q.1.cls q.2 ∈ tables_1 ∧ Cond.privateMethod q.1 ∈ tables_1 ∧ Cond.instanceMethod q.1 ∈ tables_1
theorem lw_p0 : lw_okq (⟨"AddressTerms", "addressOnTape", "()I"⟩, 11) := ⟨⟨by decide +kernel, by decide +kernel⟩, List.mem_of_getElem? (i := 15) (by decide +kernel), List.mem_of_getElem? (i := 160) (by decide +kernel), List.mem_of_getElem? (i := 161) (by decide +kernel)⟩
theorem lw_p1 : lw_okq (⟨"AddressTerms$Reference", "note", "(III)V"⟩, 3) := ⟨⟨by decide +kernel, by decide +kernel⟩, List.mem_of_getElem? (i := 72) (by decide +kernel), List.mem_of_getElem? (i := 269) (by decide +kernel), List.mem_of_getElem? (i := 270) (by decide +kernel)⟩
theorem lw_p2 : lw_okq (⟨"AddressTerms$Reference", "colonOfScheme", "()I"⟩, 3) := ⟨⟨by decide +kernel, by decide +kernel⟩, List.mem_of_getElem? (i := 72) (by decide +kernel), List.mem_of_getElem? (i := 273) (by decide +kernel), List.mem_of_getElem? (i := 274) (by decide +kernel)⟩
theorem lw_p3 : lw_okq (⟨"AddressTerms", "addressAt", "(I)LAddressTerms$Term;"⟩, 11) := ⟨⟨by decide +kernel, by decide +kernel⟩, List.mem_of_getElem? (i := 15) (by decide +kernel), List.mem_of_getElem? (i := 327) (by decide +kernel), List.mem_of_getElem? (i := 328) (by decide +kernel)⟩
theorem lw_p4 : lw_okq (⟨"AddressTerms", "termAt", "(I)LAddressTerms$Term;"⟩, 11) := ⟨⟨by decide +kernel, by decide +kernel⟩, List.mem_of_getElem? (i := 15) (by decide +kernel), List.mem_of_getElem? (i := 331) (by decide +kernel), List.mem_of_getElem? (i := 332) (by decide +kernel)⟩
theorem lw_p5 : lw_okq (⟨"AddressTerms$Reference", "endOf", "(I)I"⟩, 3) := ⟨⟨by decide +kernel, by decide +kernel⟩, List.mem_of_getElem? (i := 72) (by decide +kernel), List.mem_of_getElem? (i := 339) (by decide +kernel), List.mem_of_getElem? (i := 340) (by decide +kernel)⟩
theorem lw_p6 : lw_okq (⟨"AddressTerms$Reference", "beginOf", "(I)I"⟩, 3) := ⟨⟨by decide +kernel, by decide +kernel⟩, List.mem_of_getElem? (i := 72) (by decide +kernel), List.mem_of_getElem? (i := 367) (by decide +kernel), List.mem_of_getElem? (i := 368) (by decide +kernel)⟩
theorem lw_p7 : lw_okq (⟨"AddressTerms$Resolver", "gatherPath", "(LAddressTerms$Reference;LAddressTerms$Reference;Z)V"⟩, 1) := ⟨⟨by decide +kernel, by decide +kernel⟩, List.mem_of_getElem? (i := 91) (by decide +kernel), List.mem_of_getElem? (i := 385) (by decide +kernel), List.mem_of_getElem? (i := 386) (by decide +kernel)⟩
theorem lw_p8 : lw_okq (⟨"AddressTerms$Resolver", "addPlainPath", "(LAddressTerms$Row;)V"⟩, 1) := ⟨⟨by decide +kernel, by decide +kernel⟩, List.mem_of_getElem? (i := 91) (by decide +kernel), List.mem_of_getElem? (i := 403) (by decide +kernel), List.mem_of_getElem? (i := 404) (by decide +kernel)⟩
theorem lw_p9 : lw_okq (⟨"AddressTerms", "placeOfWanted", "()I"⟩, 11) := ⟨⟨by decide +kernel, by decide +kernel⟩, List.mem_of_getElem? (i := 15) (by decide +kernel), List.mem_of_getElem? (i := 435) (by decide +kernel), List.mem_of_getElem? (i := 436) (by decide +kernel)⟩
theorem lw_p10 : lw_okq (⟨"AddressTerms$Term", "rank", "()I"⟩, 5) := ⟨⟨by decide +kernel, by decide +kernel⟩, List.mem_of_getElem? (i := 43) (by decide +kernel), List.mem_of_getElem? (i := 443) (by decide +kernel), List.mem_of_getElem? (i := 444) (by decide +kernel)⟩
theorem lw_p11 : lw_okq (⟨"AddressTerms", "literalOnTape", "(I)I"⟩, 11) := ⟨⟨by decide +kernel, by decide +kernel⟩, List.mem_of_getElem? (i := 15) (by decide +kernel), List.mem_of_getElem? (i := 477) (by decide +kernel), List.mem_of_getElem? (i := 478) (by decide +kernel)⟩
theorem lw_p12 : lw_okq (⟨"AddressTerms", "tagOnTape", "(I)I"⟩, 11) := ⟨⟨by decide +kernel, by decide +kernel⟩, List.mem_of_getElem? (i := 15) (by decide +kernel), List.mem_of_getElem? (i := 497) (by decide +kernel), List.mem_of_getElem? (i := 498) (by decide +kernel)⟩
theorem lw_p13 : lw_okq (⟨"AddressTerms", "literalAt", "(I)LAddressTerms$Term;"⟩, 11) := ⟨⟨by decide +kernel, by decide +kernel⟩, List.mem_of_getElem? (i := 15) (by decide +kernel), List.mem_of_getElem? (i := 501) (by decide +kernel), List.mem_of_getElem? (i := 502) (by decide +kernel)⟩
theorem lw_p14 : lw_okq (⟨"AddressTerms", "nameOnTape", "(I)I"⟩, 11) := ⟨⟨by decide +kernel, by decide +kernel⟩, List.mem_of_getElem? (i := 15) (by decide +kernel), List.mem_of_getElem? (i := 516) (by decide +kernel), List.mem_of_getElem? (i := 517) (by decide +kernel)⟩
theorem lw_p15 : lw_okq (⟨"AddressTerms", "prefixAt", "(I)LAddressTerms$Prefix;"⟩, 11) := ⟨⟨by decide +kernel, by decide +kernel⟩, List.mem_of_getElem? (i := 15) (by decide +kernel), List.mem_of_getElem? (i := 523) (by decide +kernel), List.mem_of_getElem? (i := 524) (by decide +kernel)⟩
def lw_privs_1 : List (MethodName × Nat) := [(⟨"AddressTerms", "addressOnTape", "()I"⟩, 11), (⟨"AddressTerms$Reference", "note", "(III)V"⟩, 3), (⟨"AddressTerms$Reference", "colonOfScheme", "()I"⟩, 3), (⟨"AddressTerms", "addressAt", "(I)LAddressTerms$Term;"⟩, 11), (⟨"AddressTerms", "termAt", "(I)LAddressTerms$Term;"⟩, 11), (⟨"AddressTerms$Reference", "endOf", "(I)I"⟩, 3), (⟨"AddressTerms$Reference", "beginOf", "(I)I"⟩, 3), (⟨"AddressTerms$Resolver", "gatherPath", "(LAddressTerms$Reference;LAddressTerms$Reference;Z)V"⟩, 1), (⟨"AddressTerms$Resolver", "addPlainPath", "(LAddressTerms$Row;)V"⟩, 1), (⟨"AddressTerms", "placeOfWanted", "()I"⟩, 11), (⟨"AddressTerms$Term", "rank", "()I"⟩, 5), (⟨"AddressTerms", "literalOnTape", "(I)I"⟩, 11), (⟨"AddressTerms", "tagOnTape", "(I)I"⟩, 11), (⟨"AddressTerms", "literalAt", "(I)LAddressTerms$Term;"⟩, 11), (⟨"AddressTerms", "nameOnTape", "(I)I"⟩, 11), (⟨"AddressTerms", "prefixAt", "(I)LAddressTerms$Prefix;"⟩, 11)]
theorem lw_r1 : ∀ q ∈ lw_privs_1, lw_okq q := List.forall_mem_cons.mpr ⟨lw_p0, List.forall_mem_cons.mpr ⟨lw_p1, List.forall_mem_cons.mpr ⟨lw_p2, List.forall_mem_cons.mpr ⟨lw_p3, List.forall_mem_cons.mpr ⟨lw_p4, List.forall_mem_cons.mpr ⟨lw_p5, List.forall_mem_cons.mpr ⟨lw_p6, List.forall_mem_cons.mpr ⟨lw_p7, List.forall_mem_cons.mpr ⟨lw_p8, List.forall_mem_cons.mpr ⟨lw_p9, List.forall_mem_cons.mpr ⟨lw_p10, List.forall_mem_cons.mpr ⟨lw_p11, List.forall_mem_cons.mpr ⟨lw_p12, List.forall_mem_cons.mpr ⟨lw_p13, List.forall_mem_cons.mpr ⟨lw_p14, List.forall_mem_cons.mpr ⟨lw_p15, fun _ h => absurd h List.not_mem_nil⟩⟩⟩⟩⟩⟩⟩⟩⟩⟩⟩⟩⟩⟩⟩⟩
theorem lw_p16 : lw_okq (⟨"AddressTerms", "printLiteral", "(LAddressTerms$Term;)V"⟩, 11) := ⟨⟨by decide +kernel, by decide +kernel⟩, List.mem_of_getElem? (i := 15) (by decide +kernel), List.mem_of_getElem? (i := 604) (by decide +kernel), List.mem_of_getElem? (i := 605) (by decide +kernel)⟩
theorem lw_p17 : lw_okq (⟨"AddressTerms", "printTextByte", "(I)V"⟩, 11) := ⟨⟨by decide +kernel, by decide +kernel⟩, List.mem_of_getElem? (i := 15) (by decide +kernel), List.mem_of_getElem? (i := 608) (by decide +kernel), List.mem_of_getElem? (i := 609) (by decide +kernel)⟩
theorem lw_p18 : lw_okq (⟨"AddressTerms", "printAddress", "(LAddressTerms$Row;I)V"⟩, 11) := ⟨⟨by decide +kernel, by decide +kernel⟩, List.mem_of_getElem? (i := 15) (by decide +kernel), List.mem_of_getElem? (i := 620) (by decide +kernel), List.mem_of_getElem? (i := 621) (by decide +kernel)⟩
theorem lw_p19 : lw_okq (⟨"AddressTerms", "bestPrefix", "(LAddressTerms$Row;)LAddressTerms$Prefix;"⟩, 11) := ⟨⟨by decide +kernel, by decide +kernel⟩, List.mem_of_getElem? (i := 15) (by decide +kernel), List.mem_of_getElem? (i := 624) (by decide +kernel), List.mem_of_getElem? (i := 625) (by decide +kernel)⟩
theorem lw_p20 : lw_okq (⟨"AddressTermsModel", "note", "(II)I"⟩, 30) := ⟨⟨by decide +kernel, by decide +kernel⟩, List.mem_of_getElem? (i := 653) (by decide +kernel), List.mem_of_getElem? (i := 762) (by decide +kernel), List.mem_of_getElem? (i := 763) (by decide +kernel)⟩
theorem lw_p21 : lw_okq (⟨"AddressTermsModel", "find", "(II)I"⟩, 30) := ⟨⟨by decide +kernel, by decide +kernel⟩, List.mem_of_getElem? (i := 653) (by decide +kernel), List.mem_of_getElem? (i := 766) (by decide +kernel), List.mem_of_getElem? (i := 767) (by decide +kernel)⟩
theorem lw_p22 : lw_okq (⟨"AddressTermsModel", "wrong", "()I"⟩, 30) := ⟨⟨by decide +kernel, by decide +kernel⟩, List.mem_of_getElem? (i := 653) (by decide +kernel), List.mem_of_getElem? (i := 774) (by decide +kernel), List.mem_of_getElem? (i := 775) (by decide +kernel)⟩
theorem lw_p23 : lw_okq (⟨"AddressTermsModel", "resolveAgainst", "()V"⟩, 30) := ⟨⟨by decide +kernel, by decide +kernel⟩, List.mem_of_getElem? (i := 653) (by decide +kernel), List.mem_of_getElem? (i := 784) (by decide +kernel), List.mem_of_getElem? (i := 785) (by decide +kernel)⟩
theorem lw_p24 : lw_okq (⟨"AddressTermsModel", "take", "(I)V"⟩, 30) := ⟨⟨by decide +kernel, by decide +kernel⟩, List.mem_of_getElem? (i := 653) (by decide +kernel), List.mem_of_getElem? (i := 788) (by decide +kernel), List.mem_of_getElem? (i := 789) (by decide +kernel)⟩
theorem lw_p25 : lw_okq (⟨"AddressTermsModel", "split", "()V"⟩, 30) := ⟨⟨by decide +kernel, by decide +kernel⟩, List.mem_of_getElem? (i := 653) (by decide +kernel), List.mem_of_getElem? (i := 792) (by decide +kernel), List.mem_of_getElem? (i := 793) (by decide +kernel)⟩
theorem lw_p26 : lw_okq (⟨"AddressTermsModel", "refAt", "(I)I"⟩, 30) := ⟨⟨by decide +kernel, by decide +kernel⟩, List.mem_of_getElem? (i := 653) (by decide +kernel), List.mem_of_getElem? (i := 796) (by decide +kernel), List.mem_of_getElem? (i := 797) (by decide +kernel)⟩
theorem lw_p27 : lw_okq (⟨"AddressTermsModel", "stop", "(IZZ)I"⟩, 30) := ⟨⟨by decide +kernel, by decide +kernel⟩, List.mem_of_getElem? (i := 653) (by decide +kernel), List.mem_of_getElem? (i := 806) (by decide +kernel), List.mem_of_getElem? (i := 807) (by decide +kernel)⟩
theorem lw_p28 : lw_okq (⟨"AddressTermsModel", "addRef", "(II)V"⟩, 30) := ⟨⟨by decide +kernel, by decide +kernel⟩, List.mem_of_getElem? (i := 653) (by decide +kernel), List.mem_of_getElem? (i := 810) (by decide +kernel), List.mem_of_getElem? (i := 811) (by decide +kernel)⟩
theorem lw_p29 : lw_okq (⟨"AddressTermsModel", "add", "(I)V"⟩, 30) := ⟨⟨by decide +kernel, by decide +kernel⟩, List.mem_of_getElem? (i := 653) (by decide +kernel), List.mem_of_getElem? (i := 814) (by decide +kernel), List.mem_of_getElem? (i := 815) (by decide +kernel)⟩
theorem lw_p30 : lw_okq (⟨"AddressTermsModel", "addBase", "(II)V"⟩, 30) := ⟨⟨by decide +kernel, by decide +kernel⟩, List.mem_of_getElem? (i := 653) (by decide +kernel), List.mem_of_getElem? (i := 818) (by decide +kernel), List.mem_of_getElem? (i := 819) (by decide +kernel)⟩
theorem lw_p31 : lw_okq (⟨"AddressTermsModel", "lead", "(II)V"⟩, 30) := ⟨⟨by decide +kernel, by decide +kernel⟩, List.mem_of_getElem? (i := 653) (by decide +kernel), List.mem_of_getElem? (i := 822) (by decide +kernel), List.mem_of_getElem? (i := 823) (by decide +kernel)⟩
def lw_privs_2 : List (MethodName × Nat) := [(⟨"AddressTerms", "printLiteral", "(LAddressTerms$Term;)V"⟩, 11), (⟨"AddressTerms", "printTextByte", "(I)V"⟩, 11), (⟨"AddressTerms", "printAddress", "(LAddressTerms$Row;I)V"⟩, 11), (⟨"AddressTerms", "bestPrefix", "(LAddressTerms$Row;)LAddressTerms$Prefix;"⟩, 11), (⟨"AddressTermsModel", "note", "(II)I"⟩, 30), (⟨"AddressTermsModel", "find", "(II)I"⟩, 30), (⟨"AddressTermsModel", "wrong", "()I"⟩, 30), (⟨"AddressTermsModel", "resolveAgainst", "()V"⟩, 30), (⟨"AddressTermsModel", "take", "(I)V"⟩, 30), (⟨"AddressTermsModel", "split", "()V"⟩, 30), (⟨"AddressTermsModel", "refAt", "(I)I"⟩, 30), (⟨"AddressTermsModel", "stop", "(IZZ)I"⟩, 30), (⟨"AddressTermsModel", "addRef", "(II)V"⟩, 30), (⟨"AddressTermsModel", "add", "(I)V"⟩, 30), (⟨"AddressTermsModel", "addBase", "(II)V"⟩, 30), (⟨"AddressTermsModel", "lead", "(II)V"⟩, 30)]
theorem lw_r2 : ∀ q ∈ lw_privs_2, lw_okq q := List.forall_mem_cons.mpr ⟨lw_p16, List.forall_mem_cons.mpr ⟨lw_p17, List.forall_mem_cons.mpr ⟨lw_p18, List.forall_mem_cons.mpr ⟨lw_p19, List.forall_mem_cons.mpr ⟨lw_p20, List.forall_mem_cons.mpr ⟨lw_p21, List.forall_mem_cons.mpr ⟨lw_p22, List.forall_mem_cons.mpr ⟨lw_p23, List.forall_mem_cons.mpr ⟨lw_p24, List.forall_mem_cons.mpr ⟨lw_p25, List.forall_mem_cons.mpr ⟨lw_p26, List.forall_mem_cons.mpr ⟨lw_p27, List.forall_mem_cons.mpr ⟨lw_p28, List.forall_mem_cons.mpr ⟨lw_p29, List.forall_mem_cons.mpr ⟨lw_p30, List.forall_mem_cons.mpr ⟨lw_p31, fun _ h => absurd h List.not_mem_nil⟩⟩⟩⟩⟩⟩⟩⟩⟩⟩⟩⟩⟩⟩⟩⟩
theorem lw_p32 : lw_okq (⟨"AddressTermsModel", "merge", "()V"⟩, 30) := ⟨⟨by decide +kernel, by decide +kernel⟩, List.mem_of_getElem? (i := 653) (by decide +kernel), List.mem_of_getElem? (i := 826) (by decide +kernel), List.mem_of_getElem? (i := 827) (by decide +kernel)⟩
theorem lw_p33 : lw_okq (⟨"AddressTermsModel", "feed", "(II)V"⟩, 30) := ⟨⟨by decide +kernel, by decide +kernel⟩, List.mem_of_getElem? (i := 653) (by decide +kernel), List.mem_of_getElem? (i := 830) (by decide +kernel), List.mem_of_getElem? (i := 831) (by decide +kernel)⟩
theorem lw_p34 : lw_okq (⟨"AddressTermsModel", "plain", "()V"⟩, 30) := ⟨⟨by decide +kernel, by decide +kernel⟩, List.mem_of_getElem? (i := 653) (by decide +kernel), List.mem_of_getElem? (i := 834) (by decide +kernel), List.mem_of_getElem? (i := 835) (by decide +kernel)⟩
theorem lw_p35 : lw_okq (⟨"AddressTermsModel", "begins", "(IIII)Z"⟩, 30) := ⟨⟨by decide +kernel, by decide +kernel⟩, List.mem_of_getElem? (i := 653) (by decide +kernel), List.mem_of_getElem? (i := 838) (by decide +kernel), List.mem_of_getElem? (i := 839) (by decide +kernel)⟩
theorem lw_p36 : lw_okq (⟨"AddressTermsModel", "skip", "(I)V"⟩, 30) := ⟨⟨by decide +kernel, by decide +kernel⟩, List.mem_of_getElem? (i := 653) (by decide +kernel), List.mem_of_getElem? (i := 842) (by decide +kernel), List.mem_of_getElem? (i := 843) (by decide +kernel)⟩
theorem lw_p37 : lw_okq (⟨"AddressTermsModel", "back", "()V"⟩, 30) := ⟨⟨by decide +kernel, by decide +kernel⟩, List.mem_of_getElem? (i := 653) (by decide +kernel), List.mem_of_getElem? (i := 846) (by decide +kernel), List.mem_of_getElem? (i := 847) (by decide +kernel)⟩
theorem lw_p38 : lw_okq (⟨"AddressTermsModel", "isAddress", "(I)Z"⟩, 30) := ⟨⟨by decide +kernel, by decide +kernel⟩, List.mem_of_getElem? (i := 653) (by decide +kernel), List.mem_of_getElem? (i := 854) (by decide +kernel), List.mem_of_getElem? (i := 855) (by decide +kernel)⟩
theorem lw_p39 : lw_okq (⟨"AddressTermsModel", "isTerm", "(I)Z"⟩, 30) := ⟨⟨by decide +kernel, by decide +kernel⟩, List.mem_of_getElem? (i := 653) (by decide +kernel), List.mem_of_getElem? (i := 858) (by decide +kernel), List.mem_of_getElem? (i := 859) (by decide +kernel)⟩
theorem lw_p40 : lw_okq (⟨"AddressTermsModel", "escaped", "(I)I"⟩, 30) := ⟨⟨by decide +kernel, by decide +kernel⟩, List.mem_of_getElem? (i := 653) (by decide +kernel), List.mem_of_getElem? (i := 866) (by decide +kernel), List.mem_of_getElem? (i := 867) (by decide +kernel)⟩
theorem lw_p41 : lw_okq (⟨"AddressTermsModel", "isWhole", "(I)Z"⟩, 30) := ⟨⟨by decide +kernel, by decide +kernel⟩, List.mem_of_getElem? (i := 653) (by decide +kernel), List.mem_of_getElem? (i := 897) (by decide +kernel), List.mem_of_getElem? (i := 898) (by decide +kernel)⟩
theorem lw_p42 : lw_okq (⟨"AddressTermsModel", "whole", "(I)J"⟩, 30) := ⟨⟨by decide +kernel, by decide +kernel⟩, List.mem_of_getElem? (i := 653) (by decide +kernel), List.mem_of_getElem? (i := 901) (by decide +kernel), List.mem_of_getElem? (i := 902) (by decide +kernel)⟩
theorem lw_p43 : lw_okq (⟨"AddressTermsModel", "truth", "(I)I"⟩, 30) := ⟨⟨by decide +kernel, by decide +kernel⟩, List.mem_of_getElem? (i := 653) (by decide +kernel), List.mem_of_getElem? (i := 907) (by decide +kernel), List.mem_of_getElem? (i := 908) (by decide +kernel)⟩
theorem lw_p44 : lw_okq (⟨"AddressTermsModel", "isBytes", "(IIJ)Z"⟩, 30) := ⟨⟨by decide +kernel, by decide +kernel⟩, List.mem_of_getElem? (i := 653) (by decide +kernel), List.mem_of_getElem? (i := 912) (by decide +kernel), List.mem_of_getElem? (i := 913) (by decide +kernel)⟩
theorem lw_p45 : lw_okq (⟨"AddressTermsModel", "compareBytes", "(II)I"⟩, 30) := ⟨⟨by decide +kernel, by decide +kernel⟩, List.mem_of_getElem? (i := 653) (by decide +kernel), List.mem_of_getElem? (i := 925) (by decide +kernel), List.mem_of_getElem? (i := 926) (by decide +kernel)⟩
theorem lw_p46 : lw_okq (⟨"AddressTermsModel", "compareTags", "(II)I"⟩, 30) := ⟨⟨by decide +kernel, by decide +kernel⟩, List.mem_of_getElem? (i := 653) (by decide +kernel), List.mem_of_getElem? (i := 929) (by decide +kernel), List.mem_of_getElem? (i := 930) (by decide +kernel)⟩
theorem lw_p47 : lw_okq (⟨"AddressTermsModel", "tellAddress", "(IZ)V"⟩, 30) := ⟨⟨by decide +kernel, by decide +kernel⟩, List.mem_of_getElem? (i := 653) (by decide +kernel), List.mem_of_getElem? (i := 940) (by decide +kernel), List.mem_of_getElem? (i := 941) (by decide +kernel)⟩
def lw_privs_3 : List (MethodName × Nat) := [(⟨"AddressTermsModel", "merge", "()V"⟩, 30), (⟨"AddressTermsModel", "feed", "(II)V"⟩, 30), (⟨"AddressTermsModel", "plain", "()V"⟩, 30), (⟨"AddressTermsModel", "begins", "(IIII)Z"⟩, 30), (⟨"AddressTermsModel", "skip", "(I)V"⟩, 30), (⟨"AddressTermsModel", "back", "()V"⟩, 30), (⟨"AddressTermsModel", "isAddress", "(I)Z"⟩, 30), (⟨"AddressTermsModel", "isTerm", "(I)Z"⟩, 30), (⟨"AddressTermsModel", "escaped", "(I)I"⟩, 30), (⟨"AddressTermsModel", "isWhole", "(I)Z"⟩, 30), (⟨"AddressTermsModel", "whole", "(I)J"⟩, 30), (⟨"AddressTermsModel", "truth", "(I)I"⟩, 30), (⟨"AddressTermsModel", "isBytes", "(IIJ)Z"⟩, 30), (⟨"AddressTermsModel", "compareBytes", "(II)I"⟩, 30), (⟨"AddressTermsModel", "compareTags", "(II)I"⟩, 30), (⟨"AddressTermsModel", "tellAddress", "(IZ)V"⟩, 30)]
theorem lw_r3 : ∀ q ∈ lw_privs_3, lw_okq q := List.forall_mem_cons.mpr ⟨lw_p32, List.forall_mem_cons.mpr ⟨lw_p33, List.forall_mem_cons.mpr ⟨lw_p34, List.forall_mem_cons.mpr ⟨lw_p35, List.forall_mem_cons.mpr ⟨lw_p36, List.forall_mem_cons.mpr ⟨lw_p37, List.forall_mem_cons.mpr ⟨lw_p38, List.forall_mem_cons.mpr ⟨lw_p39, List.forall_mem_cons.mpr ⟨lw_p40, List.forall_mem_cons.mpr ⟨lw_p41, List.forall_mem_cons.mpr ⟨lw_p42, List.forall_mem_cons.mpr ⟨lw_p43, List.forall_mem_cons.mpr ⟨lw_p44, List.forall_mem_cons.mpr ⟨lw_p45, List.forall_mem_cons.mpr ⟨lw_p46, List.forall_mem_cons.mpr ⟨lw_p47, fun _ h => absurd h List.not_mem_nil⟩⟩⟩⟩⟩⟩⟩⟩⟩⟩⟩⟩⟩⟩⟩⟩
theorem lw_p48 : lw_okq (⟨"AddressTermsModel", "isNameBefore", "(II)Z"⟩, 30) := ⟨⟨by decide +kernel, by decide +kernel⟩, List.mem_of_getElem? (i := 653) (by decide +kernel), List.mem_of_getElem? (i := 944) (by decide +kernel), List.mem_of_getElem? (i := 945) (by decide +kernel)⟩
theorem lw_p49 : lw_okq (⟨"AddressTermsModel", "shortens", "(II)Z"⟩, 30) := ⟨⟨by decide +kernel, by decide +kernel⟩, List.mem_of_getElem? (i := 653) (by decide +kernel), List.mem_of_getElem? (i := 948) (by decide +kernel), List.mem_of_getElem? (i := 949) (by decide +kernel)⟩
theorem lw_p50 : lw_okq (⟨"AddressTermsModel", "tell", "(I)V"⟩, 30) := ⟨⟨by decide +kernel, by decide +kernel⟩, List.mem_of_getElem? (i := 653) (by decide +kernel), List.mem_of_getElem? (i := 952) (by decide +kernel), List.mem_of_getElem? (i := 953) (by decide +kernel)⟩
theorem lw_p51 : lw_okq (⟨"AddressTermsModel", "tellAll", "(JI)V"⟩, 30) := ⟨⟨by decide +kernel, by decide +kernel⟩, List.mem_of_getElem? (i := 653) (by decide +kernel), List.mem_of_getElem? (i := 957) (by decide +kernel), List.mem_of_getElem? (i := 958) (by decide +kernel)⟩
theorem lw_p52 : lw_okq (⟨"AddressTermsModel", "tellNumber", "(I)V"⟩, 30) := ⟨⟨by decide +kernel, by decide +kernel⟩, List.mem_of_getElem? (i := 653) (by decide +kernel), List.mem_of_getElem? (i := 961) (by decide +kernel), List.mem_of_getElem? (i := 962) (by decide +kernel)⟩
theorem lw_p53 : lw_okq (⟨"AddressTermsModel", "tellLiteral", "(I)V"⟩, 30) := ⟨⟨by decide +kernel, by decide +kernel⟩, List.mem_of_getElem? (i := 653) (by decide +kernel), List.mem_of_getElem? (i := 965) (by decide +kernel), List.mem_of_getElem? (i := 966) (by decide +kernel)⟩
def lw_privs_4 : List (MethodName × Nat) := [(⟨"AddressTermsModel", "isNameBefore", "(II)Z"⟩, 30), (⟨"AddressTermsModel", "shortens", "(II)Z"⟩, 30), (⟨"AddressTermsModel", "tell", "(I)V"⟩, 30), (⟨"AddressTermsModel", "tellAll", "(JI)V"⟩, 30), (⟨"AddressTermsModel", "tellNumber", "(I)V"⟩, 30), (⟨"AddressTermsModel", "tellLiteral", "(I)V"⟩, 30)]
theorem lw_r4 : ∀ q ∈ lw_privs_4, lw_okq q := List.forall_mem_cons.mpr ⟨lw_p48, List.forall_mem_cons.mpr ⟨lw_p49, List.forall_mem_cons.mpr ⟨lw_p50, List.forall_mem_cons.mpr ⟨lw_p51, List.forall_mem_cons.mpr ⟨lw_p52, List.forall_mem_cons.mpr ⟨lw_p53, fun _ h => absurd h List.not_mem_nil⟩⟩⟩⟩⟩⟩
def lw_privs : List (MethodName × Nat) := lw_privs_1 ++ (lw_privs_2 ++ (lw_privs_3 ++ (lw_privs_4)))
def lw_tbl : List Cond := k2_sels lw_privs ++ tables_1
theorem lw_privs_ok : ∀ q ∈ lw_privs, lw_okq q := by
  show ∀ q ∈ lw_privs_1 ++ (lw_privs_2 ++ (lw_privs_3 ++ (lw_privs_4))), lw_okq q
  exact List.forall_mem_append.mpr ⟨lw_r1, List.forall_mem_append.mpr ⟨lw_r2, List.forall_mem_append.mpr ⟨lw_r3, lw_r4⟩⟩⟩
end
section
/-! NAMES: the classes, their fields, the methods, the words of the tables by their places (written by wip/whole/mknames.py out of the claim's listing) -/
def aw_tw : List Cond := lw_tbl.filter goodWord
theorem aw_tw_good : aw_tw.all goodWord = true := List.all_eq_true.mpr (fun w h => (List.mem_filter.mp h).2)
theorem aw_tw_in : ∀ w ∈ aw_tw, w ∈ lw_tbl := fun w h => (List.mem_filter.mp h).1
theorem aw_in0 {q : MethodName × Nat} (h : q ∈ lw_privs) (hg : goodWord (Cond.selects q.1.cls q.1 q.1) = true) : Cond.selects q.1.cls q.1 q.1 ∈ aw_tw := List.mem_filter.mpr ⟨List.mem_append_left _ (List.mem_map.mpr ⟨q, h, rfl⟩), hg⟩
theorem aw_in1 {w : Cond} (h : w ∈ tables_1_1) (hg : goodWord w = true) : w ∈ aw_tw := List.mem_filter.mpr ⟨List.mem_append_right _ (List.mem_append_left _ h), hg⟩
theorem aw_in2 {w : Cond} (h : w ∈ tables_1_2) (hg : goodWord w = true) : w ∈ aw_tw := List.mem_filter.mpr ⟨List.mem_append_right _ (List.mem_append_right _ (List.mem_append_left _ h)), hg⟩
theorem aw_in3 {w : Cond} (h : w ∈ tables_1_3) (hg : goodWord w = true) : w ∈ aw_tw := List.mem_filter.mpr ⟨List.mem_append_right _ (List.mem_append_right _ (List.mem_append_right _ (List.mem_append_left _ h))), hg⟩
theorem aw_in4 {w : Cond} (h : w ∈ tables_1_4) (hg : goodWord w = true) : w ∈ aw_tw := List.mem_filter.mpr ⟨List.mem_append_right _ (List.mem_append_right _ (List.mem_append_right _ (List.mem_append_right _ (List.mem_append_left _ h)))), hg⟩
theorem aw_in5 {w : Cond} (h : w ∈ tables_1_5) (hg : goodWord w = true) : w ∈ aw_tw := List.mem_filter.mpr ⟨List.mem_append_right _ (List.mem_append_right _ (List.mem_append_right _ (List.mem_append_right _ (List.mem_append_right _ h)))), hg⟩
def aw_c2 : String := "AddressTerms$Term"
def aw_c3 : String := "AddressTerms$Prefix"
def T_Px : u_T := fun k => match k with
  | 0 => ("AddressTerms$Prefix", "name", "LAddressTerms$Row;", true)
  | _ => ("AddressTerms$Prefix", "address", "LAddressTerms$Row;", false)
def t_Px : Nat → FieldType := fun k => match k with
  | 0 => .object "AddressTerms$Row"
  | _ => .object "AddressTerms$Row"
def T_Rf : u_T := fun k => match k with
  | 0 => ("AddressTerms$Reference", "begins", "[I", true)
  | 1 => ("AddressTerms$Reference", "ends", "[I", true)
  | _ => ("AddressTerms$Reference", "row", "LAddressTerms$Row;", false)
def t_Rf : Nat → FieldType := fun k => match k with
  | 0 => .array .int
  | 1 => .array .int
  | _ => .object "AddressTerms$Row"
def T_Rs : u_T := fun k => match k with
  | _ => ("AddressTerms$Resolver", "path", "LAddressTerms$Row;", true)
def t_Rs : Nat → FieldType := fun k => match k with
  | _ => .object "AddressTerms$Row"
def T_Rw : u_T := fun k => match k with
  | 0 => ("AddressTerms$Row", "bytes", "[B", true)
  | _ => ("AddressTerms$Row", "length", "I", false)
def t_Rw : Nat → FieldType := fun k => match k with
  | 0 => .array .byte
  | _ => .int
def T_Tm : u_T := fun k => match k with
  | 0 => ("AddressTerms$Term", "text", "LAddressTerms$Row;", true)
  | 1 => ("AddressTerms$Term", "tag", "LAddressTerms$Row;", true)
  | 2 => ("AddressTerms$Term", "kind", "I", false)
  | 3 => ("AddressTerms$Term", "sort", "I", false)
  | _ => ("AddressTerms$Term", "number", "I", false)
def t_Tm : Nat → FieldType := fun k => match k with
  | 0 => .object "AddressTerms$Row"
  | 1 => .object "AddressTerms$Row"
  | 2 => .int
  | 3 => .int
  | _ => .int
def T_At : u_T := fun k => match k with
  | 0 => ("AddressTerms", "tape", "LAddressTerms$Row;", true)
  | 1 => ("AddressTerms", "printed", "LAddressTerms$Row;", true)
  | 2 => ("AddressTerms", "terms", "[LAddressTerms$Term;", true)
  | 3 => ("AddressTerms", "prefixes", "[LAddressTerms$Prefix;", true)
  | 4 => ("AddressTerms", "wanted", "LAddressTerms$Term;", true)
  | 5 => ("AddressTerms", "given", "LAddressTerms$Reference;", true)
  | 6 => ("AddressTerms", "known", "LAddressTerms$Reference;", true)
  | 7 => ("AddressTerms", "resolver", "LAddressTerms$Resolver;", true)
  | 8 => ("AddressTerms", "termCount", "I", false)
  | 9 => ("AddressTerms", "prefixCount", "I", false)
  | _ => ("AddressTerms", "baseTerm", "I", false)
def t_At : Nat → FieldType := fun k => match k with
  | 0 => .object "AddressTerms$Row"
  | 1 => .object "AddressTerms$Row"
  | 2 => .array (.object "AddressTerms$Term")
  | 3 => .array (.object "AddressTerms$Prefix")
  | 4 => .object "AddressTerms$Term"
  | 5 => .object "AddressTerms$Reference"
  | 6 => .object "AddressTerms$Reference"
  | 7 => .object "AddressTerms$Resolver"
  | 8 => .int
  | 9 => .int
  | _ => .int
def T_Md : u_T := fun k => match k with
  | 0 => ("AddressTermsModel", "tapeMany", "I", false)
  | 1 => ("AddressTermsModel", "tape", "[I", true)
  | 2 => ("AddressTermsModel", "terms", "I", false)
  | 3 => ("AddressTermsModel", "kinds", "[I", true)
  | 4 => ("AddressTermsModel", "numbers", "[I", true)
  | 5 => ("AddressTermsModel", "sizes", "[I", true)
  | 6 => ("AddressTermsModel", "bytes", "[I", true)
  | 7 => ("AddressTermsModel", "tagSizes", "[I", true)
  | 8 => ("AddressTermsModel", "tags", "[I", true)
  | 9 => ("AddressTermsModel", "base", "I", false)
  | 10 => ("AddressTermsModel", "prefixes", "I", false)
  | 11 => ("AddressTermsModel", "nameSizes", "[I", true)
  | 12 => ("AddressTermsModel", "names", "[I", true)
  | 13 => ("AddressTermsModel", "addresses", "[I", true)
  | 14 => ("AddressTermsModel", "made", "I", false)
  | 15 => ("AddressTermsModel", "row", "[I", true)
  | 16 => ("AddressTermsModel", "madeTag", "I", false)
  | 17 => ("AddressTermsModel", "tag", "[I", true)
  | 18 => ("AddressTermsModel", "printedMany", "I", false)
  | 19 => ("AddressTermsModel", "printed", "[I", true)
  | 20 => ("AddressTermsModel", "refMany", "I", false)
  | 21 => ("AddressTermsModel", "ref", "[I", true)
  | 22 => ("AddressTermsModel", "froms", "[I", true)
  | 23 => ("AddressTermsModel", "tos", "[I", true)
  | 24 => ("AddressTermsModel", "baseFroms", "[I", true)
  | 25 => ("AddressTermsModel", "baseTos", "[I", true)
  | 26 => ("AddressTermsModel", "inMany", "I", false)
  | 27 => ("AddressTermsModel", "in", "[I", true)
  | 28 => ("AddressTermsModel", "outMany", "I", false)
  | _ => ("AddressTermsModel", "out", "[I", true)
def t_Md : Nat → FieldType := fun k => match k with
  | 0 => .int
  | 1 => .array .int
  | 2 => .int
  | 3 => .array .int
  | 4 => .array .int
  | 5 => .array .int
  | 6 => .array .int
  | 7 => .array .int
  | 8 => .array .int
  | 9 => .int
  | 10 => .int
  | 11 => .array .int
  | 12 => .array .int
  | 13 => .array .int
  | 14 => .int
  | 15 => .array .int
  | 16 => .int
  | 17 => .array .int
  | 18 => .int
  | 19 => .array .int
  | 20 => .int
  | 21 => .array .int
  | 22 => .array .int
  | 23 => .array .int
  | 24 => .array .int
  | 25 => .array .int
  | 26 => .int
  | 27 => .array .int
  | 28 => .int
  | _ => .array .int
abbrev vwCl : List vw_C := [("AddressTerms$Prefix", T_Px, 2), ("AddressTerms$Reference", T_Rf, 3), ("AddressTerms$Resolver", T_Rs, 1), ("AddressTerms$Row", T_Rw, 2), ("AddressTerms$Term", T_Tm, 5), ("AddressTerms", T_At, 11), ("AddressTermsModel", T_Md, 30)]
abbrev c_At_init : ByteArray := prog_1_method_1_code
def y_At_init : MethodName := ⟨"AddressTerms", "<init>", "()V"⟩
abbrev c_Jo_init : ByteArray := object_method_1_code
def y_Jo_init : MethodName := ⟨"java/lang/Object", "<init>", "()V"⟩
abbrev c_Rw_init : ByteArray := prog_5_method_1_code
def y_Rw_init : MethodName := ⟨"AddressTerms$Row", "<init>", "(I)V"⟩
abbrev c_Jm_max : ByteArray := prog_10_method_65_code
def y_Jm_max : MethodName := ⟨"java/lang/Math", "max", "(II)I"⟩
abbrev c_Tm_init : ByteArray := prog_6_method_1_code
def y_Tm_init : MethodName := ⟨"AddressTerms$Term", "<init>", "(II)V"⟩
abbrev c_Rf_init : ByteArray := prog_3_method_1_code
def y_Rf_init : MethodName := ⟨"AddressTerms$Reference", "<init>", "()V"⟩
abbrev c_Rs_init : ByteArray := prog_4_method_1_code
def y_Rs_init : MethodName := ⟨"AddressTerms$Resolver", "<init>", "()V"⟩
abbrev c_At_type : ByteArray := prog_1_method_2_code
def y_At_type : MethodName := ⟨"AddressTerms", "type", "(JI)I"⟩
abbrev c_At_byteOf : ByteArray := prog_1_method_30_code
def y_At_byteOf : MethodName := ⟨"AddressTerms", "byteOf", "(JI)I"⟩
abbrev c_At_isTapeByte : ByteArray := prog_1_method_31_code
def y_At_isTapeByte : MethodName := ⟨"AddressTerms", "isTapeByte", "(I)Z"⟩
abbrev c_Rw_size : ByteArray := prog_5_method_2_code
def y_Rw_size : MethodName := ⟨"AddressTerms$Row", "size", "()I"⟩
abbrev c_Rw_add : ByteArray := prog_5_method_4_code
def y_Rw_add : MethodName := ⟨"AddressTerms$Row", "add", "(I)V"⟩
abbrev c_At_resolve : ByteArray := prog_1_method_3_code
def y_At_resolve : MethodName := ⟨"AddressTerms", "resolve", "()I"⟩
abbrev c_At_addressOnTape : ByteArray := prog_1_method_21_code
def y_At_addressOnTape : MethodName := ⟨"AddressTerms", "addressOnTape", "()I"⟩
abbrev c_At_wrongInReference : ByteArray := prog_1_method_41_code
def y_At_wrongInReference : MethodName := ⟨"AddressTerms", "wrongInReference", "(LAddressTerms$Row;)I"⟩
abbrev c_Rw_byteAt : ByteArray := prog_5_method_3_code
def y_Rw_byteAt : MethodName := ⟨"AddressTerms$Row", "byteAt", "(I)I"⟩
abbrev c_At_isReferenceByte : ByteArray := prog_1_method_33_code
def y_At_isReferenceByte : MethodName := ⟨"AddressTerms", "isReferenceByte", "(I)Z"⟩
abbrev c_Js_indexOf1 : ByteArray := prog_11_method_79_code
def y_Js_indexOf1 : MethodName := ⟨"java/lang/String", "indexOf", "(I)I"⟩
abbrev c_Js_indexOf2 : ByteArray := prog_11_method_80_code
def y_Js_indexOf2 : MethodName := ⟨"java/lang/String", "indexOf", "(II)I"⟩
abbrev c_Js_isLatin1 : ByteArray := prog_11_method_154_code
def y_Js_isLatin1 : MethodName := ⟨"java/lang/String", "isLatin1", "()Z"⟩
abbrev c_Js_length : ByteArray := prog_11_method_54_code
def y_Js_length : MethodName := ⟨"java/lang/String", "length", "()I"⟩
abbrev c_Js_coder : ByteArray := prog_11_method_152_code
def y_Js_coder : MethodName := ⟨"java/lang/String", "coder", "()B"⟩
abbrev c_Jl_indexOf : ByteArray := prog_12_method_22_code
def y_Jl_indexOf : MethodName := ⟨"java/lang/StringLatin1", "indexOf", "([BIII)I"⟩
abbrev c_Jl_canEncode : ByteArray := prog_12_method_4_code
def y_Jl_canEncode : MethodName := ⟨"java/lang/StringLatin1", "canEncode", "(I)Z"⟩
abbrev c_Jm_min : ByteArray := prog_10_method_69_code
def y_Jm_min : MethodName := ⟨"java/lang/Math", "min", "(II)I"⟩
abbrev c_Jl_indexOfChar : ByteArray := prog_12_method_23_code
def y_Jl_indexOfChar : MethodName := ⟨"java/lang/StringLatin1", "indexOfChar", "([BIII)I"⟩
abbrev c_Js_checkBoundsBeginEnd : ByteArray := prog_11_method_158_code
def y_Js_checkBoundsBeginEnd : MethodName := ⟨"java/lang/String", "checkBoundsBeginEnd", "(III)V"⟩
abbrev c_At_hexValue : ByteArray := prog_1_method_40_code
def y_At_hexValue : MethodName := ⟨"AddressTerms", "hexValue", "(I)I"⟩
abbrev c_At_isDigit : ByteArray := prog_1_method_37_code
def y_At_isDigit : MethodName := ⟨"AddressTerms", "isDigit", "(I)Z"⟩
abbrev c_Rf_read : ByteArray := prog_3_method_2_code
def y_Rf_read : MethodName := ⟨"AddressTerms$Reference", "read", "(LAddressTerms$Row;)V"⟩
abbrev c_Rf_note : ByteArray := prog_3_method_4_code
def y_Rf_note : MethodName := ⟨"AddressTerms$Reference", "note", "(III)V"⟩
abbrev c_Rf_colonOfScheme : ByteArray := prog_3_method_3_code
def y_Rf_colonOfScheme : MethodName := ⟨"AddressTerms$Reference", "colonOfScheme", "()I"⟩
abbrev c_At_isLetter : ByteArray := prog_1_method_36_code
def y_At_isLetter : MethodName := ⟨"AddressTerms", "isLetter", "(I)Z"⟩
abbrev c_At_isSmallLetter : ByteArray := prog_1_method_34_code
def y_At_isSmallLetter : MethodName := ⟨"AddressTerms", "isSmallLetter", "(I)Z"⟩
abbrev c_At_isGreatLetter : ByteArray := prog_1_method_35_code
def y_At_isGreatLetter : MethodName := ⟨"AddressTerms", "isGreatLetter", "(I)Z"⟩
abbrev c_At_isLetterOrDigit : ByteArray := prog_1_method_38_code
def y_At_isLetterOrDigit : MethodName := ⟨"AddressTerms", "isLetterOrDigit", "(I)Z"⟩
abbrev c_Rw_hasThere : ByteArray := prog_5_method_13_code
def y_Rw_hasThere : MethodName := ⟨"AddressTerms$Row", "hasThere", "(ILjava/lang/String;)Z"⟩
abbrev c_Js_charAt : ByteArray := prog_11_method_56_code
def y_Js_charAt : MethodName := ⟨"java/lang/String", "charAt", "(I)C"⟩
abbrev c_Jl_charAt : ByteArray := prog_12_method_2_code
def y_Jl_charAt : MethodName := ⟨"java/lang/StringLatin1", "charAt", "([BI)C"⟩
abbrev c_Js_checkIndex : ByteArray := prog_11_method_155_code
def y_Js_checkIndex : MethodName := ⟨"java/lang/String", "checkIndex", "(II)V"⟩
abbrev c_Rw_nextOf : ByteArray := prog_5_method_15_code
def y_Rw_nextOf : MethodName := ⟨"AddressTerms$Row", "nextOf", "(ILjava/lang/String;)I"⟩
abbrev c_At_addressAt : ByteArray := prog_1_method_18_code
def y_At_addressAt : MethodName := ⟨"AddressTerms", "addressAt", "(I)LAddressTerms$Term;"⟩
abbrev c_At_termAt : ByteArray := prog_1_method_17_code
def y_At_termAt : MethodName := ⟨"AddressTerms", "termAt", "(I)LAddressTerms$Term;"⟩
abbrev c_Rf_has : ByteArray := prog_3_method_7_code
def y_Rf_has : MethodName := ⟨"AddressTerms$Reference", "has", "(I)Z"⟩
abbrev c_Rf_endOf : ByteArray := prog_3_method_6_code
def y_Rf_endOf : MethodName := ⟨"AddressTerms$Reference", "endOf", "(I)I"⟩
abbrev c_Tm_begin : ByteArray := prog_6_method_2_code
def y_Tm_begin : MethodName := ⟨"AddressTerms$Term", "begin", "(III)V"⟩
abbrev c_Rw_cutTo : ByteArray := prog_5_method_9_code
def y_Rw_cutTo : MethodName := ⟨"AddressTerms$Row", "cutTo", "(I)V"⟩
abbrev c_Rw_addRange : ByteArray := prog_5_method_5_code
def y_Rw_addRange : MethodName := ⟨"AddressTerms$Row", "addRange", "(LAddressTerms$Row;II)V"⟩
abbrev c_Rs_resolveTo : ByteArray := prog_4_method_2_code
def y_Rs_resolveTo : MethodName := ⟨"AddressTerms$Resolver", "resolveTo", "(LAddressTerms$Row;LAddressTerms$Reference;LAddressTerms$Reference;)V"⟩
abbrev c_Rf_lengthOf : ByteArray := prog_3_method_8_code
def y_Rf_lengthOf : MethodName := ⟨"AddressTerms$Reference", "lengthOf", "(I)I"⟩
abbrev c_Rf_beginOf : ByteArray := prog_3_method_5_code
def y_Rf_beginOf : MethodName := ⟨"AddressTerms$Reference", "beginOf", "(I)I"⟩
abbrev c_Rf_copyTo : ByteArray := prog_3_method_10_code
def y_Rf_copyTo : MethodName := ⟨"AddressTerms$Reference", "copyTo", "(LAddressTerms$Row;I)V"⟩
abbrev c_Rs_addBehind : ByteArray := prog_4_method_3_code
def y_Rs_addBehind : MethodName := ⟨"AddressTerms$Resolver", "addBehind", "(LAddressTerms$Row;Ljava/lang/String;LAddressTerms$Reference;I)V"⟩
abbrev c_Rw_addText : ByteArray := prog_5_method_6_code
def y_Rw_addText : MethodName := ⟨"AddressTerms$Row", "addText", "(Ljava/lang/String;)V"⟩
abbrev c_Rs_gatherPath : ByteArray := prog_4_method_4_code
def y_Rs_gatherPath : MethodName := ⟨"AddressTerms$Resolver", "gatherPath", "(LAddressTerms$Reference;LAddressTerms$Reference;Z)V"⟩
abbrev c_Rf_hasPathFromTop : ByteArray := prog_3_method_9_code
def y_Rf_hasPathFromTop : MethodName := ⟨"AddressTerms$Reference", "hasPathFromTop", "()Z"⟩
abbrev c_Rf_copyFolderTo : ByteArray := prog_3_method_11_code
def y_Rf_copyFolderTo : MethodName := ⟨"AddressTerms$Reference", "copyFolderTo", "(LAddressTerms$Row;)V"⟩
abbrev c_Rw_lastSlash : ByteArray := prog_5_method_16_code
def y_Rw_lastSlash : MethodName := ⟨"AddressTerms$Row", "lastSlash", "(II)I"⟩
abbrev c_Rs_addPlainPath : ByteArray := prog_4_method_5_code
def y_Rs_addPlainPath : MethodName := ⟨"AddressTerms$Resolver", "addPlainPath", "(LAddressTerms$Row;)V"⟩
abbrev c_Rw_isRest : ByteArray := prog_5_method_14_code
def y_Rw_isRest : MethodName := ⟨"AddressTerms$Row", "isRest", "(ILjava/lang/String;)Z"⟩
abbrev c_Rw_set : ByteArray := prog_5_method_8_code
def y_Rw_set : MethodName := ⟨"AddressTerms$Row", "set", "(II)V"⟩
abbrev c_Rs_dropLast : ByteArray := prog_4_method_6_code
def y_Rs_dropLast : MethodName := ⟨"AddressTerms$Resolver", "dropLast", "(LAddressTerms$Row;I)V"⟩
abbrev c_At_placeOfWanted : ByteArray := prog_1_method_20_code
def y_At_placeOfWanted : MethodName := ⟨"AddressTerms", "placeOfWanted", "()I"⟩
abbrev c_Tm_order : ByteArray := prog_6_method_5_code
def y_Tm_order : MethodName := ⟨"AddressTerms$Term", "order", "(LAddressTerms$Term;)I"⟩
abbrev c_Tm_rank : ByteArray := prog_6_method_4_code
def y_Tm_rank : MethodName := ⟨"AddressTerms$Term", "rank", "()I"⟩
abbrev c_At_orderOf : ByteArray := prog_1_method_53_code
def y_At_orderOf : MethodName := ⟨"AddressTerms", "orderOf", "(II)I"⟩
abbrev c_Rw_order : ByteArray := prog_5_method_11_code
def y_Rw_order : MethodName := ⟨"AddressTerms$Row", "order", "(LAddressTerms$Row;)I"⟩
abbrev c_Tm_copy : ByteArray := prog_6_method_3_code
def y_Tm_copy : MethodName := ⟨"AddressTerms$Term", "copy", "()LAddressTerms$Term;"⟩
abbrev c_At_base : ByteArray := prog_1_method_4_code
def y_At_base : MethodName := ⟨"AddressTerms", "base", "(I)I"⟩
abbrev c_At_label : ByteArray := prog_1_method_5_code
def y_At_label : MethodName := ⟨"AddressTerms", "label", "(I)I"⟩
abbrev c_At_literal : ByteArray := prog_1_method_6_code
def y_At_literal : MethodName := ⟨"AddressTerms", "literal", "(I)I"⟩
abbrev c_At_literalOnTape : ByteArray := prog_1_method_22_code
def y_At_literalOnTape : MethodName := ⟨"AddressTerms", "literalOnTape", "(I)I"⟩
abbrev c_At_readText : ByteArray := prog_1_method_44_code
def y_At_readText : MethodName := ⟨"AddressTerms", "readText", "(LAddressTerms$Row;LAddressTerms$Row;)I"⟩
abbrev c_At_escapedByte : ByteArray := prog_1_method_45_code
def y_At_escapedByte : MethodName := ⟨"AddressTerms", "escapedByte", "(LAddressTerms$Row;I)I"⟩
abbrev c_At_hexByte : ByteArray := prog_1_method_46_code
def y_At_hexByte : MethodName := ⟨"AddressTerms", "hexByte", "(LAddressTerms$Row;I)I"⟩
abbrev c_At_isTextByte : ByteArray := prog_1_method_32_code
def y_At_isTextByte : MethodName := ⟨"AddressTerms", "isTextByte", "(I)Z"⟩
abbrev c_At_tagged : ByteArray := prog_1_method_7_code
def y_At_tagged : MethodName := ⟨"AddressTerms", "tagged", "(I)I"⟩
abbrev c_At_tagOnTape : ByteArray := prog_1_method_23_code
def y_At_tagOnTape : MethodName := ⟨"AddressTerms", "tagOnTape", "(I)I"⟩
abbrev c_At_literalAt : ByteArray := prog_1_method_19_code
def y_At_literalAt : MethodName := ⟨"AddressTerms", "literalAt", "(I)LAddressTerms$Term;"⟩
abbrev c_At_wrongInTag : ByteArray := prog_1_method_42_code
def y_At_wrongInTag : MethodName := ⟨"AddressTerms", "wrongInTag", "(LAddressTerms$Row;)I"⟩
abbrev c_At_smallOf : ByteArray := prog_1_method_39_code
def y_At_smallOf : MethodName := ⟨"AddressTerms", "smallOf", "(I)I"⟩
abbrev c_At_prefix : ByteArray := prog_1_method_8_code
def y_At_prefix : MethodName := ⟨"AddressTerms", "prefix", "(I)I"⟩
abbrev c_At_nameOnTape : ByteArray := prog_1_method_24_code
def y_At_nameOnTape : MethodName := ⟨"AddressTerms", "nameOnTape", "(I)I"⟩
abbrev c_At_isName : ByteArray := prog_1_method_43_code
def y_At_isName : MethodName := ⟨"AddressTerms", "isName", "(LAddressTerms$Row;)Z"⟩
abbrev c_At_prefixAt : ByteArray := prog_1_method_25_code
def y_At_prefixAt : MethodName := ⟨"AddressTerms", "prefixAt", "(I)LAddressTerms$Prefix;"⟩
abbrev c_Rw_copy : ByteArray := prog_5_method_10_code
def y_Rw_copy : MethodName := ⟨"AddressTerms$Row", "copy", "()LAddressTerms$Row;"⟩
abbrev c_Px_init : ByteArray := prog_2_method_1_code
def y_Px_init : MethodName := ⟨"AddressTerms$Prefix", "<init>", "(LAddressTerms$Row;LAddressTerms$Row;)V"⟩
abbrev c_At_part : ByteArray := prog_1_method_9_code
def y_At_part : MethodName := ⟨"AddressTerms", "part", "(II)I"⟩
abbrev c_At_kind : ByteArray := prog_1_method_10_code
def y_At_kind : MethodName := ⟨"AddressTerms", "kind", "(I)I"⟩
abbrev c_At_sort : ByteArray := prog_1_method_11_code
def y_At_sort : MethodName := ⟨"AddressTerms", "sort", "(I)I"⟩
abbrev c_At_alike : ByteArray := prog_1_method_12_code
def y_At_alike : MethodName := ⟨"AddressTerms", "alike", "(II)I"⟩
abbrev c_At_haveSameValue : ByteArray := prog_1_method_47_code
def y_At_haveSameValue : MethodName := ⟨"AddressTerms", "haveSameValue", "(LAddressTerms$Term;LAddressTerms$Term;)Z"⟩
abbrev c_At_isWhole : ByteArray := prog_1_method_51_code
def y_At_isWhole : MethodName := ⟨"AddressTerms", "isWhole", "(LAddressTerms$Row;)Z"⟩
abbrev c_At_signLength : ByteArray := prog_1_method_50_code
def y_At_signLength : MethodName := ⟨"AddressTerms", "signLength", "(LAddressTerms$Row;)I"⟩
abbrev c_At_wholeValue : ByteArray := prog_1_method_52_code
def y_At_wholeValue : MethodName := ⟨"AddressTerms", "wholeValue", "(LAddressTerms$Row;)J"⟩
abbrev c_At_isTrue : ByteArray := prog_1_method_48_code
def y_At_isTrue : MethodName := ⟨"AddressTerms", "isTrue", "(LAddressTerms$Row;)Z"⟩
abbrev c_At_isFalse : ByteArray := prog_1_method_49_code
def y_At_isFalse : MethodName := ⟨"AddressTerms", "isFalse", "(LAddressTerms$Row;)Z"⟩
abbrev c_At_compare : ByteArray := prog_1_method_13_code
def y_At_compare : MethodName := ⟨"AddressTerms", "compare", "(II)I"⟩
abbrev c_At_print : ByteArray := prog_1_method_14_code
def y_At_print : MethodName := ⟨"AddressTerms", "print", "(II)I"⟩
abbrev c_Rw_addNumber : ByteArray := prog_5_method_7_code
def y_Rw_addNumber : MethodName := ⟨"AddressTerms$Row", "addNumber", "(I)V"⟩
abbrev c_At_printLiteral : ByteArray := prog_1_method_28_code
def y_At_printLiteral : MethodName := ⟨"AddressTerms", "printLiteral", "(LAddressTerms$Term;)V"⟩
abbrev c_At_printTextByte : ByteArray := prog_1_method_29_code
def y_At_printTextByte : MethodName := ⟨"AddressTerms", "printTextByte", "(I)V"⟩
abbrev c_At_printAddress : ByteArray := prog_1_method_26_code
def y_At_printAddress : MethodName := ⟨"AddressTerms", "printAddress", "(LAddressTerms$Row;I)V"⟩
abbrev c_At_bestPrefix : ByteArray := prog_1_method_27_code
def y_At_bestPrefix : MethodName := ⟨"AddressTerms", "bestPrefix", "(LAddressTerms$Row;)LAddressTerms$Prefix;"⟩
abbrev c_Px_tells : ByteArray := prog_2_method_2_code
def y_Px_tells : MethodName := ⟨"AddressTerms$Prefix", "tells", "(LAddressTerms$Row;)Z"⟩
abbrev c_Rw_beginsWith : ByteArray := prog_5_method_12_code
def y_Rw_beginsWith : MethodName := ⟨"AddressTerms$Row", "beginsWith", "(LAddressTerms$Row;)Z"⟩
abbrev c_Px_isBetterThan : ByteArray := prog_2_method_3_code
def y_Px_isBetterThan : MethodName := ⟨"AddressTerms$Prefix", "isBetterThan", "(LAddressTerms$Prefix;)Z"⟩
abbrev c_At_at : ByteArray := prog_1_method_15_code
def y_At_at : MethodName := ⟨"AddressTerms", "at", "(I)I"⟩
abbrev c_At_count : ByteArray := prog_1_method_16_code
def y_At_count : MethodName := ⟨"AddressTerms", "count", "(I)I"⟩
abbrev c_Md_init : ByteArray := prog_8_method_1_code
def y_Md_init : MethodName := ⟨"AddressTermsModel", "<init>", "()V"⟩
abbrev c_Md_type : ByteArray := prog_8_method_8_code
def y_Md_type : MethodName := ⟨"AddressTermsModel", "type", "(JI)I"⟩
abbrev c_Md_is : ByteArray := prog_8_method_2_code
def y_Md_is : MethodName := ⟨"AddressTermsModel", "is", "(III)Z"⟩
abbrev c_Md_label : ByteArray := prog_8_method_13_code
def y_Md_label : MethodName := ⟨"AddressTermsModel", "label", "(I)I"⟩
abbrev c_Md_note : ByteArray := prog_8_method_10_code
def y_Md_note : MethodName := ⟨"AddressTermsModel", "note", "(II)I"⟩
abbrev c_Md_find : ByteArray := prog_8_method_9_code
def y_Md_find : MethodName := ⟨"AddressTermsModel", "find", "(II)I"⟩
abbrev c_Md_resolve : ByteArray := prog_8_method_30_code
def y_Md_resolve : MethodName := ⟨"AddressTermsModel", "resolve", "()I"⟩
abbrev c_Md_wrong : ByteArray := prog_8_method_19_code
def y_Md_wrong : MethodName := ⟨"AddressTermsModel", "wrong", "()I"⟩
abbrev c_Md_hex : ByteArray := prog_8_method_6_code
def y_Md_hex : MethodName := ⟨"AddressTermsModel", "hex", "(I)I"⟩
abbrev c_Md_isDigit : ByteArray := prog_8_method_5_code
def y_Md_isDigit : MethodName := ⟨"AddressTermsModel", "isDigit", "(I)Z"⟩
abbrev c_Md_resolveAgainst : ByteArray := prog_8_method_28_code
def y_Md_resolveAgainst : MethodName := ⟨"AddressTermsModel", "resolveAgainst", "()V"⟩
abbrev c_Md_take : ByteArray := prog_8_method_18_code
def y_Md_take : MethodName := ⟨"AddressTermsModel", "take", "(I)V"⟩
abbrev c_Md_split : ByteArray := prog_8_method_17_code
def y_Md_split : MethodName := ⟨"AddressTermsModel", "split", "()V"⟩
abbrev c_Md_refAt : ByteArray := prog_8_method_15_code
def y_Md_refAt : MethodName := ⟨"AddressTermsModel", "refAt", "(I)I"⟩
abbrev c_Md_isLetter : ByteArray := prog_8_method_4_code
def y_Md_isLetter : MethodName := ⟨"AddressTermsModel", "isLetter", "(I)Z"⟩
abbrev c_Md_isSmall : ByteArray := prog_8_method_3_code
def y_Md_isSmall : MethodName := ⟨"AddressTermsModel", "isSmall", "(I)Z"⟩
abbrev c_Md_stop : ByteArray := prog_8_method_16_code
def y_Md_stop : MethodName := ⟨"AddressTermsModel", "stop", "(IZZ)I"⟩
abbrev c_Md_addRef : ByteArray := prog_8_method_25_code
def y_Md_addRef : MethodName := ⟨"AddressTermsModel", "addRef", "(II)V"⟩
abbrev c_Md_add : ByteArray := prog_8_method_14_code
def y_Md_add : MethodName := ⟨"AddressTermsModel", "add", "(I)V"⟩
abbrev c_Md_addBase : ByteArray := prog_8_method_26_code
def y_Md_addBase : MethodName := ⟨"AddressTermsModel", "addBase", "(II)V"⟩
abbrev c_Md_lead : ByteArray := prog_8_method_27_code
def y_Md_lead : MethodName := ⟨"AddressTermsModel", "lead", "(II)V"⟩
abbrev c_Md_merge : ByteArray := prog_8_method_29_code
def y_Md_merge : MethodName := ⟨"AddressTermsModel", "merge", "()V"⟩
abbrev c_Md_feed : ByteArray := prog_8_method_24_code
def y_Md_feed : MethodName := ⟨"AddressTermsModel", "feed", "(II)V"⟩
abbrev c_Md_plain : ByteArray := prog_8_method_23_code
def y_Md_plain : MethodName := ⟨"AddressTermsModel", "plain", "()V"⟩
abbrev c_Md_begins : ByteArray := prog_8_method_20_code
def y_Md_begins : MethodName := ⟨"AddressTermsModel", "begins", "(IIII)Z"⟩
abbrev c_Md_skip : ByteArray := prog_8_method_21_code
def y_Md_skip : MethodName := ⟨"AddressTermsModel", "skip", "(I)V"⟩
abbrev c_Md_back : ByteArray := prog_8_method_22_code
def y_Md_back : MethodName := ⟨"AddressTermsModel", "back", "()V"⟩
abbrev c_Md_base : ByteArray := prog_8_method_31_code
def y_Md_base : MethodName := ⟨"AddressTermsModel", "base", "(I)I"⟩
abbrev c_Md_isAddress : ByteArray := prog_8_method_12_code
def y_Md_isAddress : MethodName := ⟨"AddressTermsModel", "isAddress", "(I)Z"⟩
abbrev c_Md_isTerm : ByteArray := prog_8_method_11_code
def y_Md_isTerm : MethodName := ⟨"AddressTermsModel", "isTerm", "(I)Z"⟩
abbrev c_Md_literal : ByteArray := prog_8_method_33_code
def y_Md_literal : MethodName := ⟨"AddressTermsModel", "literal", "(I)I"⟩
abbrev c_Md_escaped : ByteArray := prog_8_method_32_code
def y_Md_escaped : MethodName := ⟨"AddressTermsModel", "escaped", "(I)I"⟩
abbrev c_Md_isText : ByteArray := prog_8_method_7_code
def y_Md_isText : MethodName := ⟨"AddressTermsModel", "isText", "(I)Z"⟩
abbrev c_Md_tagged : ByteArray := prog_8_method_34_code
def y_Md_tagged : MethodName := ⟨"AddressTermsModel", "tagged", "(I)I"⟩
abbrev c_Md_prefix : ByteArray := prog_8_method_35_code
def y_Md_prefix : MethodName := ⟨"AddressTermsModel", "prefix", "(I)I"⟩
abbrev c_Md_part : ByteArray := prog_8_method_36_code
def y_Md_part : MethodName := ⟨"AddressTermsModel", "part", "(II)I"⟩
abbrev c_Md_kind : ByteArray := prog_8_method_37_code
def y_Md_kind : MethodName := ⟨"AddressTermsModel", "kind", "(I)I"⟩
abbrev c_Md_sort : ByteArray := prog_8_method_38_code
def y_Md_sort : MethodName := ⟨"AddressTermsModel", "sort", "(I)I"⟩
abbrev c_Md_alike : ByteArray := prog_8_method_43_code
def y_Md_alike : MethodName := ⟨"AddressTermsModel", "alike", "(II)I"⟩
abbrev c_Md_isWhole : ByteArray := prog_8_method_39_code
def y_Md_isWhole : MethodName := ⟨"AddressTermsModel", "isWhole", "(I)Z"⟩
abbrev c_Md_whole : ByteArray := prog_8_method_40_code
def y_Md_whole : MethodName := ⟨"AddressTermsModel", "whole", "(I)J"⟩
abbrev c_Md_truth : ByteArray := prog_8_method_42_code
def y_Md_truth : MethodName := ⟨"AddressTermsModel", "truth", "(I)I"⟩
abbrev c_Md_isBytes : ByteArray := prog_8_method_41_code
def y_Md_isBytes : MethodName := ⟨"AddressTermsModel", "isBytes", "(IIJ)Z"⟩
abbrev c_Md_compare : ByteArray := prog_8_method_48_code
def y_Md_compare : MethodName := ⟨"AddressTermsModel", "compare", "(II)I"⟩
abbrev c_Md_rank : ByteArray := prog_8_method_47_code
def y_Md_rank : MethodName := ⟨"AddressTermsModel", "rank", "(I)I"⟩
abbrev c_Md_compareBytes : ByteArray := prog_8_method_45_code
def y_Md_compareBytes : MethodName := ⟨"AddressTermsModel", "compareBytes", "(II)I"⟩
abbrev c_Md_compareTags : ByteArray := prog_8_method_46_code
def y_Md_compareTags : MethodName := ⟨"AddressTermsModel", "compareTags", "(II)I"⟩
abbrev c_Md_sign : ByteArray := prog_8_method_44_code
def y_Md_sign : MethodName := ⟨"AddressTermsModel", "sign", "(I)I"⟩
abbrev c_Md_print : ByteArray := prog_8_method_56_code
def y_Md_print : MethodName := ⟨"AddressTermsModel", "print", "(II)I"⟩
abbrev c_Md_tellAddress : ByteArray := prog_8_method_55_code
def y_Md_tellAddress : MethodName := ⟨"AddressTermsModel", "tellAddress", "(IZ)V"⟩
abbrev c_Md_isNameBefore : ByteArray := prog_8_method_54_code
def y_Md_isNameBefore : MethodName := ⟨"AddressTermsModel", "isNameBefore", "(II)Z"⟩
abbrev c_Md_shortens : ByteArray := prog_8_method_53_code
def y_Md_shortens : MethodName := ⟨"AddressTermsModel", "shortens", "(II)Z"⟩
abbrev c_Md_tell : ByteArray := prog_8_method_49_code
def y_Md_tell : MethodName := ⟨"AddressTermsModel", "tell", "(I)V"⟩
abbrev c_Md_tellAll : ByteArray := prog_8_method_50_code
def y_Md_tellAll : MethodName := ⟨"AddressTermsModel", "tellAll", "(JI)V"⟩
abbrev c_Md_tellNumber : ByteArray := prog_8_method_51_code
def y_Md_tellNumber : MethodName := ⟨"AddressTermsModel", "tellNumber", "(I)V"⟩
abbrev c_Md_tellLiteral : ByteArray := prog_8_method_52_code
def y_Md_tellLiteral : MethodName := ⟨"AddressTermsModel", "tellLiteral", "(I)V"⟩
abbrev c_Md_at : ByteArray := prog_8_method_57_code
def y_Md_at : MethodName := ⟨"AddressTermsModel", "at", "(I)I"⟩
abbrev c_Md_count : ByteArray := prog_8_method_58_code
def y_Md_count : MethodName := ⟨"AddressTermsModel", "count", "(I)I"⟩
theorem n_ini_Lw : Cond.initialized "AddressTermsLaw" ∈ aw_tw := aw_in1 (List.mem_of_getElem? (i := 0) rfl) rfl
theorem n_ini_At : Cond.initialized "AddressTerms" ∈ aw_tw := aw_in1 (List.mem_of_getElem? (i := 1) rfl) rfl
theorem n_ini_Rw : Cond.initialized "AddressTerms$Row" ∈ aw_tw := aw_in1 (List.mem_of_getElem? (i := 2) rfl) rfl
theorem n_ini_Jm : Cond.initialized "java/lang/Math" ∈ aw_tw := aw_in1 (List.mem_of_getElem? (i := 3) rfl) rfl
theorem n_ini_Tm : Cond.initialized "AddressTerms$Term" ∈ aw_tw := aw_in1 (List.mem_of_getElem? (i := 4) rfl) rfl
theorem n_ini_Rf : Cond.initialized "AddressTerms$Reference" ∈ aw_tw := aw_in1 (List.mem_of_getElem? (i := 5) rfl) rfl
theorem n_ini_Rs : Cond.initialized "AddressTerms$Resolver" ∈ aw_tw := aw_in1 (List.mem_of_getElem? (i := 6) rfl) rfl
theorem n_ini_Md : Cond.initialized "AddressTermsModel" ∈ aw_tw := aw_in1 (List.mem_of_getElem? (i := 7) rfl) rfl
theorem n_ini_Js : Cond.initialized "java/lang/String" ∈ aw_tw := aw_in1 (List.mem_of_getElem? (i := 8) rfl) rfl
theorem n_ini_Jl : Cond.initialized "java/lang/StringLatin1" ∈ aw_tw := aw_in1 (List.mem_of_getElem? (i := 9) rfl) rfl
theorem n_ini_Px : Cond.initialized "AddressTerms$Prefix" ∈ aw_tw := aw_in1 (List.mem_of_getElem? (i := 13) rfl) rfl
theorem n_cl_Lw_7 : Cond.classLink "AddressTermsLaw" 7 "AddressTerms" ∈ aw_tw := aw_in1 (List.mem_of_getElem? (i := 14) rfl) rfl
theorem n_ib_At : Cond.instantiable "AddressTerms" 11 ∈ aw_tw := aw_in1 (List.mem_of_getElem? (i := 15) rfl) rfl
theorem n_ml_Lw_9 : Cond.methodLink "AddressTermsLaw" 9 y_At_init ∈ aw_tw := aw_in1 (List.mem_of_getElem? (i := 16) rfl) rfl
theorem n_im_At_init : Cond.instanceMethod y_At_init ∈ aw_tw := aw_in1 (List.mem_of_getElem? (i := 17) rfl) rfl
theorem n_co_At_init : Cond.code y_At_init c_At_init 1 none ∈ aw_tw := aw_in1 (List.mem_of_getElem? (i := 18) rfl) rfl
theorem n_ml_At_3 : Cond.methodLink "AddressTerms" 3 objectInit ∈ aw_tw := aw_in1 (List.mem_of_getElem? (i := 19) rfl) rfl
theorem n_im_Jo_init : Cond.instanceMethod objectInit ∈ aw_tw := aw_in1 (List.mem_of_getElem? (i := 20) rfl) rfl
theorem n_co_Jo_init : Cond.code objectInit ⟨#[0xb1]⟩ 1 none ∈ aw_tw := aw_in1 (List.mem_of_getElem? (i := 21) rfl) rfl
theorem n_cl_At_9 : Cond.classLink "AddressTerms" 9 "AddressTerms$Row" ∈ aw_tw := aw_in1 (List.mem_of_getElem? (i := 22) rfl) rfl
theorem n_ib_Rw : Cond.instantiable "AddressTerms$Row" 2 ∈ aw_tw := aw_in1 (List.mem_of_getElem? (i := 23) rfl) rfl
theorem n_ml_At_11 : Cond.methodLink "AddressTerms" 11 y_Rw_init ∈ aw_tw := aw_in1 (List.mem_of_getElem? (i := 24) rfl) rfl
theorem n_im_Rw_init : Cond.instanceMethod y_Rw_init ∈ aw_tw := aw_in1 (List.mem_of_getElem? (i := 25) rfl) rfl
theorem n_co_Rw_init : Cond.code y_Rw_init c_Rw_init 2 none ∈ aw_tw := aw_in1 (List.mem_of_getElem? (i := 26) rfl) rfl
theorem n_ml_Rw_3 : Cond.methodLink "AddressTerms$Row" 3 objectInit ∈ aw_tw := aw_in1 (List.mem_of_getElem? (i := 27) rfl) rfl
theorem n_ml_Rw_15 : Cond.methodLink "AddressTerms$Row" 15 Lib.Math.max.name ∈ aw_tw := aw_in1 (List.mem_of_getElem? (i := 28) rfl) rfl
theorem n_st_Jm_max : Cond.static Lib.Math.max.name ∈ aw_tw := aw_in1 (List.mem_of_getElem? (i := 29) rfl) rfl
theorem n_co_Jm_max : Cond.code Lib.Math.max.name Lib.Math.max.code 2 (some .int) ∈ aw_tw := aw_in1 (List.mem_of_getElem? (i := 30) rfl) rfl
theorem n_fl_Rw_21 : Cond.fieldLink "AddressTerms$Row" 21 "AddressTerms$Row" "bytes" "[B" ∈ aw_tw := aw_in1 (List.mem_of_getElem? (i := 31) rfl) rfl
theorem n_fl_Rw_9 : Cond.fieldLink "AddressTerms$Row" 9 "AddressTerms$Row" "length" "I" ∈ aw_tw := aw_in1 (List.mem_of_getElem? (i := 32) rfl) rfl
theorem n_la_Rw_bytes : Cond.laysFinal "AddressTerms$Row" "AddressTerms$Row" "bytes" "[B" ∈ aw_tw := aw_in1 (List.mem_of_getElem? (i := 33) rfl) rfl
theorem n_la_Rw_length : Cond.lays "AddressTerms$Row" "AddressTerms$Row" "length" "I" ∈ aw_tw := aw_in1 (List.mem_of_getElem? (i := 35) rfl) rfl
theorem n_ac_byte : Cond.arrayClass .byte ∈ aw_tw := aw_in1 (List.mem_of_getElem? (i := 38) rfl) rfl
theorem n_cl_At_21 : Cond.classLink "AddressTerms" 21 "AddressTerms$Term" ∈ aw_tw := aw_in1 (List.mem_of_getElem? (i := 39) rfl) rfl
theorem n_cl_At_27 : Cond.classLink "AddressTerms" 27 "AddressTerms$Prefix" ∈ aw_tw := aw_in1 (List.mem_of_getElem? (i := 41) rfl) rfl
theorem n_ib_Tm : Cond.instantiable "AddressTerms$Term" 5 ∈ aw_tw := aw_in1 (List.mem_of_getElem? (i := 43) rfl) rfl
theorem n_ml_At_33 : Cond.methodLink "AddressTerms" 33 y_Tm_init ∈ aw_tw := aw_in1 (List.mem_of_getElem? (i := 44) rfl) rfl
theorem n_im_Tm_init : Cond.instanceMethod y_Tm_init ∈ aw_tw := aw_in1 (List.mem_of_getElem? (i := 45) rfl) rfl
theorem n_co_Tm_init : Cond.code y_Tm_init c_Tm_init 3 none ∈ aw_tw := aw_in1 (List.mem_of_getElem? (i := 46) rfl) rfl
theorem n_ml_Tm_3 : Cond.methodLink "AddressTerms$Term" 3 objectInit ∈ aw_tw := aw_in1 (List.mem_of_getElem? (i := 47) rfl) rfl
theorem n_cl_Tm_21 : Cond.classLink "AddressTerms$Term" 21 "AddressTerms$Row" ∈ aw_tw := aw_in1 (List.mem_of_getElem? (i := 48) rfl) rfl
theorem n_ml_Tm_23 : Cond.methodLink "AddressTerms$Term" 23 y_Rw_init ∈ aw_tw := aw_in1 (List.mem_of_getElem? (i := 49) rfl) rfl
theorem n_fl_Tm_26 : Cond.fieldLink "AddressTerms$Term" 26 "AddressTerms$Term" "text" "LAddressTerms$Row;" ∈ aw_tw := aw_in1 (List.mem_of_getElem? (i := 50) rfl) rfl
theorem n_fl_At_109 : Cond.fieldLink "AddressTerms" 109 "AddressTerms$Term" "text" "LAddressTerms$Row;" ∈ aw_tw := aw_in1 (List.mem_of_getElem? (i := 51) rfl) rfl
theorem n_fl_Tm_30 : Cond.fieldLink "AddressTerms$Term" 30 "AddressTerms$Term" "tag" "LAddressTerms$Row;" ∈ aw_tw := aw_in1 (List.mem_of_getElem? (i := 52) rfl) rfl
theorem n_fl_At_188 : Cond.fieldLink "AddressTerms" 188 "AddressTerms$Term" "tag" "LAddressTerms$Row;" ∈ aw_tw := aw_in1 (List.mem_of_getElem? (i := 53) rfl) rfl
theorem n_fl_Tm_9 : Cond.fieldLink "AddressTerms$Term" 9 "AddressTerms$Term" "kind" "I" ∈ aw_tw := aw_in1 (List.mem_of_getElem? (i := 54) rfl) rfl
theorem n_fl_At_125 : Cond.fieldLink "AddressTerms" 125 "AddressTerms$Term" "kind" "I" ∈ aw_tw := aw_in1 (List.mem_of_getElem? (i := 55) rfl) rfl
theorem n_fl_Tm_15 : Cond.fieldLink "AddressTerms$Term" 15 "AddressTerms$Term" "sort" "I" ∈ aw_tw := aw_in1 (List.mem_of_getElem? (i := 56) rfl) rfl
theorem n_fl_At_131 : Cond.fieldLink "AddressTerms" 131 "AddressTerms$Term" "sort" "I" ∈ aw_tw := aw_in1 (List.mem_of_getElem? (i := 57) rfl) rfl
theorem n_fl_Tm_18 : Cond.fieldLink "AddressTerms$Term" 18 "AddressTerms$Term" "number" "I" ∈ aw_tw := aw_in1 (List.mem_of_getElem? (i := 58) rfl) rfl
theorem n_fl_At_148 : Cond.fieldLink "AddressTerms" 148 "AddressTerms$Term" "number" "I" ∈ aw_tw := aw_in1 (List.mem_of_getElem? (i := 59) rfl) rfl
theorem n_la_Tm_text : Cond.laysFinal "AddressTerms$Term" "AddressTerms$Term" "text" "LAddressTerms$Row;" ∈ aw_tw := aw_in1 (List.mem_of_getElem? (i := 60) rfl) rfl
theorem n_la_Tm_tag : Cond.laysFinal "AddressTerms$Term" "AddressTerms$Term" "tag" "LAddressTerms$Row;" ∈ aw_tw := aw_in1 (List.mem_of_getElem? (i := 62) rfl) rfl
theorem n_la_Tm_kind : Cond.lays "AddressTerms$Term" "AddressTerms$Term" "kind" "I" ∈ aw_tw := aw_in1 (List.mem_of_getElem? (i := 64) rfl) rfl
theorem n_la_Tm_sort : Cond.lays "AddressTerms$Term" "AddressTerms$Term" "sort" "I" ∈ aw_tw := aw_in1 (List.mem_of_getElem? (i := 66) rfl) rfl
theorem n_la_Tm_number : Cond.lays "AddressTerms$Term" "AddressTerms$Term" "number" "I" ∈ aw_tw := aw_in1 (List.mem_of_getElem? (i := 68) rfl) rfl
theorem n_cl_At_40 : Cond.classLink "AddressTerms" 40 "AddressTerms$Reference" ∈ aw_tw := aw_in1 (List.mem_of_getElem? (i := 71) rfl) rfl
theorem n_ib_Rf : Cond.instantiable "AddressTerms$Reference" 3 ∈ aw_tw := aw_in1 (List.mem_of_getElem? (i := 72) rfl) rfl
theorem n_im_Rf_init : Cond.instanceMethod y_Rf_init ∈ aw_tw := aw_in1 (List.mem_of_getElem? (i := 74) rfl) rfl
theorem n_co_Rf_init : Cond.code y_Rf_init c_Rf_init 1 none ∈ aw_tw := aw_in1 (List.mem_of_getElem? (i := 75) rfl) rfl
theorem n_ml_Rf_3 : Cond.methodLink "AddressTerms$Reference" 3 objectInit ∈ aw_tw := aw_in1 (List.mem_of_getElem? (i := 76) rfl) rfl
theorem n_cl_Rf_18 : Cond.classLink "AddressTerms$Reference" 18 "AddressTerms$Row" ∈ aw_tw := aw_in1 (List.mem_of_getElem? (i := 77) rfl) rfl
theorem n_ml_Rf_20 : Cond.methodLink "AddressTerms$Reference" 20 y_Rw_init ∈ aw_tw := aw_in1 (List.mem_of_getElem? (i := 78) rfl) rfl
theorem n_fl_Rf_9 : Cond.fieldLink "AddressTerms$Reference" 9 "AddressTerms$Reference" "begins" "[I" ∈ aw_tw := aw_in1 (List.mem_of_getElem? (i := 79) rfl) rfl
theorem n_fl_Rf_15 : Cond.fieldLink "AddressTerms$Reference" 15 "AddressTerms$Reference" "ends" "[I" ∈ aw_tw := aw_in1 (List.mem_of_getElem? (i := 80) rfl) rfl
theorem n_fl_Rf_23 : Cond.fieldLink "AddressTerms$Reference" 23 "AddressTerms$Reference" "row" "LAddressTerms$Row;" ∈ aw_tw := aw_in1 (List.mem_of_getElem? (i := 81) rfl) rfl
theorem n_la_Rf_begins : Cond.laysFinal "AddressTerms$Reference" "AddressTerms$Reference" "begins" "[I" ∈ aw_tw := aw_in1 (List.mem_of_getElem? (i := 82) rfl) rfl
theorem n_la_Rf_ends : Cond.laysFinal "AddressTerms$Reference" "AddressTerms$Reference" "ends" "[I" ∈ aw_tw := aw_in1 (List.mem_of_getElem? (i := 84) rfl) rfl
theorem n_la_Rf_row : Cond.lays "AddressTerms$Reference" "AddressTerms$Reference" "row" "LAddressTerms$Row;" ∈ aw_tw := aw_in1 (List.mem_of_getElem? (i := 86) rfl) rfl
theorem n_ac_int : Cond.arrayClass .int ∈ aw_tw := aw_in1 (List.mem_of_getElem? (i := 89) rfl) rfl
theorem n_cl_At_50 : Cond.classLink "AddressTerms" 50 "AddressTerms$Resolver" ∈ aw_tw := aw_in1 (List.mem_of_getElem? (i := 90) rfl) rfl
theorem n_ib_Rs : Cond.instantiable "AddressTerms$Resolver" 1 ∈ aw_tw := aw_in1 (List.mem_of_getElem? (i := 91) rfl) rfl
theorem n_im_Rs_init : Cond.instanceMethod y_Rs_init ∈ aw_tw := aw_in1 (List.mem_of_getElem? (i := 93) rfl) rfl
theorem n_co_Rs_init : Cond.code y_Rs_init c_Rs_init 1 none ∈ aw_tw := aw_in1 (List.mem_of_getElem? (i := 94) rfl) rfl
theorem n_ml_Rs_3 : Cond.methodLink "AddressTerms$Resolver" 3 objectInit ∈ aw_tw := aw_in1 (List.mem_of_getElem? (i := 95) rfl) rfl
theorem n_cl_Rs_9 : Cond.classLink "AddressTerms$Resolver" 9 "AddressTerms$Row" ∈ aw_tw := aw_in1 (List.mem_of_getElem? (i := 96) rfl) rfl
theorem n_ml_Rs_11 : Cond.methodLink "AddressTerms$Resolver" 11 y_Rw_init ∈ aw_tw := aw_in1 (List.mem_of_getElem? (i := 97) rfl) rfl
theorem n_fl_Rs_14 : Cond.fieldLink "AddressTerms$Resolver" 14 "AddressTerms$Resolver" "path" "LAddressTerms$Row;" ∈ aw_tw := aw_in1 (List.mem_of_getElem? (i := 98) rfl) rfl
theorem n_la_Rs_path : Cond.laysFinal "AddressTerms$Resolver" "AddressTerms$Resolver" "path" "LAddressTerms$Row;" ∈ aw_tw := aw_in1 (List.mem_of_getElem? (i := 99) rfl) rfl
theorem n_fl_At_14 : Cond.fieldLink "AddressTerms" 14 "AddressTerms" "tape" "LAddressTerms$Row;" ∈ aw_tw := aw_in1 (List.mem_of_getElem? (i := 102) rfl) rfl
theorem n_fl_At_18 : Cond.fieldLink "AddressTerms" 18 "AddressTerms" "printed" "LAddressTerms$Row;" ∈ aw_tw := aw_in1 (List.mem_of_getElem? (i := 103) rfl) rfl
theorem n_fl_At_23 : Cond.fieldLink "AddressTerms" 23 "AddressTerms" "terms" "[LAddressTerms$Term;" ∈ aw_tw := aw_in1 (List.mem_of_getElem? (i := 104) rfl) rfl
theorem n_fl_At_29 : Cond.fieldLink "AddressTerms" 29 "AddressTerms" "prefixes" "[LAddressTerms$Prefix;" ∈ aw_tw := aw_in1 (List.mem_of_getElem? (i := 105) rfl) rfl
theorem n_fl_At_36 : Cond.fieldLink "AddressTerms" 36 "AddressTerms" "wanted" "LAddressTerms$Term;" ∈ aw_tw := aw_in1 (List.mem_of_getElem? (i := 106) rfl) rfl
theorem n_fl_At_43 : Cond.fieldLink "AddressTerms" 43 "AddressTerms" "given" "LAddressTerms$Reference;" ∈ aw_tw := aw_in1 (List.mem_of_getElem? (i := 107) rfl) rfl
theorem n_fl_At_47 : Cond.fieldLink "AddressTerms" 47 "AddressTerms" "known" "LAddressTerms$Reference;" ∈ aw_tw := aw_in1 (List.mem_of_getElem? (i := 108) rfl) rfl
theorem n_fl_At_53 : Cond.fieldLink "AddressTerms" 53 "AddressTerms" "resolver" "LAddressTerms$Resolver;" ∈ aw_tw := aw_in1 (List.mem_of_getElem? (i := 109) rfl) rfl
theorem n_fl_At_57 : Cond.fieldLink "AddressTerms" 57 "AddressTerms" "termCount" "I" ∈ aw_tw := aw_in1 (List.mem_of_getElem? (i := 110) rfl) rfl
theorem n_fl_At_61 : Cond.fieldLink "AddressTerms" 61 "AddressTerms" "prefixCount" "I" ∈ aw_tw := aw_in1 (List.mem_of_getElem? (i := 111) rfl) rfl
theorem n_fl_At_64 : Cond.fieldLink "AddressTerms" 64 "AddressTerms" "baseTerm" "I" ∈ aw_tw := aw_in1 (List.mem_of_getElem? (i := 112) rfl) rfl
theorem n_la_At_tape : Cond.laysFinal "AddressTerms" "AddressTerms" "tape" "LAddressTerms$Row;" ∈ aw_tw := aw_in1 (List.mem_of_getElem? (i := 113) rfl) rfl
theorem n_la_At_printed : Cond.laysFinal "AddressTerms" "AddressTerms" "printed" "LAddressTerms$Row;" ∈ aw_tw := aw_in1 (List.mem_of_getElem? (i := 115) rfl) rfl
theorem n_la_At_terms : Cond.laysFinal "AddressTerms" "AddressTerms" "terms" "[LAddressTerms$Term;" ∈ aw_tw := aw_in1 (List.mem_of_getElem? (i := 117) rfl) rfl
theorem n_la_At_prefixes : Cond.laysFinal "AddressTerms" "AddressTerms" "prefixes" "[LAddressTerms$Prefix;" ∈ aw_tw := aw_in1 (List.mem_of_getElem? (i := 119) rfl) rfl
theorem n_la_At_wanted : Cond.laysFinal "AddressTerms" "AddressTerms" "wanted" "LAddressTerms$Term;" ∈ aw_tw := aw_in1 (List.mem_of_getElem? (i := 121) rfl) rfl
theorem n_la_At_given : Cond.laysFinal "AddressTerms" "AddressTerms" "given" "LAddressTerms$Reference;" ∈ aw_tw := aw_in1 (List.mem_of_getElem? (i := 123) rfl) rfl
theorem n_la_At_known : Cond.laysFinal "AddressTerms" "AddressTerms" "known" "LAddressTerms$Reference;" ∈ aw_tw := aw_in1 (List.mem_of_getElem? (i := 125) rfl) rfl
theorem n_la_At_resolver : Cond.laysFinal "AddressTerms" "AddressTerms" "resolver" "LAddressTerms$Resolver;" ∈ aw_tw := aw_in1 (List.mem_of_getElem? (i := 127) rfl) rfl
theorem n_la_At_termCount : Cond.lays "AddressTerms" "AddressTerms" "termCount" "I" ∈ aw_tw := aw_in1 (List.mem_of_getElem? (i := 129) rfl) rfl
theorem n_la_At_prefixCount : Cond.lays "AddressTerms" "AddressTerms" "prefixCount" "I" ∈ aw_tw := aw_in1 (List.mem_of_getElem? (i := 131) rfl) rfl
theorem n_la_At_baseTerm : Cond.lays "AddressTerms" "AddressTerms" "baseTerm" "I" ∈ aw_tw := aw_in1 (List.mem_of_getElem? (i := 133) rfl) rfl
theorem n_ml_Lw_15 : Cond.methodLink "AddressTermsLaw" 15 y_At_type ∈ aw_tw := aw_in1 (List.mem_of_getElem? (i := 136) rfl) rfl
theorem n_im_At_type : Cond.instanceMethod y_At_type ∈ aw_tw := aw_in1 (List.mem_of_getElem? (i := 137) rfl) rfl
theorem n_se_At_type : Cond.selects (y_At_type).cls y_At_type y_At_type ∈ aw_tw := aw_in1 (List.mem_of_getElem? (i := 138) rfl) rfl
theorem n_co_At_type : Cond.code y_At_type c_At_type 5 (some .int) ∈ aw_tw := aw_in1 (List.mem_of_getElem? (i := 139) rfl) rfl
theorem n_ml_At_67 : Cond.methodLink "AddressTerms" 67 y_At_byteOf ∈ aw_tw := aw_in1 (List.mem_of_getElem? (i := 140) rfl) rfl
theorem n_st_At_byteOf : Cond.static y_At_byteOf ∈ aw_tw := aw_in1 (List.mem_of_getElem? (i := 141) rfl) rfl
theorem n_co_At_byteOf : Cond.code y_At_byteOf c_At_byteOf 3 (some .int) ∈ aw_tw := aw_in1 (List.mem_of_getElem? (i := 142) rfl) rfl
theorem n_ct_At_246 : Cond.constantLong "AddressTerms" 246 (255) ∈ aw_tw := aw_in1 (List.mem_of_getElem? (i := 143) rfl) rfl
theorem n_ml_At_71 : Cond.methodLink "AddressTerms" 71 y_At_isTapeByte ∈ aw_tw := aw_in1 (List.mem_of_getElem? (i := 144) rfl) rfl
theorem n_st_At_isTapeByte : Cond.static y_At_isTapeByte ∈ aw_tw := aw_in1 (List.mem_of_getElem? (i := 145) rfl) rfl
theorem n_co_At_isTapeByte : Cond.code y_At_isTapeByte c_At_isTapeByte 1 (some .boolean) ∈ aw_tw := aw_in1 (List.mem_of_getElem? (i := 146) rfl) rfl
theorem n_ml_At_75 : Cond.methodLink "AddressTerms" 75 y_Rw_size ∈ aw_tw := aw_in1 (List.mem_of_getElem? (i := 147) rfl) rfl
theorem n_im_Rw_size : Cond.instanceMethod y_Rw_size ∈ aw_tw := aw_in1 (List.mem_of_getElem? (i := 148) rfl) rfl
theorem n_se_Rw_size : Cond.selects (y_Rw_size).cls y_Rw_size y_Rw_size ∈ aw_tw := aw_in1 (List.mem_of_getElem? (i := 149) rfl) rfl
theorem n_co_Rw_size : Cond.code y_Rw_size c_Rw_size 1 (some .int) ∈ aw_tw := aw_in1 (List.mem_of_getElem? (i := 150) rfl) rfl
theorem n_ml_At_79 : Cond.methodLink "AddressTerms" 79 y_Rw_add ∈ aw_tw := aw_in1 (List.mem_of_getElem? (i := 151) rfl) rfl
theorem n_im_Rw_add : Cond.instanceMethod y_Rw_add ∈ aw_tw := aw_in1 (List.mem_of_getElem? (i := 152) rfl) rfl
theorem n_se_Rw_add : Cond.selects (y_Rw_add).cls y_Rw_add y_Rw_add ∈ aw_tw := aw_in1 (List.mem_of_getElem? (i := 153) rfl) rfl
theorem n_co_Rw_add : Cond.code y_Rw_add c_Rw_add 2 none ∈ aw_tw := aw_in1 (List.mem_of_getElem? (i := 154) rfl) rfl
theorem n_ml_Lw_20 : Cond.methodLink "AddressTermsLaw" 20 y_At_resolve ∈ aw_tw := aw_in1 (List.mem_of_getElem? (i := 155) rfl) rfl
theorem n_im_At_resolve : Cond.instanceMethod y_At_resolve ∈ aw_tw := aw_in1 (List.mem_of_getElem? (i := 156) rfl) rfl
theorem n_se_At_resolve : Cond.selects (y_At_resolve).cls y_At_resolve y_At_resolve ∈ aw_tw := aw_in1 (List.mem_of_getElem? (i := 157) rfl) rfl
theorem n_co_At_resolve : Cond.code y_At_resolve c_At_resolve 2 (some .int) ∈ aw_tw := aw_in1 (List.mem_of_getElem? (i := 158) rfl) rfl
theorem n_ml_At_82 : Cond.methodLink "AddressTerms" 82 y_At_addressOnTape ∈ aw_tw := aw_in1 (List.mem_of_getElem? (i := 159) rfl) rfl
theorem n_im_At_addressOnTape : Cond.instanceMethod y_At_addressOnTape ∈ aw_tw := aw_in1 (List.mem_of_getElem? (i := 161) rfl) rfl
theorem n_co_At_addressOnTape : Cond.code y_At_addressOnTape c_At_addressOnTape 3 (some .int) ∈ aw_tw := aw_in1 (List.mem_of_getElem? (i := 162) rfl) rfl
theorem n_ml_At_169 : Cond.methodLink "AddressTerms" 169 y_At_wrongInReference ∈ aw_tw := aw_in1 (List.mem_of_getElem? (i := 163) rfl) rfl
theorem n_st_At_wrongInReference : Cond.static y_At_wrongInReference ∈ aw_tw := aw_in1 (List.mem_of_getElem? (i := 164) rfl) rfl
theorem n_co_At_wrongInReference : Cond.code y_At_wrongInReference c_At_wrongInReference 3 (some .int) ∈ aw_tw := aw_in1 (List.mem_of_getElem? (i := 165) rfl) rfl
theorem n_ml_At_162 : Cond.methodLink "AddressTerms" 162 y_Rw_byteAt ∈ aw_tw := aw_in1 (List.mem_of_getElem? (i := 166) rfl) rfl
theorem n_im_Rw_byteAt : Cond.instanceMethod y_Rw_byteAt ∈ aw_tw := aw_in1 (List.mem_of_getElem? (i := 167) rfl) rfl
theorem n_se_Rw_byteAt : Cond.selects (y_Rw_byteAt).cls y_Rw_byteAt y_Rw_byteAt ∈ aw_tw := aw_in1 (List.mem_of_getElem? (i := 168) rfl) rfl
theorem n_co_Rw_byteAt : Cond.code y_Rw_byteAt c_Rw_byteAt 2 (some .int) ∈ aw_tw := aw_in1 (List.mem_of_getElem? (i := 169) rfl) rfl
theorem n_ml_At_267 : Cond.methodLink "AddressTerms" 267 y_At_isReferenceByte ∈ aw_tw := aw_in1 (List.mem_of_getElem? (i := 170) rfl) rfl
theorem n_st_At_isReferenceByte : Cond.static y_At_isReferenceByte ∈ aw_tw := aw_in1 (List.mem_of_getElem? (i := 171) rfl) rfl
theorem n_co_At_isReferenceByte : Cond.code y_At_isReferenceByte c_At_isReferenceByte 1 (some .boolean) ∈ aw_tw := aw_in1 (List.mem_of_getElem? (i := 172) rfl) rfl
theorem n_ml_At_250 : Cond.methodLink "AddressTerms" 250 y_Js_indexOf1 ∈ aw_tw := aw_in1 (List.mem_of_getElem? (i := 174) rfl) rfl
theorem n_im_Js_indexOf1 : Cond.instanceMethod y_Js_indexOf1 ∈ aw_tw := aw_in1 (List.mem_of_getElem? (i := 175) rfl) rfl
theorem n_se_Js_indexOf1 : Cond.selects (y_Js_indexOf1).cls y_Js_indexOf1 y_Js_indexOf1 ∈ aw_tw := aw_in1 (List.mem_of_getElem? (i := 176) rfl) rfl
theorem n_co_Js_indexOf1 : Cond.code y_Js_indexOf1 c_Js_indexOf1 2 (some .int) ∈ aw_tw := aw_in1 (List.mem_of_getElem? (i := 177) rfl) rfl
theorem n_ml_Js_633 : Cond.methodLink "java/lang/String" 633 y_Js_indexOf2 ∈ aw_tw := aw_in1 (List.mem_of_getElem? (i := 178) rfl) rfl
theorem n_im_Js_indexOf2 : Cond.instanceMethod y_Js_indexOf2 ∈ aw_tw := aw_in1 (List.mem_of_getElem? (i := 179) rfl) rfl
theorem n_se_Js_indexOf2 : Cond.selects (y_Js_indexOf2).cls y_Js_indexOf2 y_Js_indexOf2 ∈ aw_tw := aw_in1 (List.mem_of_getElem? (i := 180) rfl) rfl
theorem n_co_Js_indexOf2 : Cond.code y_Js_indexOf2 c_Js_indexOf2 3 (some .int) ∈ aw_tw := aw_in1 (List.mem_of_getElem? (i := 181) rfl) rfl
theorem n_ml_Js_492 : Cond.methodLink "java/lang/String" 492 y_Js_isLatin1 ∈ aw_tw := aw_in1 (List.mem_of_getElem? (i := 182) rfl) rfl
theorem n_im_Js_isLatin1 : Cond.instanceMethod y_Js_isLatin1 ∈ aw_tw := aw_in1 (List.mem_of_getElem? (i := 183) rfl) rfl
theorem n_se_Js_isLatin1 : Cond.selects (y_Js_isLatin1).cls y_Js_isLatin1 y_Js_isLatin1 ∈ aw_tw := aw_in1 (List.mem_of_getElem? (i := 184) rfl) rfl
theorem n_co_Js_isLatin1 : Cond.code y_Js_isLatin1 c_Js_isLatin1 1 (some .boolean) ∈ aw_tw := aw_in1 (List.mem_of_getElem? (i := 185) rfl) rfl
theorem n_fl_Js_38 : Cond.fieldLink "java/lang/String" 38 "java/lang/String" "COMPACT_STRINGS" "Z" ∈ aw_tw := aw_in1 (List.mem_of_getElem? (i := 186) rfl) rfl
theorem n_ml_Js_505 : Cond.methodLink "java/lang/String" 505 y_Js_length ∈ aw_tw := aw_in1 (List.mem_of_getElem? (i := 188) rfl) rfl
theorem n_im_Js_length : Cond.instanceMethod y_Js_length ∈ aw_tw := aw_in1 (List.mem_of_getElem? (i := 189) rfl) rfl
theorem n_se_Js_length : Cond.selects (y_Js_length).cls y_Js_length y_Js_length ∈ aw_tw := aw_in1 (List.mem_of_getElem? (i := 190) rfl) rfl
theorem n_co_Js_length : Cond.code y_Js_length c_Js_length 1 (some .int) ∈ aw_tw := aw_in1 (List.mem_of_getElem? (i := 191) rfl) rfl
theorem n_ml_Js_335 : Cond.methodLink "java/lang/String" 335 y_Js_coder ∈ aw_tw := aw_in1 (List.mem_of_getElem? (i := 192) rfl) rfl
theorem n_im_Js_coder : Cond.instanceMethod y_Js_coder ∈ aw_tw := aw_in1 (List.mem_of_getElem? (i := 193) rfl) rfl
theorem n_se_Js_coder : Cond.selects (y_Js_coder).cls y_Js_coder y_Js_coder ∈ aw_tw := aw_in1 (List.mem_of_getElem? (i := 194) rfl) rfl
theorem n_co_Js_coder : Cond.code y_Js_coder c_Js_coder 1 (some .byte) ∈ aw_tw := aw_in1 (List.mem_of_getElem? (i := 195) rfl) rfl
theorem n_ml_Js_637 : Cond.methodLink "java/lang/String" 637 y_Jl_indexOf ∈ aw_tw := aw_in1 (List.mem_of_getElem? (i := 196) rfl) rfl
theorem n_st_Jl_indexOf : Cond.static y_Jl_indexOf ∈ aw_tw := aw_in1 (List.mem_of_getElem? (i := 197) rfl) rfl
theorem n_co_Jl_indexOf : Cond.code y_Jl_indexOf c_Jl_indexOf 4 (some .int) ∈ aw_tw := aw_in1 (List.mem_of_getElem? (i := 198) rfl) rfl
theorem n_ml_Jl_88 : Cond.methodLink "java/lang/StringLatin1" 88 y_Jl_canEncode ∈ aw_tw := aw_in1 (List.mem_of_getElem? (i := 199) rfl) rfl
theorem n_st_Jl_canEncode : Cond.static y_Jl_canEncode ∈ aw_tw := aw_in1 (List.mem_of_getElem? (i := 200) rfl) rfl
theorem n_co_Jl_canEncode : Cond.code y_Jl_canEncode c_Jl_canEncode 1 (some .boolean) ∈ aw_tw := aw_in1 (List.mem_of_getElem? (i := 201) rfl) rfl
theorem n_ml_Jl_92 : Cond.methodLink "java/lang/StringLatin1" 92 Lib.Math.max.name ∈ aw_tw := aw_in1 (List.mem_of_getElem? (i := 202) rfl) rfl
theorem n_ml_Jl_38 : Cond.methodLink "java/lang/StringLatin1" 38 Lib.Math.min.name ∈ aw_tw := aw_in1 (List.mem_of_getElem? (i := 203) rfl) rfl
theorem n_st_Jm_min : Cond.static Lib.Math.min.name ∈ aw_tw := aw_in1 (List.mem_of_getElem? (i := 204) rfl) rfl
theorem n_co_Jm_min : Cond.code Lib.Math.min.name Lib.Math.min.code 2 (some .int) ∈ aw_tw := aw_in1 (List.mem_of_getElem? (i := 205) rfl) rfl
theorem n_ml_Jl_95 : Cond.methodLink "java/lang/StringLatin1" 95 y_Jl_indexOfChar ∈ aw_tw := aw_in1 (List.mem_of_getElem? (i := 206) rfl) rfl
theorem n_st_Jl_indexOfChar : Cond.static y_Jl_indexOfChar ∈ aw_tw := aw_in1 (List.mem_of_getElem? (i := 207) rfl) rfl
theorem n_co_Jl_indexOfChar : Cond.code y_Jl_indexOfChar c_Jl_indexOfChar 6 (some .int) ∈ aw_tw := aw_in1 (List.mem_of_getElem? (i := 208) rfl) rfl
theorem n_st_Js_checkBoundsBeginEnd : Cond.static y_Js_checkBoundsBeginEnd ∈ aw_tw := aw_in1 (List.mem_of_getElem? (i := 225) rfl) rfl
theorem n_co_Js_checkBoundsBeginEnd : Cond.code y_Js_checkBoundsBeginEnd c_Js_checkBoundsBeginEnd 3 none ∈ aw_tw := aw_in1 (List.mem_of_getElem? (i := 226) rfl) rfl
theorem n_ml_At_270 : Cond.methodLink "AddressTerms" 270 y_At_hexValue ∈ aw_tw := aw_in2 (List.mem_of_getElem? (i := 18) rfl) rfl
theorem n_st_At_hexValue : Cond.static y_At_hexValue ∈ aw_tw := aw_in2 (List.mem_of_getElem? (i := 19) rfl) rfl
theorem n_co_At_hexValue : Cond.code y_At_hexValue c_At_hexValue 1 (some .int) ∈ aw_tw := aw_in2 (List.mem_of_getElem? (i := 20) rfl) rfl
theorem n_ml_At_264 : Cond.methodLink "AddressTerms" 264 y_At_isDigit ∈ aw_tw := aw_in2 (List.mem_of_getElem? (i := 21) rfl) rfl
theorem n_st_At_isDigit : Cond.static y_At_isDigit ∈ aw_tw := aw_in2 (List.mem_of_getElem? (i := 22) rfl) rfl
theorem n_co_At_isDigit : Cond.code y_At_isDigit c_At_isDigit 1 (some .boolean) ∈ aw_tw := aw_in2 (List.mem_of_getElem? (i := 23) rfl) rfl
theorem n_ml_At_112 : Cond.methodLink "AddressTerms" 112 y_Rf_read ∈ aw_tw := aw_in2 (List.mem_of_getElem? (i := 24) rfl) rfl
theorem n_im_Rf_read : Cond.instanceMethod y_Rf_read ∈ aw_tw := aw_in2 (List.mem_of_getElem? (i := 25) rfl) rfl
theorem n_se_Rf_read : Cond.selects (y_Rf_read).cls y_Rf_read y_Rf_read ∈ aw_tw := aw_in2 (List.mem_of_getElem? (i := 26) rfl) rfl
theorem n_co_Rf_read : Cond.code y_Rf_read c_Rf_read 6 none ∈ aw_tw := aw_in2 (List.mem_of_getElem? (i := 27) rfl) rfl
theorem n_ml_Rf_27 : Cond.methodLink "AddressTerms$Reference" 27 y_Rf_note ∈ aw_tw := aw_in2 (List.mem_of_getElem? (i := 28) rfl) rfl
theorem n_im_Rf_note : Cond.instanceMethod y_Rf_note ∈ aw_tw := aw_in2 (List.mem_of_getElem? (i := 30) rfl) rfl
theorem n_co_Rf_note : Cond.code y_Rf_note c_Rf_note 4 none ∈ aw_tw := aw_in2 (List.mem_of_getElem? (i := 31) rfl) rfl
theorem n_ml_Rf_31 : Cond.methodLink "AddressTerms$Reference" 31 y_Rf_colonOfScheme ∈ aw_tw := aw_in2 (List.mem_of_getElem? (i := 32) rfl) rfl
theorem n_im_Rf_colonOfScheme : Cond.instanceMethod y_Rf_colonOfScheme ∈ aw_tw := aw_in2 (List.mem_of_getElem? (i := 34) rfl) rfl
theorem n_co_Rf_colonOfScheme : Cond.code y_Rf_colonOfScheme c_Rf_colonOfScheme 3 (some .int) ∈ aw_tw := aw_in2 (List.mem_of_getElem? (i := 35) rfl) rfl
theorem n_ml_Rf_51 : Cond.methodLink "AddressTerms$Reference" 51 y_Rw_byteAt ∈ aw_tw := aw_in2 (List.mem_of_getElem? (i := 36) rfl) rfl
theorem n_st_At_isLetter : Cond.static y_At_isLetter ∈ aw_tw := aw_in2 (List.mem_of_getElem? (i := 38) rfl) rfl
theorem n_co_At_isLetter : Cond.code y_At_isLetter c_At_isLetter 1 (some .boolean) ∈ aw_tw := aw_in2 (List.mem_of_getElem? (i := 39) rfl) rfl
theorem n_ml_At_255 : Cond.methodLink "AddressTerms" 255 y_At_isSmallLetter ∈ aw_tw := aw_in2 (List.mem_of_getElem? (i := 40) rfl) rfl
theorem n_st_At_isSmallLetter : Cond.static y_At_isSmallLetter ∈ aw_tw := aw_in2 (List.mem_of_getElem? (i := 41) rfl) rfl
theorem n_co_At_isSmallLetter : Cond.code y_At_isSmallLetter c_At_isSmallLetter 1 (some .boolean) ∈ aw_tw := aw_in2 (List.mem_of_getElem? (i := 42) rfl) rfl
theorem n_ml_At_258 : Cond.methodLink "AddressTerms" 258 y_At_isGreatLetter ∈ aw_tw := aw_in2 (List.mem_of_getElem? (i := 43) rfl) rfl
theorem n_st_At_isGreatLetter : Cond.static y_At_isGreatLetter ∈ aw_tw := aw_in2 (List.mem_of_getElem? (i := 44) rfl) rfl
theorem n_co_At_isGreatLetter : Cond.code y_At_isGreatLetter c_At_isGreatLetter 1 (some .boolean) ∈ aw_tw := aw_in2 (List.mem_of_getElem? (i := 45) rfl) rfl
theorem n_ml_Rf_55 : Cond.methodLink "AddressTerms$Reference" 55 y_Rw_size ∈ aw_tw := aw_in2 (List.mem_of_getElem? (i := 46) rfl) rfl
theorem n_st_At_isLetterOrDigit : Cond.static y_At_isLetterOrDigit ∈ aw_tw := aw_in2 (List.mem_of_getElem? (i := 48) rfl) rfl
theorem n_co_At_isLetterOrDigit : Cond.code y_At_isLetterOrDigit c_At_isLetterOrDigit 1 (some .boolean) ∈ aw_tw := aw_in2 (List.mem_of_getElem? (i := 49) rfl) rfl
theorem n_ml_At_261 : Cond.methodLink "AddressTerms" 261 y_At_isLetter ∈ aw_tw := aw_in2 (List.mem_of_getElem? (i := 50) rfl) rfl
theorem n_ml_Rf_37 : Cond.methodLink "AddressTerms$Reference" 37 y_Rw_hasThere ∈ aw_tw := aw_in2 (List.mem_of_getElem? (i := 52) rfl) rfl
theorem n_im_Rw_hasThere : Cond.instanceMethod y_Rw_hasThere ∈ aw_tw := aw_in2 (List.mem_of_getElem? (i := 53) rfl) rfl
theorem n_se_Rw_hasThere : Cond.selects (y_Rw_hasThere).cls y_Rw_hasThere y_Rw_hasThere ∈ aw_tw := aw_in2 (List.mem_of_getElem? (i := 54) rfl) rfl
theorem n_co_Rw_hasThere : Cond.code y_Rw_hasThere c_Rw_hasThere 4 (some .boolean) ∈ aw_tw := aw_in2 (List.mem_of_getElem? (i := 55) rfl) rfl
theorem n_ml_Rw_36 : Cond.methodLink "AddressTerms$Row" 36 y_Js_length ∈ aw_tw := aw_in2 (List.mem_of_getElem? (i := 56) rfl) rfl
theorem n_ml_Rw_28 : Cond.methodLink "AddressTerms$Row" 28 y_Rw_byteAt ∈ aw_tw := aw_in2 (List.mem_of_getElem? (i := 57) rfl) rfl
theorem n_ml_Rw_41 : Cond.methodLink "AddressTerms$Row" 41 y_Js_charAt ∈ aw_tw := aw_in2 (List.mem_of_getElem? (i := 58) rfl) rfl
theorem n_im_Js_charAt : Cond.instanceMethod y_Js_charAt ∈ aw_tw := aw_in2 (List.mem_of_getElem? (i := 59) rfl) rfl
theorem n_se_Js_charAt : Cond.selects (y_Js_charAt).cls y_Js_charAt y_Js_charAt ∈ aw_tw := aw_in2 (List.mem_of_getElem? (i := 60) rfl) rfl
theorem n_co_Js_charAt : Cond.code y_Js_charAt c_Js_charAt 2 (some .char) ∈ aw_tw := aw_in2 (List.mem_of_getElem? (i := 61) rfl) rfl
theorem n_ml_Js_495 : Cond.methodLink "java/lang/String" 495 y_Jl_charAt ∈ aw_tw := aw_in2 (List.mem_of_getElem? (i := 62) rfl) rfl
theorem n_st_Jl_charAt : Cond.static y_Jl_charAt ∈ aw_tw := aw_in2 (List.mem_of_getElem? (i := 63) rfl) rfl
theorem n_co_Jl_charAt : Cond.code y_Jl_charAt c_Jl_charAt 2 (some .char) ∈ aw_tw := aw_in2 (List.mem_of_getElem? (i := 64) rfl) rfl
theorem n_ml_Jl_9 : Cond.methodLink "java/lang/StringLatin1" 9 y_Js_checkIndex ∈ aw_tw := aw_in2 (List.mem_of_getElem? (i := 65) rfl) rfl
theorem n_st_Js_checkIndex : Cond.static y_Js_checkIndex ∈ aw_tw := aw_in2 (List.mem_of_getElem? (i := 66) rfl) rfl
theorem n_co_Js_checkIndex : Cond.code y_Js_checkIndex c_Js_checkIndex 2 none ∈ aw_tw := aw_in2 (List.mem_of_getElem? (i := 67) rfl) rfl
theorem n_ml_Rf_43 : Cond.methodLink "AddressTerms$Reference" 43 y_Rw_nextOf ∈ aw_tw := aw_in2 (List.mem_of_getElem? (i := 79) rfl) rfl
theorem n_im_Rw_nextOf : Cond.instanceMethod y_Rw_nextOf ∈ aw_tw := aw_in2 (List.mem_of_getElem? (i := 80) rfl) rfl
theorem n_se_Rw_nextOf : Cond.selects (y_Rw_nextOf).cls y_Rw_nextOf y_Rw_nextOf ∈ aw_tw := aw_in2 (List.mem_of_getElem? (i := 81) rfl) rfl
theorem n_co_Rw_nextOf : Cond.code y_Rw_nextOf c_Rw_nextOf 4 (some .int) ∈ aw_tw := aw_in2 (List.mem_of_getElem? (i := 82) rfl) rfl
theorem n_ml_Rw_58 : Cond.methodLink "AddressTerms$Row" 58 y_Js_indexOf1 ∈ aw_tw := aw_in2 (List.mem_of_getElem? (i := 83) rfl) rfl
theorem n_ml_At_88 : Cond.methodLink "AddressTerms" 88 y_At_addressAt ∈ aw_tw := aw_in2 (List.mem_of_getElem? (i := 86) rfl) rfl
theorem n_im_At_addressAt : Cond.instanceMethod y_At_addressAt ∈ aw_tw := aw_in2 (List.mem_of_getElem? (i := 88) rfl) rfl
theorem n_co_At_addressAt : Cond.code y_At_addressAt c_At_addressAt 3 (some (.object "AddressTerms$Term")) ∈ aw_tw := aw_in2 (List.mem_of_getElem? (i := 89) rfl) rfl
theorem n_ml_At_122 : Cond.methodLink "AddressTerms" 122 y_At_termAt ∈ aw_tw := aw_in2 (List.mem_of_getElem? (i := 90) rfl) rfl
theorem n_im_At_termAt : Cond.instanceMethod y_At_termAt ∈ aw_tw := aw_in2 (List.mem_of_getElem? (i := 92) rfl) rfl
theorem n_co_At_termAt : Cond.code y_At_termAt c_At_termAt 2 (some (.object "AddressTerms$Term")) ∈ aw_tw := aw_in2 (List.mem_of_getElem? (i := 93) rfl) rfl
theorem n_ml_At_116 : Cond.methodLink "AddressTerms" 116 y_Rf_has ∈ aw_tw := aw_in2 (List.mem_of_getElem? (i := 94) rfl) rfl
theorem n_im_Rf_has : Cond.instanceMethod y_Rf_has ∈ aw_tw := aw_in2 (List.mem_of_getElem? (i := 95) rfl) rfl
theorem n_se_Rf_has : Cond.selects (y_Rf_has).cls y_Rf_has y_Rf_has ∈ aw_tw := aw_in2 (List.mem_of_getElem? (i := 96) rfl) rfl
theorem n_co_Rf_has : Cond.code y_Rf_has c_Rf_has 2 (some .boolean) ∈ aw_tw := aw_in2 (List.mem_of_getElem? (i := 97) rfl) rfl
theorem n_ml_Rf_65 : Cond.methodLink "AddressTerms$Reference" 65 y_Rf_endOf ∈ aw_tw := aw_in2 (List.mem_of_getElem? (i := 98) rfl) rfl
theorem n_im_Rf_endOf : Cond.instanceMethod y_Rf_endOf ∈ aw_tw := aw_in2 (List.mem_of_getElem? (i := 100) rfl) rfl
theorem n_co_Rf_endOf : Cond.code y_Rf_endOf c_Rf_endOf 2 (some .int) ∈ aw_tw := aw_in2 (List.mem_of_getElem? (i := 101) rfl) rfl
theorem n_ml_At_92 : Cond.methodLink "AddressTerms" 92 y_Tm_begin ∈ aw_tw := aw_in2 (List.mem_of_getElem? (i := 102) rfl) rfl
theorem n_im_Tm_begin : Cond.instanceMethod y_Tm_begin ∈ aw_tw := aw_in2 (List.mem_of_getElem? (i := 103) rfl) rfl
theorem n_se_Tm_begin : Cond.selects (y_Tm_begin).cls y_Tm_begin y_Tm_begin ∈ aw_tw := aw_in2 (List.mem_of_getElem? (i := 104) rfl) rfl
theorem n_co_Tm_begin : Cond.code y_Tm_begin c_Tm_begin 4 none ∈ aw_tw := aw_in2 (List.mem_of_getElem? (i := 105) rfl) rfl
theorem n_ml_Tm_33 : Cond.methodLink "AddressTerms$Term" 33 y_Rw_cutTo ∈ aw_tw := aw_in2 (List.mem_of_getElem? (i := 106) rfl) rfl
theorem n_im_Rw_cutTo : Cond.instanceMethod y_Rw_cutTo ∈ aw_tw := aw_in2 (List.mem_of_getElem? (i := 107) rfl) rfl
theorem n_se_Rw_cutTo : Cond.selects (y_Rw_cutTo).cls y_Rw_cutTo y_Rw_cutTo ∈ aw_tw := aw_in2 (List.mem_of_getElem? (i := 108) rfl) rfl
theorem n_co_Rw_cutTo : Cond.code y_Rw_cutTo c_Rw_cutTo 2 none ∈ aw_tw := aw_in2 (List.mem_of_getElem? (i := 109) rfl) rfl
theorem n_ml_At_173 : Cond.methodLink "AddressTerms" 173 y_Rw_addRange ∈ aw_tw := aw_in2 (List.mem_of_getElem? (i := 110) rfl) rfl
theorem n_im_Rw_addRange : Cond.instanceMethod y_Rw_addRange ∈ aw_tw := aw_in2 (List.mem_of_getElem? (i := 111) rfl) rfl
theorem n_se_Rw_addRange : Cond.selects (y_Rw_addRange).cls y_Rw_addRange y_Rw_addRange ∈ aw_tw := aw_in2 (List.mem_of_getElem? (i := 112) rfl) rfl
theorem n_co_Rw_addRange : Cond.code y_Rw_addRange c_Rw_addRange 6 none ∈ aw_tw := aw_in2 (List.mem_of_getElem? (i := 113) rfl) rfl
theorem n_ml_Rw_25 : Cond.methodLink "AddressTerms$Row" 25 Lib.Math.min.name ∈ aw_tw := aw_in2 (List.mem_of_getElem? (i := 114) rfl) rfl
theorem n_ml_Rw_32 : Cond.methodLink "AddressTerms$Row" 32 y_Rw_add ∈ aw_tw := aw_in2 (List.mem_of_getElem? (i := 115) rfl) rfl
theorem n_ml_At_177 : Cond.methodLink "AddressTerms" 177 y_Rs_resolveTo ∈ aw_tw := aw_in2 (List.mem_of_getElem? (i := 116) rfl) rfl
theorem n_im_Rs_resolveTo : Cond.instanceMethod y_Rs_resolveTo ∈ aw_tw := aw_in2 (List.mem_of_getElem? (i := 117) rfl) rfl
theorem n_se_Rs_resolveTo : Cond.selects (y_Rs_resolveTo).cls y_Rs_resolveTo y_Rs_resolveTo ∈ aw_tw := aw_in2 (List.mem_of_getElem? (i := 118) rfl) rfl
theorem n_co_Rs_resolveTo : Cond.code y_Rs_resolveTo c_Rs_resolveTo 8 none ∈ aw_tw := aw_in2 (List.mem_of_getElem? (i := 119) rfl) rfl
theorem n_ml_Rs_20 : Cond.methodLink "AddressTerms$Resolver" 20 y_Rf_has ∈ aw_tw := aw_in2 (List.mem_of_getElem? (i := 120) rfl) rfl
theorem n_ml_Rs_26 : Cond.methodLink "AddressTerms$Resolver" 26 y_Rf_lengthOf ∈ aw_tw := aw_in2 (List.mem_of_getElem? (i := 121) rfl) rfl
theorem n_im_Rf_lengthOf : Cond.instanceMethod y_Rf_lengthOf ∈ aw_tw := aw_in2 (List.mem_of_getElem? (i := 122) rfl) rfl
theorem n_se_Rf_lengthOf : Cond.selects (y_Rf_lengthOf).cls y_Rf_lengthOf y_Rf_lengthOf ∈ aw_tw := aw_in2 (List.mem_of_getElem? (i := 123) rfl) rfl
theorem n_co_Rf_lengthOf : Cond.code y_Rf_lengthOf c_Rf_lengthOf 2 (some .int) ∈ aw_tw := aw_in2 (List.mem_of_getElem? (i := 124) rfl) rfl
theorem n_ml_Rf_68 : Cond.methodLink "AddressTerms$Reference" 68 y_Rf_has ∈ aw_tw := aw_in2 (List.mem_of_getElem? (i := 125) rfl) rfl
theorem n_ml_Rf_71 : Cond.methodLink "AddressTerms$Reference" 71 y_Rf_beginOf ∈ aw_tw := aw_in2 (List.mem_of_getElem? (i := 126) rfl) rfl
theorem n_im_Rf_beginOf : Cond.instanceMethod y_Rf_beginOf ∈ aw_tw := aw_in2 (List.mem_of_getElem? (i := 128) rfl) rfl
theorem n_co_Rf_beginOf : Cond.code y_Rf_beginOf c_Rf_beginOf 2 (some .int) ∈ aw_tw := aw_in2 (List.mem_of_getElem? (i := 129) rfl) rfl
theorem n_ml_Rs_30 : Cond.methodLink "AddressTerms$Resolver" 30 y_Rf_copyTo ∈ aw_tw := aw_in2 (List.mem_of_getElem? (i := 130) rfl) rfl
theorem n_im_Rf_copyTo : Cond.instanceMethod y_Rf_copyTo ∈ aw_tw := aw_in2 (List.mem_of_getElem? (i := 131) rfl) rfl
theorem n_se_Rf_copyTo : Cond.selects (y_Rf_copyTo).cls y_Rf_copyTo y_Rf_copyTo ∈ aw_tw := aw_in2 (List.mem_of_getElem? (i := 132) rfl) rfl
theorem n_co_Rf_copyTo : Cond.code y_Rf_copyTo c_Rf_copyTo 3 none ∈ aw_tw := aw_in2 (List.mem_of_getElem? (i := 133) rfl) rfl
theorem n_ml_Rf_77 : Cond.methodLink "AddressTerms$Reference" 77 y_Rw_addRange ∈ aw_tw := aw_in2 (List.mem_of_getElem? (i := 134) rfl) rfl
theorem n_ml_Rs_34 : Cond.methodLink "AddressTerms$Resolver" 34 y_Rw_add ∈ aw_tw := aw_in2 (List.mem_of_getElem? (i := 135) rfl) rfl
theorem n_ml_Rs_39 : Cond.methodLink "AddressTerms$Resolver" 39 y_Rs_addBehind ∈ aw_tw := aw_in2 (List.mem_of_getElem? (i := 137) rfl) rfl
theorem n_st_Rs_addBehind : Cond.static y_Rs_addBehind ∈ aw_tw := aw_in2 (List.mem_of_getElem? (i := 138) rfl) rfl
theorem n_co_Rs_addBehind : Cond.code y_Rs_addBehind c_Rs_addBehind 4 none ∈ aw_tw := aw_in2 (List.mem_of_getElem? (i := 139) rfl) rfl
theorem n_ml_Rs_55 : Cond.methodLink "AddressTerms$Resolver" 55 y_Rw_addText ∈ aw_tw := aw_in2 (List.mem_of_getElem? (i := 140) rfl) rfl
theorem n_im_Rw_addText : Cond.instanceMethod y_Rw_addText ∈ aw_tw := aw_in2 (List.mem_of_getElem? (i := 141) rfl) rfl
theorem n_se_Rw_addText : Cond.selects (y_Rw_addText).cls y_Rw_addText y_Rw_addText ∈ aw_tw := aw_in2 (List.mem_of_getElem? (i := 142) rfl) rfl
theorem n_co_Rw_addText : Cond.code y_Rw_addText c_Rw_addText 3 none ∈ aw_tw := aw_in2 (List.mem_of_getElem? (i := 143) rfl) rfl
theorem n_ml_Rs_43 : Cond.methodLink "AddressTerms$Resolver" 43 y_Rs_gatherPath ∈ aw_tw := aw_in2 (List.mem_of_getElem? (i := 144) rfl) rfl
theorem n_im_Rs_gatherPath : Cond.instanceMethod y_Rs_gatherPath ∈ aw_tw := aw_in2 (List.mem_of_getElem? (i := 146) rfl) rfl
theorem n_co_Rs_gatherPath : Cond.code y_Rs_gatherPath c_Rs_gatherPath 4 none ∈ aw_tw := aw_in2 (List.mem_of_getElem? (i := 147) rfl) rfl
theorem n_ml_Rs_59 : Cond.methodLink "AddressTerms$Resolver" 59 y_Rw_cutTo ∈ aw_tw := aw_in2 (List.mem_of_getElem? (i := 148) rfl) rfl
theorem n_ml_Rs_62 : Cond.methodLink "AddressTerms$Resolver" 62 y_Rf_hasPathFromTop ∈ aw_tw := aw_in2 (List.mem_of_getElem? (i := 149) rfl) rfl
theorem n_im_Rf_hasPathFromTop : Cond.instanceMethod y_Rf_hasPathFromTop ∈ aw_tw := aw_in2 (List.mem_of_getElem? (i := 150) rfl) rfl
theorem n_se_Rf_hasPathFromTop : Cond.selects (y_Rf_hasPathFromTop).cls y_Rf_hasPathFromTop y_Rf_hasPathFromTop ∈ aw_tw := aw_in2 (List.mem_of_getElem? (i := 151) rfl) rfl
theorem n_co_Rf_hasPathFromTop : Cond.code y_Rf_hasPathFromTop c_Rf_hasPathFromTop 1 (some .boolean) ∈ aw_tw := aw_in2 (List.mem_of_getElem? (i := 152) rfl) rfl
theorem n_ml_Rf_74 : Cond.methodLink "AddressTerms$Reference" 74 y_Rf_lengthOf ∈ aw_tw := aw_in2 (List.mem_of_getElem? (i := 153) rfl) rfl
theorem n_ml_Rs_66 : Cond.methodLink "AddressTerms$Resolver" 66 y_Rf_copyFolderTo ∈ aw_tw := aw_in2 (List.mem_of_getElem? (i := 154) rfl) rfl
theorem n_im_Rf_copyFolderTo : Cond.instanceMethod y_Rf_copyFolderTo ∈ aw_tw := aw_in2 (List.mem_of_getElem? (i := 155) rfl) rfl
theorem n_se_Rf_copyFolderTo : Cond.selects (y_Rf_copyFolderTo).cls y_Rf_copyFolderTo y_Rf_copyFolderTo ∈ aw_tw := aw_in2 (List.mem_of_getElem? (i := 156) rfl) rfl
theorem n_co_Rf_copyFolderTo : Cond.code y_Rf_copyFolderTo c_Rf_copyFolderTo 3 none ∈ aw_tw := aw_in2 (List.mem_of_getElem? (i := 157) rfl) rfl
theorem n_ml_Rf_81 : Cond.methodLink "AddressTerms$Reference" 81 y_Rw_lastSlash ∈ aw_tw := aw_in2 (List.mem_of_getElem? (i := 158) rfl) rfl
theorem n_im_Rw_lastSlash : Cond.instanceMethod y_Rw_lastSlash ∈ aw_tw := aw_in2 (List.mem_of_getElem? (i := 159) rfl) rfl
theorem n_se_Rw_lastSlash : Cond.selects (y_Rw_lastSlash).cls y_Rw_lastSlash y_Rw_lastSlash ∈ aw_tw := aw_in2 (List.mem_of_getElem? (i := 160) rfl) rfl
theorem n_co_Rw_lastSlash : Cond.code y_Rw_lastSlash c_Rw_lastSlash 4 (some .int) ∈ aw_tw := aw_in2 (List.mem_of_getElem? (i := 161) rfl) rfl
theorem n_ml_Rs_47 : Cond.methodLink "AddressTerms$Resolver" 47 y_Rs_addPlainPath ∈ aw_tw := aw_in2 (List.mem_of_getElem? (i := 162) rfl) rfl
theorem n_im_Rs_addPlainPath : Cond.instanceMethod y_Rs_addPlainPath ∈ aw_tw := aw_in2 (List.mem_of_getElem? (i := 164) rfl) rfl
theorem n_co_Rs_addPlainPath : Cond.code y_Rs_addPlainPath c_Rs_addPlainPath 7 none ∈ aw_tw := aw_in2 (List.mem_of_getElem? (i := 165) rfl) rfl
theorem n_ml_Rs_69 : Cond.methodLink "AddressTerms$Resolver" 69 y_Rw_size ∈ aw_tw := aw_in2 (List.mem_of_getElem? (i := 166) rfl) rfl
theorem n_ml_Rs_75 : Cond.methodLink "AddressTerms$Resolver" 75 y_Rw_hasThere ∈ aw_tw := aw_in2 (List.mem_of_getElem? (i := 168) rfl) rfl
theorem n_ml_Rs_85 : Cond.methodLink "AddressTerms$Resolver" 85 y_Rw_isRest ∈ aw_tw := aw_in2 (List.mem_of_getElem? (i := 172) rfl) rfl
theorem n_im_Rw_isRest : Cond.instanceMethod y_Rw_isRest ∈ aw_tw := aw_in2 (List.mem_of_getElem? (i := 173) rfl) rfl
theorem n_se_Rw_isRest : Cond.selects (y_Rw_isRest).cls y_Rw_isRest y_Rw_isRest ∈ aw_tw := aw_in2 (List.mem_of_getElem? (i := 174) rfl) rfl
theorem n_co_Rw_isRest : Cond.code y_Rw_isRest c_Rw_isRest 3 (some .boolean) ∈ aw_tw := aw_in2 (List.mem_of_getElem? (i := 175) rfl) rfl
theorem n_ml_Rw_54 : Cond.methodLink "AddressTerms$Row" 54 y_Rw_hasThere ∈ aw_tw := aw_in2 (List.mem_of_getElem? (i := 176) rfl) rfl
theorem n_ml_Rs_88 : Cond.methodLink "AddressTerms$Resolver" 88 y_Rw_set ∈ aw_tw := aw_in2 (List.mem_of_getElem? (i := 177) rfl) rfl
theorem n_im_Rw_set : Cond.instanceMethod y_Rw_set ∈ aw_tw := aw_in2 (List.mem_of_getElem? (i := 178) rfl) rfl
theorem n_se_Rw_set : Cond.selects (y_Rw_set).cls y_Rw_set y_Rw_set ∈ aw_tw := aw_in2 (List.mem_of_getElem? (i := 179) rfl) rfl
theorem n_co_Rw_set : Cond.code y_Rw_set c_Rw_set 3 none ∈ aw_tw := aw_in2 (List.mem_of_getElem? (i := 180) rfl) rfl
theorem n_ml_Rs_94 : Cond.methodLink "AddressTerms$Resolver" 94 y_Rs_dropLast ∈ aw_tw := aw_in2 (List.mem_of_getElem? (i := 182) rfl) rfl
theorem n_st_Rs_dropLast : Cond.static y_Rs_dropLast ∈ aw_tw := aw_in2 (List.mem_of_getElem? (i := 183) rfl) rfl
theorem n_co_Rs_dropLast : Cond.code y_Rs_dropLast c_Rs_dropLast 3 none ∈ aw_tw := aw_in2 (List.mem_of_getElem? (i := 184) rfl) rfl
theorem n_ml_Rs_113 : Cond.methodLink "AddressTerms$Resolver" 113 y_Rw_lastSlash ∈ aw_tw := aw_in2 (List.mem_of_getElem? (i := 185) rfl) rfl
theorem n_ml_Rs_105 : Cond.methodLink "AddressTerms$Resolver" 105 y_Rw_nextOf ∈ aw_tw := aw_in2 (List.mem_of_getElem? (i := 190) rfl) rfl
theorem n_ml_Rs_109 : Cond.methodLink "AddressTerms$Resolver" 109 y_Rw_addRange ∈ aw_tw := aw_in2 (List.mem_of_getElem? (i := 191) rfl) rfl
theorem n_ml_At_96 : Cond.methodLink "AddressTerms" 96 y_At_placeOfWanted ∈ aw_tw := aw_in2 (List.mem_of_getElem? (i := 194) rfl) rfl
theorem n_im_At_placeOfWanted : Cond.instanceMethod y_At_placeOfWanted ∈ aw_tw := aw_in2 (List.mem_of_getElem? (i := 196) rfl) rfl
theorem n_co_At_placeOfWanted : Cond.code y_At_placeOfWanted c_At_placeOfWanted 3 (some .int) ∈ aw_tw := aw_in2 (List.mem_of_getElem? (i := 197) rfl) rfl
theorem n_ml_At_138 : Cond.methodLink "AddressTerms" 138 y_Tm_order ∈ aw_tw := aw_in2 (List.mem_of_getElem? (i := 198) rfl) rfl
theorem n_im_Tm_order : Cond.instanceMethod y_Tm_order ∈ aw_tw := aw_in2 (List.mem_of_getElem? (i := 199) rfl) rfl
theorem n_se_Tm_order : Cond.selects (y_Tm_order).cls y_Tm_order y_Tm_order ∈ aw_tw := aw_in2 (List.mem_of_getElem? (i := 200) rfl) rfl
theorem n_co_Tm_order : Cond.code y_Tm_order c_Tm_order 3 (some .int) ∈ aw_tw := aw_in2 (List.mem_of_getElem? (i := 201) rfl) rfl
theorem n_ml_Tm_51 : Cond.methodLink "AddressTerms$Term" 51 y_Tm_rank ∈ aw_tw := aw_in2 (List.mem_of_getElem? (i := 202) rfl) rfl
theorem n_im_Tm_rank : Cond.instanceMethod y_Tm_rank ∈ aw_tw := aw_in2 (List.mem_of_getElem? (i := 204) rfl) rfl
theorem n_co_Tm_rank : Cond.code y_Tm_rank c_Tm_rank 1 (some .int) ∈ aw_tw := aw_in2 (List.mem_of_getElem? (i := 205) rfl) rfl
theorem n_st_At_orderOf : Cond.static y_At_orderOf ∈ aw_tw := aw_in2 (List.mem_of_getElem? (i := 207) rfl) rfl
theorem n_co_At_orderOf : Cond.code y_At_orderOf c_At_orderOf 2 (some .int) ∈ aw_tw := aw_in2 (List.mem_of_getElem? (i := 208) rfl) rfl
theorem n_ml_Tm_58 : Cond.methodLink "AddressTerms$Term" 58 y_Rw_order ∈ aw_tw := aw_in2 (List.mem_of_getElem? (i := 209) rfl) rfl
theorem n_im_Rw_order : Cond.instanceMethod y_Rw_order ∈ aw_tw := aw_in2 (List.mem_of_getElem? (i := 210) rfl) rfl
theorem n_se_Rw_order : Cond.selects (y_Rw_order).cls y_Rw_order y_Rw_order ∈ aw_tw := aw_in2 (List.mem_of_getElem? (i := 211) rfl) rfl
theorem n_co_Rw_order : Cond.code y_Rw_order c_Rw_order 5 (some .int) ∈ aw_tw := aw_in2 (List.mem_of_getElem? (i := 212) rfl) rfl
theorem n_ml_At_165 : Cond.methodLink "AddressTerms" 165 y_Tm_copy ∈ aw_tw := aw_in2 (List.mem_of_getElem? (i := 214) rfl) rfl
theorem n_im_Tm_copy : Cond.instanceMethod y_Tm_copy ∈ aw_tw := aw_in2 (List.mem_of_getElem? (i := 215) rfl) rfl
theorem n_se_Tm_copy : Cond.selects (y_Tm_copy).cls y_Tm_copy y_Tm_copy ∈ aw_tw := aw_in2 (List.mem_of_getElem? (i := 216) rfl) rfl
theorem n_co_Tm_copy : Cond.code y_Tm_copy c_Tm_copy 2 (some (.object "AddressTerms$Term")) ∈ aw_tw := aw_in2 (List.mem_of_getElem? (i := 217) rfl) rfl
theorem n_cl_Tm_10 : Cond.classLink "AddressTerms$Term" 10 "AddressTerms$Term" ∈ aw_tw := aw_in2 (List.mem_of_getElem? (i := 218) rfl) rfl
theorem n_ml_Tm_36 : Cond.methodLink "AddressTerms$Term" 36 y_Rw_size ∈ aw_tw := aw_in2 (List.mem_of_getElem? (i := 219) rfl) rfl
theorem n_ml_Tm_40 : Cond.methodLink "AddressTerms$Term" 40 y_Tm_init ∈ aw_tw := aw_in2 (List.mem_of_getElem? (i := 220) rfl) rfl
theorem n_ml_Tm_43 : Cond.methodLink "AddressTerms$Term" 43 y_Tm_begin ∈ aw_tw := aw_in2 (List.mem_of_getElem? (i := 221) rfl) rfl
theorem n_ml_Tm_47 : Cond.methodLink "AddressTerms$Term" 47 y_Rw_addRange ∈ aw_tw := aw_in2 (List.mem_of_getElem? (i := 222) rfl) rfl
theorem n_ml_At_85 : Cond.methodLink "AddressTerms" 85 y_Rw_cutTo ∈ aw_tw := aw_in2 (List.mem_of_getElem? (i := 223) rfl) rfl
theorem n_ml_Lw_25 : Cond.methodLink "AddressTermsLaw" 25 y_At_base ∈ aw_tw := aw_in2 (List.mem_of_getElem? (i := 224) rfl) rfl
theorem n_im_At_base : Cond.instanceMethod y_At_base ∈ aw_tw := aw_in2 (List.mem_of_getElem? (i := 225) rfl) rfl
theorem n_se_At_base : Cond.selects (y_At_base).cls y_At_base y_At_base ∈ aw_tw := aw_in2 (List.mem_of_getElem? (i := 226) rfl) rfl
theorem n_co_At_base : Cond.code y_At_base c_At_base 2 (some .int) ∈ aw_tw := aw_in2 (List.mem_of_getElem? (i := 227) rfl) rfl
theorem n_ml_Lw_30 : Cond.methodLink "AddressTermsLaw" 30 y_At_label ∈ aw_tw := aw_in2 (List.mem_of_getElem? (i := 228) rfl) rfl
theorem n_im_At_label : Cond.instanceMethod y_At_label ∈ aw_tw := aw_in2 (List.mem_of_getElem? (i := 229) rfl) rfl
theorem n_se_At_label : Cond.selects (y_At_label).cls y_At_label y_At_label ∈ aw_tw := aw_in2 (List.mem_of_getElem? (i := 230) rfl) rfl
theorem n_co_At_label : Cond.code y_At_label c_At_label 2 (some .int) ∈ aw_tw := aw_in2 (List.mem_of_getElem? (i := 231) rfl) rfl
theorem n_ml_Lw_34 : Cond.methodLink "AddressTermsLaw" 34 y_At_literal ∈ aw_tw := aw_in2 (List.mem_of_getElem? (i := 232) rfl) rfl
theorem n_im_At_literal : Cond.instanceMethod y_At_literal ∈ aw_tw := aw_in2 (List.mem_of_getElem? (i := 233) rfl) rfl
theorem n_se_At_literal : Cond.selects (y_At_literal).cls y_At_literal y_At_literal ∈ aw_tw := aw_in2 (List.mem_of_getElem? (i := 234) rfl) rfl
theorem n_co_At_literal : Cond.code y_At_literal c_At_literal 3 (some .int) ∈ aw_tw := aw_in2 (List.mem_of_getElem? (i := 235) rfl) rfl
theorem n_ml_At_99 : Cond.methodLink "AddressTerms" 99 y_At_literalOnTape ∈ aw_tw := aw_in2 (List.mem_of_getElem? (i := 236) rfl) rfl
theorem n_im_At_literalOnTape : Cond.instanceMethod y_At_literalOnTape ∈ aw_tw := aw_in2 (List.mem_of_getElem? (i := 238) rfl) rfl
theorem n_co_At_literalOnTape : Cond.code y_At_literalOnTape c_At_literalOnTape 3 (some .int) ∈ aw_tw := aw_in2 (List.mem_of_getElem? (i := 239) rfl) rfl
theorem n_ml_At_181 : Cond.methodLink "AddressTerms" 181 y_At_readText ∈ aw_tw := aw_in3 (List.mem_of_getElem? (i := 0) rfl) rfl
theorem n_st_At_readText : Cond.static y_At_readText ∈ aw_tw := aw_in3 (List.mem_of_getElem? (i := 1) rfl) rfl
theorem n_co_At_readText : Cond.code y_At_readText c_At_readText 6 (some .int) ∈ aw_tw := aw_in3 (List.mem_of_getElem? (i := 2) rfl) rfl
theorem n_ml_At_276 : Cond.methodLink "AddressTerms" 276 y_At_escapedByte ∈ aw_tw := aw_in3 (List.mem_of_getElem? (i := 3) rfl) rfl
theorem n_st_At_escapedByte : Cond.static y_At_escapedByte ∈ aw_tw := aw_in3 (List.mem_of_getElem? (i := 4) rfl) rfl
theorem n_co_At_escapedByte : Cond.code y_At_escapedByte c_At_escapedByte 2 (some .int) ∈ aw_tw := aw_in3 (List.mem_of_getElem? (i := 5) rfl) rfl
theorem n_ml_At_280 : Cond.methodLink "AddressTerms" 280 y_At_hexByte ∈ aw_tw := aw_in3 (List.mem_of_getElem? (i := 6) rfl) rfl
theorem n_st_At_hexByte : Cond.static y_At_hexByte ∈ aw_tw := aw_in3 (List.mem_of_getElem? (i := 7) rfl) rfl
theorem n_co_At_hexByte : Cond.code y_At_hexByte c_At_hexByte 5 (some .int) ∈ aw_tw := aw_in3 (List.mem_of_getElem? (i := 8) rfl) rfl
theorem n_ml_At_283 : Cond.methodLink "AddressTerms" 283 y_At_isTextByte ∈ aw_tw := aw_in3 (List.mem_of_getElem? (i := 9) rfl) rfl
theorem n_st_At_isTextByte : Cond.static y_At_isTextByte ∈ aw_tw := aw_in3 (List.mem_of_getElem? (i := 10) rfl) rfl
theorem n_co_At_isTextByte : Cond.code y_At_isTextByte c_At_isTextByte 1 (some .boolean) ∈ aw_tw := aw_in3 (List.mem_of_getElem? (i := 11) rfl) rfl
theorem n_ml_Lw_38 : Cond.methodLink "AddressTermsLaw" 38 y_At_tagged ∈ aw_tw := aw_in3 (List.mem_of_getElem? (i := 12) rfl) rfl
theorem n_im_At_tagged : Cond.instanceMethod y_At_tagged ∈ aw_tw := aw_in3 (List.mem_of_getElem? (i := 13) rfl) rfl
theorem n_se_At_tagged : Cond.selects (y_At_tagged).cls y_At_tagged y_At_tagged ∈ aw_tw := aw_in3 (List.mem_of_getElem? (i := 14) rfl) rfl
theorem n_co_At_tagged : Cond.code y_At_tagged c_At_tagged 3 (some .int) ∈ aw_tw := aw_in3 (List.mem_of_getElem? (i := 15) rfl) rfl
theorem n_ml_At_103 : Cond.methodLink "AddressTerms" 103 y_At_tagOnTape ∈ aw_tw := aw_in3 (List.mem_of_getElem? (i := 16) rfl) rfl
theorem n_im_At_tagOnTape : Cond.instanceMethod y_At_tagOnTape ∈ aw_tw := aw_in3 (List.mem_of_getElem? (i := 18) rfl) rfl
theorem n_co_At_tagOnTape : Cond.code y_At_tagOnTape c_At_tagOnTape 5 (some .int) ∈ aw_tw := aw_in3 (List.mem_of_getElem? (i := 19) rfl) rfl
theorem n_ml_At_128 : Cond.methodLink "AddressTerms" 128 y_At_literalAt ∈ aw_tw := aw_in3 (List.mem_of_getElem? (i := 20) rfl) rfl
theorem n_im_At_literalAt : Cond.instanceMethod y_At_literalAt ∈ aw_tw := aw_in3 (List.mem_of_getElem? (i := 22) rfl) rfl
theorem n_co_At_literalAt : Cond.code y_At_literalAt c_At_literalAt 3 (some (.object "AddressTerms$Term")) ∈ aw_tw := aw_in3 (List.mem_of_getElem? (i := 23) rfl) rfl
theorem n_ml_At_185 : Cond.methodLink "AddressTerms" 185 y_At_wrongInTag ∈ aw_tw := aw_in3 (List.mem_of_getElem? (i := 24) rfl) rfl
theorem n_st_At_wrongInTag : Cond.static y_At_wrongInTag ∈ aw_tw := aw_in3 (List.mem_of_getElem? (i := 25) rfl) rfl
theorem n_co_At_wrongInTag : Cond.code y_At_wrongInTag c_At_wrongInTag 7 (some .int) ∈ aw_tw := aw_in3 (List.mem_of_getElem? (i := 26) rfl) rfl
theorem n_ml_At_273 : Cond.methodLink "AddressTerms" 273 y_At_isLetterOrDigit ∈ aw_tw := aw_in3 (List.mem_of_getElem? (i := 27) rfl) rfl
theorem n_ml_At_191 : Cond.methodLink "AddressTerms" 191 y_At_smallOf ∈ aw_tw := aw_in3 (List.mem_of_getElem? (i := 28) rfl) rfl
theorem n_st_At_smallOf : Cond.static y_At_smallOf ∈ aw_tw := aw_in3 (List.mem_of_getElem? (i := 29) rfl) rfl
theorem n_co_At_smallOf : Cond.code y_At_smallOf c_At_smallOf 1 (some .int) ∈ aw_tw := aw_in3 (List.mem_of_getElem? (i := 30) rfl) rfl
theorem n_ml_Lw_42 : Cond.methodLink "AddressTermsLaw" 42 y_At_prefix ∈ aw_tw := aw_in3 (List.mem_of_getElem? (i := 31) rfl) rfl
theorem n_im_At_prefix : Cond.instanceMethod y_At_prefix ∈ aw_tw := aw_in3 (List.mem_of_getElem? (i := 32) rfl) rfl
theorem n_se_At_prefix : Cond.selects (y_At_prefix).cls y_At_prefix y_At_prefix ∈ aw_tw := aw_in3 (List.mem_of_getElem? (i := 33) rfl) rfl
theorem n_co_At_prefix : Cond.code y_At_prefix c_At_prefix 3 (some .int) ∈ aw_tw := aw_in3 (List.mem_of_getElem? (i := 34) rfl) rfl
theorem n_ml_At_106 : Cond.methodLink "AddressTerms" 106 y_At_nameOnTape ∈ aw_tw := aw_in3 (List.mem_of_getElem? (i := 35) rfl) rfl
theorem n_im_At_nameOnTape : Cond.instanceMethod y_At_nameOnTape ∈ aw_tw := aw_in3 (List.mem_of_getElem? (i := 37) rfl) rfl
theorem n_co_At_nameOnTape : Cond.code y_At_nameOnTape c_At_nameOnTape 5 (some .int) ∈ aw_tw := aw_in3 (List.mem_of_getElem? (i := 38) rfl) rfl
theorem n_ml_At_194 : Cond.methodLink "AddressTerms" 194 y_At_isName ∈ aw_tw := aw_in3 (List.mem_of_getElem? (i := 39) rfl) rfl
theorem n_st_At_isName : Cond.static y_At_isName ∈ aw_tw := aw_in3 (List.mem_of_getElem? (i := 40) rfl) rfl
theorem n_co_At_isName : Cond.code y_At_isName c_At_isName 2 (some .boolean) ∈ aw_tw := aw_in3 (List.mem_of_getElem? (i := 41) rfl) rfl
theorem n_ml_At_198 : Cond.methodLink "AddressTerms" 198 y_At_prefixAt ∈ aw_tw := aw_in3 (List.mem_of_getElem? (i := 42) rfl) rfl
theorem n_im_At_prefixAt : Cond.instanceMethod y_At_prefixAt ∈ aw_tw := aw_in3 (List.mem_of_getElem? (i := 44) rfl) rfl
theorem n_co_At_prefixAt : Cond.code y_At_prefixAt c_At_prefixAt 2 (some (.object "AddressTerms$Prefix")) ∈ aw_tw := aw_in3 (List.mem_of_getElem? (i := 45) rfl) rfl
theorem n_ml_At_205 : Cond.methodLink "AddressTerms" 205 y_Rw_order ∈ aw_tw := aw_in3 (List.mem_of_getElem? (i := 46) rfl) rfl
theorem n_ib_Px : Cond.instantiable "AddressTerms$Prefix" 2 ∈ aw_tw := aw_in3 (List.mem_of_getElem? (i := 47) rfl) rfl
theorem n_ml_At_210 : Cond.methodLink "AddressTerms" 210 y_Rw_copy ∈ aw_tw := aw_in3 (List.mem_of_getElem? (i := 48) rfl) rfl
theorem n_im_Rw_copy : Cond.instanceMethod y_Rw_copy ∈ aw_tw := aw_in3 (List.mem_of_getElem? (i := 49) rfl) rfl
theorem n_se_Rw_copy : Cond.selects (y_Rw_copy).cls y_Rw_copy y_Rw_copy ∈ aw_tw := aw_in3 (List.mem_of_getElem? (i := 50) rfl) rfl
theorem n_co_Rw_copy : Cond.code y_Rw_copy c_Rw_copy 2 (some (.object "AddressTerms$Row")) ∈ aw_tw := aw_in3 (List.mem_of_getElem? (i := 51) rfl) rfl
theorem n_cl_Rw_10 : Cond.classLink "AddressTerms$Row" 10 "AddressTerms$Row" ∈ aw_tw := aw_in3 (List.mem_of_getElem? (i := 52) rfl) rfl
theorem n_ml_Rw_45 : Cond.methodLink "AddressTerms$Row" 45 y_Rw_init ∈ aw_tw := aw_in3 (List.mem_of_getElem? (i := 53) rfl) rfl
theorem n_ml_Rw_47 : Cond.methodLink "AddressTerms$Row" 47 y_Rw_addRange ∈ aw_tw := aw_in3 (List.mem_of_getElem? (i := 54) rfl) rfl
theorem n_ml_At_213 : Cond.methodLink "AddressTerms" 213 y_Px_init ∈ aw_tw := aw_in3 (List.mem_of_getElem? (i := 55) rfl) rfl
theorem n_im_Px_init : Cond.instanceMethod y_Px_init ∈ aw_tw := aw_in3 (List.mem_of_getElem? (i := 56) rfl) rfl
theorem n_co_Px_init : Cond.code y_Px_init c_Px_init 3 none ∈ aw_tw := aw_in3 (List.mem_of_getElem? (i := 57) rfl) rfl
theorem n_ml_Px_1 : Cond.methodLink "AddressTerms$Prefix" 1 objectInit ∈ aw_tw := aw_in3 (List.mem_of_getElem? (i := 58) rfl) rfl
theorem n_fl_Px_7 : Cond.fieldLink "AddressTerms$Prefix" 7 "AddressTerms$Prefix" "name" "LAddressTerms$Row;" ∈ aw_tw := aw_in3 (List.mem_of_getElem? (i := 59) rfl) rfl
theorem n_fl_At_202 : Cond.fieldLink "AddressTerms" 202 "AddressTerms$Prefix" "name" "LAddressTerms$Row;" ∈ aw_tw := aw_in3 (List.mem_of_getElem? (i := 60) rfl) rfl
theorem n_fl_Px_13 : Cond.fieldLink "AddressTerms$Prefix" 13 "AddressTerms$Prefix" "address" "LAddressTerms$Row;" ∈ aw_tw := aw_in3 (List.mem_of_getElem? (i := 61) rfl) rfl
theorem n_fl_At_207 : Cond.fieldLink "AddressTerms" 207 "AddressTerms$Prefix" "address" "LAddressTerms$Row;" ∈ aw_tw := aw_in3 (List.mem_of_getElem? (i := 62) rfl) rfl
theorem n_la_Px_name : Cond.laysFinal "AddressTerms$Prefix" "AddressTerms$Prefix" "name" "LAddressTerms$Row;" ∈ aw_tw := aw_in3 (List.mem_of_getElem? (i := 63) rfl) rfl
theorem n_la_Px_address : Cond.lays "AddressTerms$Prefix" "AddressTerms$Prefix" "address" "LAddressTerms$Row;" ∈ aw_tw := aw_in3 (List.mem_of_getElem? (i := 65) rfl) rfl
theorem n_ml_Lw_46 : Cond.methodLink "AddressTermsLaw" 46 y_At_part ∈ aw_tw := aw_in3 (List.mem_of_getElem? (i := 68) rfl) rfl
theorem n_im_At_part : Cond.instanceMethod y_At_part ∈ aw_tw := aw_in3 (List.mem_of_getElem? (i := 69) rfl) rfl
theorem n_se_At_part : Cond.selects (y_At_part).cls y_At_part y_At_part ∈ aw_tw := aw_in3 (List.mem_of_getElem? (i := 70) rfl) rfl
theorem n_co_At_part : Cond.code y_At_part c_At_part 4 (some .int) ∈ aw_tw := aw_in3 (List.mem_of_getElem? (i := 71) rfl) rfl
theorem n_ml_At_119 : Cond.methodLink "AddressTerms" 119 y_Rf_lengthOf ∈ aw_tw := aw_in3 (List.mem_of_getElem? (i := 72) rfl) rfl
theorem n_ml_Lw_51 : Cond.methodLink "AddressTermsLaw" 51 y_At_kind ∈ aw_tw := aw_in3 (List.mem_of_getElem? (i := 73) rfl) rfl
theorem n_im_At_kind : Cond.instanceMethod y_At_kind ∈ aw_tw := aw_in3 (List.mem_of_getElem? (i := 74) rfl) rfl
theorem n_se_At_kind : Cond.selects (y_At_kind).cls y_At_kind y_At_kind ∈ aw_tw := aw_in3 (List.mem_of_getElem? (i := 75) rfl) rfl
theorem n_co_At_kind : Cond.code y_At_kind c_At_kind 3 (some .int) ∈ aw_tw := aw_in3 (List.mem_of_getElem? (i := 76) rfl) rfl
theorem n_ml_Lw_55 : Cond.methodLink "AddressTermsLaw" 55 y_At_sort ∈ aw_tw := aw_in3 (List.mem_of_getElem? (i := 77) rfl) rfl
theorem n_im_At_sort : Cond.instanceMethod y_At_sort ∈ aw_tw := aw_in3 (List.mem_of_getElem? (i := 78) rfl) rfl
theorem n_se_At_sort : Cond.selects (y_At_sort).cls y_At_sort y_At_sort ∈ aw_tw := aw_in3 (List.mem_of_getElem? (i := 79) rfl) rfl
theorem n_co_At_sort : Cond.code y_At_sort c_At_sort 3 (some .int) ∈ aw_tw := aw_in3 (List.mem_of_getElem? (i := 80) rfl) rfl
theorem n_ml_Lw_59 : Cond.methodLink "AddressTermsLaw" 59 y_At_alike ∈ aw_tw := aw_in3 (List.mem_of_getElem? (i := 81) rfl) rfl
theorem n_im_At_alike : Cond.instanceMethod y_At_alike ∈ aw_tw := aw_in3 (List.mem_of_getElem? (i := 82) rfl) rfl
theorem n_se_At_alike : Cond.selects (y_At_alike).cls y_At_alike y_At_alike ∈ aw_tw := aw_in3 (List.mem_of_getElem? (i := 83) rfl) rfl
theorem n_co_At_alike : Cond.code y_At_alike c_At_alike 5 (some .int) ∈ aw_tw := aw_in3 (List.mem_of_getElem? (i := 84) rfl) rfl
theorem n_ml_At_134 : Cond.methodLink "AddressTerms" 134 y_At_haveSameValue ∈ aw_tw := aw_in3 (List.mem_of_getElem? (i := 85) rfl) rfl
theorem n_st_At_haveSameValue : Cond.static y_At_haveSameValue ∈ aw_tw := aw_in3 (List.mem_of_getElem? (i := 86) rfl) rfl
theorem n_co_At_haveSameValue : Cond.code y_At_haveSameValue c_At_haveSameValue 2 (some .boolean) ∈ aw_tw := aw_in3 (List.mem_of_getElem? (i := 87) rfl) rfl
theorem n_ml_At_286 : Cond.methodLink "AddressTerms" 286 y_At_isWhole ∈ aw_tw := aw_in3 (List.mem_of_getElem? (i := 88) rfl) rfl
theorem n_st_At_isWhole : Cond.static y_At_isWhole ∈ aw_tw := aw_in3 (List.mem_of_getElem? (i := 89) rfl) rfl
theorem n_co_At_isWhole : Cond.code y_At_isWhole c_At_isWhole 3 (some .boolean) ∈ aw_tw := aw_in3 (List.mem_of_getElem? (i := 90) rfl) rfl
theorem n_ml_At_311 : Cond.methodLink "AddressTerms" 311 y_At_signLength ∈ aw_tw := aw_in3 (List.mem_of_getElem? (i := 91) rfl) rfl
theorem n_st_At_signLength : Cond.static y_At_signLength ∈ aw_tw := aw_in3 (List.mem_of_getElem? (i := 92) rfl) rfl
theorem n_co_At_signLength : Cond.code y_At_signLength c_At_signLength 1 (some .int) ∈ aw_tw := aw_in3 (List.mem_of_getElem? (i := 93) rfl) rfl
theorem n_ml_At_289 : Cond.methodLink "AddressTerms" 289 y_At_wholeValue ∈ aw_tw := aw_in3 (List.mem_of_getElem? (i := 94) rfl) rfl
theorem n_st_At_wholeValue : Cond.static y_At_wholeValue ∈ aw_tw := aw_in3 (List.mem_of_getElem? (i := 95) rfl) rfl
theorem n_co_At_wholeValue : Cond.code y_At_wholeValue c_At_wholeValue 4 (some .long) ∈ aw_tw := aw_in3 (List.mem_of_getElem? (i := 96) rfl) rfl
theorem n_ct_At_314 : Cond.constantLong "AddressTerms" 314 (10) ∈ aw_tw := aw_in3 (List.mem_of_getElem? (i := 97) rfl) rfl
theorem n_ml_At_293 : Cond.methodLink "AddressTerms" 293 y_At_isTrue ∈ aw_tw := aw_in3 (List.mem_of_getElem? (i := 98) rfl) rfl
theorem n_st_At_isTrue : Cond.static y_At_isTrue ∈ aw_tw := aw_in3 (List.mem_of_getElem? (i := 99) rfl) rfl
theorem n_co_At_isTrue : Cond.code y_At_isTrue c_At_isTrue 1 (some .boolean) ∈ aw_tw := aw_in3 (List.mem_of_getElem? (i := 100) rfl) rfl
theorem n_ml_At_301 : Cond.methodLink "AddressTerms" 301 y_Rw_isRest ∈ aw_tw := aw_in3 (List.mem_of_getElem? (i := 102) rfl) rfl
theorem n_ml_At_296 : Cond.methodLink "AddressTerms" 296 y_At_isFalse ∈ aw_tw := aw_in3 (List.mem_of_getElem? (i := 104) rfl) rfl
theorem n_st_At_isFalse : Cond.static y_At_isFalse ∈ aw_tw := aw_in3 (List.mem_of_getElem? (i := 105) rfl) rfl
theorem n_co_At_isFalse : Cond.code y_At_isFalse c_At_isFalse 1 (some .boolean) ∈ aw_tw := aw_in3 (List.mem_of_getElem? (i := 106) rfl) rfl
theorem n_ml_Lw_63 : Cond.methodLink "AddressTermsLaw" 63 y_At_compare ∈ aw_tw := aw_in3 (List.mem_of_getElem? (i := 109) rfl) rfl
theorem n_im_At_compare : Cond.instanceMethod y_At_compare ∈ aw_tw := aw_in3 (List.mem_of_getElem? (i := 110) rfl) rfl
theorem n_se_At_compare : Cond.selects (y_At_compare).cls y_At_compare y_At_compare ∈ aw_tw := aw_in3 (List.mem_of_getElem? (i := 111) rfl) rfl
theorem n_co_At_compare : Cond.code y_At_compare c_At_compare 5 (some .int) ∈ aw_tw := aw_in3 (List.mem_of_getElem? (i := 112) rfl) rfl
theorem n_ml_Lw_67 : Cond.methodLink "AddressTermsLaw" 67 y_At_print ∈ aw_tw := aw_in3 (List.mem_of_getElem? (i := 113) rfl) rfl
theorem n_im_At_print : Cond.instanceMethod y_At_print ∈ aw_tw := aw_in3 (List.mem_of_getElem? (i := 114) rfl) rfl
theorem n_se_At_print : Cond.selects (y_At_print).cls y_At_print y_At_print ∈ aw_tw := aw_in3 (List.mem_of_getElem? (i := 115) rfl) rfl
theorem n_co_At_print : Cond.code y_At_print c_At_print 4 (some .int) ∈ aw_tw := aw_in3 (List.mem_of_getElem? (i := 116) rfl) rfl
theorem n_ml_At_144 : Cond.methodLink "AddressTerms" 144 y_Rw_addText ∈ aw_tw := aw_in3 (List.mem_of_getElem? (i := 118) rfl) rfl
theorem n_ml_At_151 : Cond.methodLink "AddressTerms" 151 y_Rw_addNumber ∈ aw_tw := aw_in3 (List.mem_of_getElem? (i := 119) rfl) rfl
theorem n_im_Rw_addNumber : Cond.instanceMethod y_Rw_addNumber ∈ aw_tw := aw_in3 (List.mem_of_getElem? (i := 120) rfl) rfl
theorem n_se_Rw_addNumber : Cond.selects (y_Rw_addNumber).cls y_Rw_addNumber y_Rw_addNumber ∈ aw_tw := aw_in3 (List.mem_of_getElem? (i := 121) rfl) rfl
theorem n_co_Rw_addNumber : Cond.code y_Rw_addNumber c_Rw_addNumber 2 none ∈ aw_tw := aw_in3 (List.mem_of_getElem? (i := 122) rfl) rfl
theorem n_ml_At_154 : Cond.methodLink "AddressTerms" 154 y_At_printLiteral ∈ aw_tw := aw_in3 (List.mem_of_getElem? (i := 123) rfl) rfl
theorem n_im_At_printLiteral : Cond.instanceMethod y_At_printLiteral ∈ aw_tw := aw_in3 (List.mem_of_getElem? (i := 125) rfl) rfl
theorem n_co_At_printLiteral : Cond.code y_At_printLiteral c_At_printLiteral 3 none ∈ aw_tw := aw_in3 (List.mem_of_getElem? (i := 126) rfl) rfl
theorem n_ml_At_227 : Cond.methodLink "AddressTerms" 227 y_At_printTextByte ∈ aw_tw := aw_in3 (List.mem_of_getElem? (i := 127) rfl) rfl
theorem n_im_At_printTextByte : Cond.instanceMethod y_At_printTextByte ∈ aw_tw := aw_in3 (List.mem_of_getElem? (i := 129) rfl) rfl
theorem n_co_At_printTextByte : Cond.code y_At_printTextByte c_At_printTextByte 2 none ∈ aw_tw := aw_in3 (List.mem_of_getElem? (i := 130) rfl) rfl
theorem n_ml_At_158 : Cond.methodLink "AddressTerms" 158 y_At_printAddress ∈ aw_tw := aw_in3 (List.mem_of_getElem? (i := 139) rfl) rfl
theorem n_im_At_printAddress : Cond.instanceMethod y_At_printAddress ∈ aw_tw := aw_in3 (List.mem_of_getElem? (i := 141) rfl) rfl
theorem n_co_At_printAddress : Cond.code y_At_printAddress c_At_printAddress 4 none ∈ aw_tw := aw_in3 (List.mem_of_getElem? (i := 142) rfl) rfl
theorem n_ml_At_216 : Cond.methodLink "AddressTerms" 216 y_At_bestPrefix ∈ aw_tw := aw_in3 (List.mem_of_getElem? (i := 143) rfl) rfl
theorem n_im_At_bestPrefix : Cond.instanceMethod y_At_bestPrefix ∈ aw_tw := aw_in3 (List.mem_of_getElem? (i := 145) rfl) rfl
theorem n_co_At_bestPrefix : Cond.code y_At_bestPrefix c_At_bestPrefix 5 (some (.object "AddressTerms$Prefix")) ∈ aw_tw := aw_in3 (List.mem_of_getElem? (i := 146) rfl) rfl
theorem n_ml_At_220 : Cond.methodLink "AddressTerms" 220 y_Px_tells ∈ aw_tw := aw_in3 (List.mem_of_getElem? (i := 147) rfl) rfl
theorem n_im_Px_tells : Cond.instanceMethod y_Px_tells ∈ aw_tw := aw_in3 (List.mem_of_getElem? (i := 148) rfl) rfl
theorem n_se_Px_tells : Cond.selects (y_Px_tells).cls y_Px_tells y_Px_tells ∈ aw_tw := aw_in3 (List.mem_of_getElem? (i := 149) rfl) rfl
theorem n_co_Px_tells : Cond.code y_Px_tells c_Px_tells 4 (some .boolean) ∈ aw_tw := aw_in3 (List.mem_of_getElem? (i := 150) rfl) rfl
theorem n_ml_Px_16 : Cond.methodLink "AddressTerms$Prefix" 16 y_Rw_beginsWith ∈ aw_tw := aw_in3 (List.mem_of_getElem? (i := 151) rfl) rfl
theorem n_im_Rw_beginsWith : Cond.instanceMethod y_Rw_beginsWith ∈ aw_tw := aw_in3 (List.mem_of_getElem? (i := 152) rfl) rfl
theorem n_se_Rw_beginsWith : Cond.selects (y_Rw_beginsWith).cls y_Rw_beginsWith y_Rw_beginsWith ∈ aw_tw := aw_in3 (List.mem_of_getElem? (i := 153) rfl) rfl
theorem n_co_Rw_beginsWith : Cond.code y_Rw_beginsWith c_Rw_beginsWith 3 (some .boolean) ∈ aw_tw := aw_in3 (List.mem_of_getElem? (i := 154) rfl) rfl
theorem n_ml_Px_22 : Cond.methodLink "AddressTerms$Prefix" 22 y_Rw_size ∈ aw_tw := aw_in3 (List.mem_of_getElem? (i := 155) rfl) rfl
theorem n_ml_Px_26 : Cond.methodLink "AddressTerms$Prefix" 26 y_Rw_byteAt ∈ aw_tw := aw_in3 (List.mem_of_getElem? (i := 156) rfl) rfl
theorem n_ml_At_223 : Cond.methodLink "AddressTerms" 223 y_Px_isBetterThan ∈ aw_tw := aw_in3 (List.mem_of_getElem? (i := 158) rfl) rfl
theorem n_im_Px_isBetterThan : Cond.instanceMethod y_Px_isBetterThan ∈ aw_tw := aw_in3 (List.mem_of_getElem? (i := 159) rfl) rfl
theorem n_se_Px_isBetterThan : Cond.selects (y_Px_isBetterThan).cls y_Px_isBetterThan y_Px_isBetterThan ∈ aw_tw := aw_in3 (List.mem_of_getElem? (i := 160) rfl) rfl
theorem n_co_Px_isBetterThan : Cond.code y_Px_isBetterThan c_Px_isBetterThan 3 (some .boolean) ∈ aw_tw := aw_in3 (List.mem_of_getElem? (i := 161) rfl) rfl
theorem n_ml_Px_40 : Cond.methodLink "AddressTerms$Prefix" 40 y_Rw_order ∈ aw_tw := aw_in3 (List.mem_of_getElem? (i := 163) rfl) rfl
theorem n_ml_Lw_71 : Cond.methodLink "AddressTermsLaw" 71 y_At_at ∈ aw_tw := aw_in3 (List.mem_of_getElem? (i := 164) rfl) rfl
theorem n_im_At_at : Cond.instanceMethod y_At_at ∈ aw_tw := aw_in3 (List.mem_of_getElem? (i := 165) rfl) rfl
theorem n_se_At_at : Cond.selects (y_At_at).cls y_At_at y_At_at ∈ aw_tw := aw_in3 (List.mem_of_getElem? (i := 166) rfl) rfl
theorem n_co_At_at : Cond.code y_At_at c_At_at 3 (some .int) ∈ aw_tw := aw_in3 (List.mem_of_getElem? (i := 167) rfl) rfl
theorem n_ml_Lw_75 : Cond.methodLink "AddressTermsLaw" 75 y_At_count ∈ aw_tw := aw_in3 (List.mem_of_getElem? (i := 168) rfl) rfl
theorem n_im_At_count : Cond.instanceMethod y_At_count ∈ aw_tw := aw_in3 (List.mem_of_getElem? (i := 169) rfl) rfl
theorem n_se_At_count : Cond.selects (y_At_count).cls y_At_count y_At_count ∈ aw_tw := aw_in3 (List.mem_of_getElem? (i := 170) rfl) rfl
theorem n_co_At_count : Cond.code y_At_count c_At_count 2 (some .int) ∈ aw_tw := aw_in3 (List.mem_of_getElem? (i := 171) rfl) rfl
theorem n_cl_Lw_10 : Cond.classLink "AddressTermsLaw" 10 "AddressTermsModel" ∈ aw_tw := aw_in3 (List.mem_of_getElem? (i := 172) rfl) rfl
theorem n_ib_Md : Cond.instantiable "AddressTermsModel" 30 ∈ aw_tw := aw_in3 (List.mem_of_getElem? (i := 173) rfl) rfl
theorem n_ml_Lw_12 : Cond.methodLink "AddressTermsLaw" 12 y_Md_init ∈ aw_tw := aw_in3 (List.mem_of_getElem? (i := 174) rfl) rfl
theorem n_im_Md_init : Cond.instanceMethod y_Md_init ∈ aw_tw := aw_in3 (List.mem_of_getElem? (i := 175) rfl) rfl
theorem n_co_Md_init : Cond.code y_Md_init c_Md_init 1 none ∈ aw_tw := aw_in3 (List.mem_of_getElem? (i := 176) rfl) rfl
theorem n_ml_Md_1 : Cond.methodLink "AddressTermsModel" 1 objectInit ∈ aw_tw := aw_in3 (List.mem_of_getElem? (i := 177) rfl) rfl
theorem n_fl_Md_90 : Cond.fieldLink "AddressTermsModel" 90 "AddressTermsModel" "tapeMany" "I" ∈ aw_tw := aw_in3 (List.mem_of_getElem? (i := 178) rfl) rfl
theorem n_fl_Md_7 : Cond.fieldLink "AddressTermsModel" 7 "AddressTermsModel" "tape" "[I" ∈ aw_tw := aw_in3 (List.mem_of_getElem? (i := 179) rfl) rfl
theorem n_fl_Md_74 : Cond.fieldLink "AddressTermsModel" 74 "AddressTermsModel" "terms" "I" ∈ aw_tw := aw_in3 (List.mem_of_getElem? (i := 180) rfl) rfl
theorem n_fl_Md_13 : Cond.fieldLink "AddressTermsModel" 13 "AddressTermsModel" "kinds" "[I" ∈ aw_tw := aw_in3 (List.mem_of_getElem? (i := 181) rfl) rfl
theorem n_fl_Md_16 : Cond.fieldLink "AddressTermsModel" 16 "AddressTermsModel" "numbers" "[I" ∈ aw_tw := aw_in3 (List.mem_of_getElem? (i := 182) rfl) rfl
theorem n_fl_Md_19 : Cond.fieldLink "AddressTermsModel" 19 "AddressTermsModel" "sizes" "[I" ∈ aw_tw := aw_in3 (List.mem_of_getElem? (i := 183) rfl) rfl
theorem n_fl_Md_22 : Cond.fieldLink "AddressTermsModel" 22 "AddressTermsModel" "bytes" "[I" ∈ aw_tw := aw_in3 (List.mem_of_getElem? (i := 184) rfl) rfl
theorem n_fl_Md_25 : Cond.fieldLink "AddressTermsModel" 25 "AddressTermsModel" "tagSizes" "[I" ∈ aw_tw := aw_in3 (List.mem_of_getElem? (i := 185) rfl) rfl
theorem n_fl_Md_28 : Cond.fieldLink "AddressTermsModel" 28 "AddressTermsModel" "tags" "[I" ∈ aw_tw := aw_in3 (List.mem_of_getElem? (i := 186) rfl) rfl
theorem n_fl_Md_31 : Cond.fieldLink "AddressTermsModel" 31 "AddressTermsModel" "base" "I" ∈ aw_tw := aw_in3 (List.mem_of_getElem? (i := 187) rfl) rfl
theorem n_fl_Md_187 : Cond.fieldLink "AddressTermsModel" 187 "AddressTermsModel" "prefixes" "I" ∈ aw_tw := aw_in3 (List.mem_of_getElem? (i := 188) rfl) rfl
theorem n_fl_Md_35 : Cond.fieldLink "AddressTermsModel" 35 "AddressTermsModel" "nameSizes" "[I" ∈ aw_tw := aw_in3 (List.mem_of_getElem? (i := 189) rfl) rfl
theorem n_fl_Md_38 : Cond.fieldLink "AddressTermsModel" 38 "AddressTermsModel" "names" "[I" ∈ aw_tw := aw_in3 (List.mem_of_getElem? (i := 190) rfl) rfl
theorem n_fl_Md_41 : Cond.fieldLink "AddressTermsModel" 41 "AddressTermsModel" "addresses" "[I" ∈ aw_tw := aw_in3 (List.mem_of_getElem? (i := 191) rfl) rfl
theorem n_fl_Md_93 : Cond.fieldLink "AddressTermsModel" 93 "AddressTermsModel" "made" "I" ∈ aw_tw := aw_in3 (List.mem_of_getElem? (i := 192) rfl) rfl
theorem n_fl_Md_44 : Cond.fieldLink "AddressTermsModel" 44 "AddressTermsModel" "row" "[I" ∈ aw_tw := aw_in3 (List.mem_of_getElem? (i := 193) rfl) rfl
theorem n_fl_Md_96 : Cond.fieldLink "AddressTermsModel" 96 "AddressTermsModel" "madeTag" "I" ∈ aw_tw := aw_in3 (List.mem_of_getElem? (i := 194) rfl) rfl
theorem n_fl_Md_47 : Cond.fieldLink "AddressTermsModel" 47 "AddressTermsModel" "tag" "[I" ∈ aw_tw := aw_in3 (List.mem_of_getElem? (i := 195) rfl) rfl
theorem n_fl_Md_226 : Cond.fieldLink "AddressTermsModel" 226 "AddressTermsModel" "printedMany" "I" ∈ aw_tw := aw_in3 (List.mem_of_getElem? (i := 196) rfl) rfl
theorem n_fl_Md_50 : Cond.fieldLink "AddressTermsModel" 50 "AddressTermsModel" "printed" "[I" ∈ aw_tw := aw_in3 (List.mem_of_getElem? (i := 197) rfl) rfl
theorem n_fl_Md_109 : Cond.fieldLink "AddressTermsModel" 109 "AddressTermsModel" "refMany" "I" ∈ aw_tw := aw_in3 (List.mem_of_getElem? (i := 198) rfl) rfl
theorem n_fl_Md_53 : Cond.fieldLink "AddressTermsModel" 53 "AddressTermsModel" "ref" "[I" ∈ aw_tw := aw_in3 (List.mem_of_getElem? (i := 199) rfl) rfl
theorem n_fl_Md_56 : Cond.fieldLink "AddressTermsModel" 56 "AddressTermsModel" "froms" "[I" ∈ aw_tw := aw_in3 (List.mem_of_getElem? (i := 200) rfl) rfl
theorem n_fl_Md_59 : Cond.fieldLink "AddressTermsModel" 59 "AddressTermsModel" "tos" "[I" ∈ aw_tw := aw_in3 (List.mem_of_getElem? (i := 201) rfl) rfl
theorem n_fl_Md_62 : Cond.fieldLink "AddressTermsModel" 62 "AddressTermsModel" "baseFroms" "[I" ∈ aw_tw := aw_in3 (List.mem_of_getElem? (i := 202) rfl) rfl
theorem n_fl_Md_65 : Cond.fieldLink "AddressTermsModel" 65 "AddressTermsModel" "baseTos" "[I" ∈ aw_tw := aw_in3 (List.mem_of_getElem? (i := 203) rfl) rfl
theorem n_fl_Md_129 : Cond.fieldLink "AddressTermsModel" 129 "AddressTermsModel" "inMany" "I" ∈ aw_tw := aw_in3 (List.mem_of_getElem? (i := 204) rfl) rfl
theorem n_fl_Md_68 : Cond.fieldLink "AddressTermsModel" 68 "AddressTermsModel" "in" "[I" ∈ aw_tw := aw_in3 (List.mem_of_getElem? (i := 205) rfl) rfl
theorem n_fl_Md_132 : Cond.fieldLink "AddressTermsModel" 132 "AddressTermsModel" "outMany" "I" ∈ aw_tw := aw_in3 (List.mem_of_getElem? (i := 206) rfl) rfl
theorem n_fl_Md_71 : Cond.fieldLink "AddressTermsModel" 71 "AddressTermsModel" "out" "[I" ∈ aw_tw := aw_in3 (List.mem_of_getElem? (i := 207) rfl) rfl
theorem n_la_Md_tapeMany : Cond.lays "AddressTermsModel" "AddressTermsModel" "tapeMany" "I" ∈ aw_tw := aw_in3 (List.mem_of_getElem? (i := 208) rfl) rfl
theorem n_la_Md_tape : Cond.laysFinal "AddressTermsModel" "AddressTermsModel" "tape" "[I" ∈ aw_tw := aw_in3 (List.mem_of_getElem? (i := 210) rfl) rfl
theorem n_la_Md_terms : Cond.lays "AddressTermsModel" "AddressTermsModel" "terms" "I" ∈ aw_tw := aw_in3 (List.mem_of_getElem? (i := 212) rfl) rfl
theorem n_la_Md_kinds : Cond.laysFinal "AddressTermsModel" "AddressTermsModel" "kinds" "[I" ∈ aw_tw := aw_in3 (List.mem_of_getElem? (i := 214) rfl) rfl
theorem n_la_Md_numbers : Cond.laysFinal "AddressTermsModel" "AddressTermsModel" "numbers" "[I" ∈ aw_tw := aw_in3 (List.mem_of_getElem? (i := 216) rfl) rfl
theorem n_la_Md_sizes : Cond.laysFinal "AddressTermsModel" "AddressTermsModel" "sizes" "[I" ∈ aw_tw := aw_in3 (List.mem_of_getElem? (i := 218) rfl) rfl
theorem n_la_Md_bytes : Cond.laysFinal "AddressTermsModel" "AddressTermsModel" "bytes" "[I" ∈ aw_tw := aw_in3 (List.mem_of_getElem? (i := 220) rfl) rfl
theorem n_la_Md_tagSizes : Cond.laysFinal "AddressTermsModel" "AddressTermsModel" "tagSizes" "[I" ∈ aw_tw := aw_in3 (List.mem_of_getElem? (i := 222) rfl) rfl
theorem n_la_Md_tags : Cond.laysFinal "AddressTermsModel" "AddressTermsModel" "tags" "[I" ∈ aw_tw := aw_in3 (List.mem_of_getElem? (i := 224) rfl) rfl
theorem n_la_Md_base : Cond.lays "AddressTermsModel" "AddressTermsModel" "base" "I" ∈ aw_tw := aw_in3 (List.mem_of_getElem? (i := 226) rfl) rfl
theorem n_la_Md_prefixes : Cond.lays "AddressTermsModel" "AddressTermsModel" "prefixes" "I" ∈ aw_tw := aw_in3 (List.mem_of_getElem? (i := 228) rfl) rfl
theorem n_la_Md_nameSizes : Cond.laysFinal "AddressTermsModel" "AddressTermsModel" "nameSizes" "[I" ∈ aw_tw := aw_in3 (List.mem_of_getElem? (i := 230) rfl) rfl
theorem n_la_Md_names : Cond.laysFinal "AddressTermsModel" "AddressTermsModel" "names" "[I" ∈ aw_tw := aw_in3 (List.mem_of_getElem? (i := 232) rfl) rfl
theorem n_la_Md_addresses : Cond.laysFinal "AddressTermsModel" "AddressTermsModel" "addresses" "[I" ∈ aw_tw := aw_in3 (List.mem_of_getElem? (i := 234) rfl) rfl
theorem n_la_Md_made : Cond.lays "AddressTermsModel" "AddressTermsModel" "made" "I" ∈ aw_tw := aw_in3 (List.mem_of_getElem? (i := 236) rfl) rfl
theorem n_la_Md_row : Cond.laysFinal "AddressTermsModel" "AddressTermsModel" "row" "[I" ∈ aw_tw := aw_in3 (List.mem_of_getElem? (i := 238) rfl) rfl
theorem n_la_Md_madeTag : Cond.lays "AddressTermsModel" "AddressTermsModel" "madeTag" "I" ∈ aw_tw := aw_in4 (List.mem_of_getElem? (i := 0) rfl) rfl
theorem n_la_Md_tag : Cond.laysFinal "AddressTermsModel" "AddressTermsModel" "tag" "[I" ∈ aw_tw := aw_in4 (List.mem_of_getElem? (i := 2) rfl) rfl
theorem n_la_Md_printedMany : Cond.lays "AddressTermsModel" "AddressTermsModel" "printedMany" "I" ∈ aw_tw := aw_in4 (List.mem_of_getElem? (i := 4) rfl) rfl
theorem n_la_Md_printed : Cond.laysFinal "AddressTermsModel" "AddressTermsModel" "printed" "[I" ∈ aw_tw := aw_in4 (List.mem_of_getElem? (i := 6) rfl) rfl
theorem n_la_Md_refMany : Cond.lays "AddressTermsModel" "AddressTermsModel" "refMany" "I" ∈ aw_tw := aw_in4 (List.mem_of_getElem? (i := 8) rfl) rfl
theorem n_la_Md_ref : Cond.laysFinal "AddressTermsModel" "AddressTermsModel" "ref" "[I" ∈ aw_tw := aw_in4 (List.mem_of_getElem? (i := 10) rfl) rfl
theorem n_la_Md_froms : Cond.laysFinal "AddressTermsModel" "AddressTermsModel" "froms" "[I" ∈ aw_tw := aw_in4 (List.mem_of_getElem? (i := 12) rfl) rfl
theorem n_la_Md_tos : Cond.laysFinal "AddressTermsModel" "AddressTermsModel" "tos" "[I" ∈ aw_tw := aw_in4 (List.mem_of_getElem? (i := 14) rfl) rfl
theorem n_la_Md_baseFroms : Cond.laysFinal "AddressTermsModel" "AddressTermsModel" "baseFroms" "[I" ∈ aw_tw := aw_in4 (List.mem_of_getElem? (i := 16) rfl) rfl
theorem n_la_Md_baseTos : Cond.laysFinal "AddressTermsModel" "AddressTermsModel" "baseTos" "[I" ∈ aw_tw := aw_in4 (List.mem_of_getElem? (i := 18) rfl) rfl
theorem n_la_Md_inMany : Cond.lays "AddressTermsModel" "AddressTermsModel" "inMany" "I" ∈ aw_tw := aw_in4 (List.mem_of_getElem? (i := 20) rfl) rfl
theorem n_la_Md_in : Cond.laysFinal "AddressTermsModel" "AddressTermsModel" "in" "[I" ∈ aw_tw := aw_in4 (List.mem_of_getElem? (i := 22) rfl) rfl
theorem n_la_Md_outMany : Cond.lays "AddressTermsModel" "AddressTermsModel" "outMany" "I" ∈ aw_tw := aw_in4 (List.mem_of_getElem? (i := 24) rfl) rfl
theorem n_la_Md_out : Cond.laysFinal "AddressTermsModel" "AddressTermsModel" "out" "[I" ∈ aw_tw := aw_in4 (List.mem_of_getElem? (i := 26) rfl) rfl
theorem n_ml_Lw_19 : Cond.methodLink "AddressTermsLaw" 19 y_Md_type ∈ aw_tw := aw_in4 (List.mem_of_getElem? (i := 29) rfl) rfl
theorem n_im_Md_type : Cond.instanceMethod y_Md_type ∈ aw_tw := aw_in4 (List.mem_of_getElem? (i := 30) rfl) rfl
theorem n_se_Md_type : Cond.selects (y_Md_type).cls y_Md_type y_Md_type ∈ aw_tw := aw_in4 (List.mem_of_getElem? (i := 31) rfl) rfl
theorem n_co_Md_type : Cond.code y_Md_type c_Md_type 6 (some .int) ∈ aw_tw := aw_in4 (List.mem_of_getElem? (i := 32) rfl) rfl
theorem n_ml_Md_77 : Cond.methodLink "AddressTermsModel" 77 y_Md_is ∈ aw_tw := aw_in4 (List.mem_of_getElem? (i := 33) rfl) rfl
theorem n_st_Md_is : Cond.static y_Md_is ∈ aw_tw := aw_in4 (List.mem_of_getElem? (i := 34) rfl) rfl
theorem n_co_Md_is : Cond.code y_Md_is c_Md_is 3 (some .boolean) ∈ aw_tw := aw_in4 (List.mem_of_getElem? (i := 35) rfl) rfl
theorem n_ct_Md_88 : Cond.constantLong "AddressTermsModel" 88 (255) ∈ aw_tw := aw_in4 (List.mem_of_getElem? (i := 36) rfl) rfl
theorem n_ml_Lw_33 : Cond.methodLink "AddressTermsLaw" 33 y_Md_label ∈ aw_tw := aw_in4 (List.mem_of_getElem? (i := 37) rfl) rfl
theorem n_im_Md_label : Cond.instanceMethod y_Md_label ∈ aw_tw := aw_in4 (List.mem_of_getElem? (i := 38) rfl) rfl
theorem n_se_Md_label : Cond.selects (y_Md_label).cls y_Md_label y_Md_label ∈ aw_tw := aw_in4 (List.mem_of_getElem? (i := 39) rfl) rfl
theorem n_co_Md_label : Cond.code y_Md_label c_Md_label 2 (some .int) ∈ aw_tw := aw_in4 (List.mem_of_getElem? (i := 40) rfl) rfl
theorem n_ml_Md_106 : Cond.methodLink "AddressTermsModel" 106 y_Md_note ∈ aw_tw := aw_in4 (List.mem_of_getElem? (i := 41) rfl) rfl
theorem n_im_Md_note : Cond.instanceMethod y_Md_note ∈ aw_tw := aw_in4 (List.mem_of_getElem? (i := 43) rfl) rfl
theorem n_co_Md_note : Cond.code y_Md_note c_Md_note 5 (some .int) ∈ aw_tw := aw_in4 (List.mem_of_getElem? (i := 44) rfl) rfl
theorem n_ml_Md_99 : Cond.methodLink "AddressTermsModel" 99 y_Md_find ∈ aw_tw := aw_in4 (List.mem_of_getElem? (i := 45) rfl) rfl
theorem n_im_Md_find : Cond.instanceMethod y_Md_find ∈ aw_tw := aw_in4 (List.mem_of_getElem? (i := 47) rfl) rfl
theorem n_co_Md_find : Cond.code y_Md_find c_Md_find 6 (some .int) ∈ aw_tw := aw_in4 (List.mem_of_getElem? (i := 48) rfl) rfl
theorem n_ml_Lw_24 : Cond.methodLink "AddressTermsLaw" 24 y_Md_resolve ∈ aw_tw := aw_in4 (List.mem_of_getElem? (i := 49) rfl) rfl
theorem n_im_Md_resolve : Cond.instanceMethod y_Md_resolve ∈ aw_tw := aw_in4 (List.mem_of_getElem? (i := 50) rfl) rfl
theorem n_se_Md_resolve : Cond.selects (y_Md_resolve).cls y_Md_resolve y_Md_resolve ∈ aw_tw := aw_in4 (List.mem_of_getElem? (i := 51) rfl) rfl
theorem n_co_Md_resolve : Cond.code y_Md_resolve c_Md_resolve 4 (some .int) ∈ aw_tw := aw_in4 (List.mem_of_getElem? (i := 52) rfl) rfl
theorem n_ml_Md_171 : Cond.methodLink "AddressTermsModel" 171 y_Md_wrong ∈ aw_tw := aw_in4 (List.mem_of_getElem? (i := 53) rfl) rfl
theorem n_im_Md_wrong : Cond.instanceMethod y_Md_wrong ∈ aw_tw := aw_in4 (List.mem_of_getElem? (i := 55) rfl) rfl
theorem n_co_Md_wrong : Cond.code y_Md_wrong c_Md_wrong 4 (some .int) ∈ aw_tw := aw_in4 (List.mem_of_getElem? (i := 56) rfl) rfl
theorem n_ml_Md_126 : Cond.methodLink "AddressTermsModel" 126 y_Md_hex ∈ aw_tw := aw_in4 (List.mem_of_getElem? (i := 57) rfl) rfl
theorem n_st_Md_hex : Cond.static y_Md_hex ∈ aw_tw := aw_in4 (List.mem_of_getElem? (i := 58) rfl) rfl
theorem n_co_Md_hex : Cond.code y_Md_hex c_Md_hex 1 (some .int) ∈ aw_tw := aw_in4 (List.mem_of_getElem? (i := 59) rfl) rfl
theorem n_ml_Md_85 : Cond.methodLink "AddressTermsModel" 85 y_Md_isDigit ∈ aw_tw := aw_in4 (List.mem_of_getElem? (i := 60) rfl) rfl
theorem n_st_Md_isDigit : Cond.static y_Md_isDigit ∈ aw_tw := aw_in4 (List.mem_of_getElem? (i := 61) rfl) rfl
theorem n_co_Md_isDigit : Cond.code y_Md_isDigit c_Md_isDigit 1 (some .boolean) ∈ aw_tw := aw_in4 (List.mem_of_getElem? (i := 62) rfl) rfl
theorem n_ml_Md_175 : Cond.methodLink "AddressTermsModel" 175 y_Md_resolveAgainst ∈ aw_tw := aw_in4 (List.mem_of_getElem? (i := 63) rfl) rfl
theorem n_im_Md_resolveAgainst : Cond.instanceMethod y_Md_resolveAgainst ∈ aw_tw := aw_in4 (List.mem_of_getElem? (i := 65) rfl) rfl
theorem n_co_Md_resolveAgainst : Cond.code y_Md_resolveAgainst c_Md_resolveAgainst 5 none ∈ aw_tw := aw_in4 (List.mem_of_getElem? (i := 66) rfl) rfl
theorem n_ml_Md_149 : Cond.methodLink "AddressTermsModel" 149 y_Md_take ∈ aw_tw := aw_in4 (List.mem_of_getElem? (i := 67) rfl) rfl
theorem n_im_Md_take : Cond.instanceMethod y_Md_take ∈ aw_tw := aw_in4 (List.mem_of_getElem? (i := 69) rfl) rfl
theorem n_co_Md_take : Cond.code y_Md_take c_Md_take 3 none ∈ aw_tw := aw_in4 (List.mem_of_getElem? (i := 70) rfl) rfl
theorem n_ml_Md_123 : Cond.methodLink "AddressTermsModel" 123 y_Md_split ∈ aw_tw := aw_in4 (List.mem_of_getElem? (i := 71) rfl) rfl
theorem n_im_Md_split : Cond.instanceMethod y_Md_split ∈ aw_tw := aw_in4 (List.mem_of_getElem? (i := 73) rfl) rfl
theorem n_co_Md_split : Cond.code y_Md_split c_Md_split 3 none ∈ aw_tw := aw_in4 (List.mem_of_getElem? (i := 74) rfl) rfl
theorem n_ml_Md_112 : Cond.methodLink "AddressTermsModel" 112 y_Md_refAt ∈ aw_tw := aw_in4 (List.mem_of_getElem? (i := 75) rfl) rfl
theorem n_im_Md_refAt : Cond.instanceMethod y_Md_refAt ∈ aw_tw := aw_in4 (List.mem_of_getElem? (i := 77) rfl) rfl
theorem n_co_Md_refAt : Cond.code y_Md_refAt c_Md_refAt 2 (some .int) ∈ aw_tw := aw_in4 (List.mem_of_getElem? (i := 78) rfl) rfl
theorem n_ml_Md_116 : Cond.methodLink "AddressTermsModel" 116 y_Md_isLetter ∈ aw_tw := aw_in4 (List.mem_of_getElem? (i := 79) rfl) rfl
theorem n_st_Md_isLetter : Cond.static y_Md_isLetter ∈ aw_tw := aw_in4 (List.mem_of_getElem? (i := 80) rfl) rfl
theorem n_co_Md_isLetter : Cond.code y_Md_isLetter c_Md_isLetter 1 (some .boolean) ∈ aw_tw := aw_in4 (List.mem_of_getElem? (i := 81) rfl) rfl
theorem n_ml_Md_81 : Cond.methodLink "AddressTermsModel" 81 y_Md_isSmall ∈ aw_tw := aw_in4 (List.mem_of_getElem? (i := 82) rfl) rfl
theorem n_st_Md_isSmall : Cond.static y_Md_isSmall ∈ aw_tw := aw_in4 (List.mem_of_getElem? (i := 83) rfl) rfl
theorem n_co_Md_isSmall : Cond.code y_Md_isSmall c_Md_isSmall 1 (some .boolean) ∈ aw_tw := aw_in4 (List.mem_of_getElem? (i := 84) rfl) rfl
theorem n_ml_Md_119 : Cond.methodLink "AddressTermsModel" 119 y_Md_stop ∈ aw_tw := aw_in4 (List.mem_of_getElem? (i := 85) rfl) rfl
theorem n_im_Md_stop : Cond.instanceMethod y_Md_stop ∈ aw_tw := aw_in4 (List.mem_of_getElem? (i := 87) rfl) rfl
theorem n_co_Md_stop : Cond.code y_Md_stop c_Md_stop 5 (some .int) ∈ aw_tw := aw_in4 (List.mem_of_getElem? (i := 88) rfl) rfl
theorem n_ml_Md_152 : Cond.methodLink "AddressTermsModel" 152 y_Md_addRef ∈ aw_tw := aw_in4 (List.mem_of_getElem? (i := 89) rfl) rfl
theorem n_im_Md_addRef : Cond.instanceMethod y_Md_addRef ∈ aw_tw := aw_in4 (List.mem_of_getElem? (i := 91) rfl) rfl
theorem n_co_Md_addRef : Cond.code y_Md_addRef c_Md_addRef 4 none ∈ aw_tw := aw_in4 (List.mem_of_getElem? (i := 92) rfl) rfl
theorem n_ml_Md_146 : Cond.methodLink "AddressTermsModel" 146 y_Md_add ∈ aw_tw := aw_in4 (List.mem_of_getElem? (i := 93) rfl) rfl
theorem n_im_Md_add : Cond.instanceMethod y_Md_add ∈ aw_tw := aw_in4 (List.mem_of_getElem? (i := 95) rfl) rfl
theorem n_co_Md_add : Cond.code y_Md_add c_Md_add 2 none ∈ aw_tw := aw_in4 (List.mem_of_getElem? (i := 96) rfl) rfl
theorem n_ml_Md_156 : Cond.methodLink "AddressTermsModel" 156 y_Md_addBase ∈ aw_tw := aw_in4 (List.mem_of_getElem? (i := 97) rfl) rfl
theorem n_im_Md_addBase : Cond.instanceMethod y_Md_addBase ∈ aw_tw := aw_in4 (List.mem_of_getElem? (i := 99) rfl) rfl
theorem n_co_Md_addBase : Cond.code y_Md_addBase c_Md_addBase 4 none ∈ aw_tw := aw_in4 (List.mem_of_getElem? (i := 100) rfl) rfl
theorem n_ml_Md_159 : Cond.methodLink "AddressTermsModel" 159 y_Md_lead ∈ aw_tw := aw_in4 (List.mem_of_getElem? (i := 101) rfl) rfl
theorem n_im_Md_lead : Cond.instanceMethod y_Md_lead ∈ aw_tw := aw_in4 (List.mem_of_getElem? (i := 103) rfl) rfl
theorem n_co_Md_lead : Cond.code y_Md_lead c_Md_lead 3 none ∈ aw_tw := aw_in4 (List.mem_of_getElem? (i := 104) rfl) rfl
theorem n_ml_Md_162 : Cond.methodLink "AddressTermsModel" 162 y_Md_merge ∈ aw_tw := aw_in4 (List.mem_of_getElem? (i := 105) rfl) rfl
theorem n_im_Md_merge : Cond.instanceMethod y_Md_merge ∈ aw_tw := aw_in4 (List.mem_of_getElem? (i := 107) rfl) rfl
theorem n_co_Md_merge : Cond.code y_Md_merge c_Md_merge 3 none ∈ aw_tw := aw_in4 (List.mem_of_getElem? (i := 108) rfl) rfl
theorem n_ml_Md_165 : Cond.methodLink "AddressTermsModel" 165 y_Md_feed ∈ aw_tw := aw_in4 (List.mem_of_getElem? (i := 109) rfl) rfl
theorem n_im_Md_feed : Cond.instanceMethod y_Md_feed ∈ aw_tw := aw_in4 (List.mem_of_getElem? (i := 111) rfl) rfl
theorem n_co_Md_feed : Cond.code y_Md_feed c_Md_feed 4 none ∈ aw_tw := aw_in4 (List.mem_of_getElem? (i := 112) rfl) rfl
theorem n_ml_Md_168 : Cond.methodLink "AddressTermsModel" 168 y_Md_plain ∈ aw_tw := aw_in4 (List.mem_of_getElem? (i := 113) rfl) rfl
theorem n_im_Md_plain : Cond.instanceMethod y_Md_plain ∈ aw_tw := aw_in4 (List.mem_of_getElem? (i := 115) rfl) rfl
theorem n_co_Md_plain : Cond.code y_Md_plain c_Md_plain 3 none ∈ aw_tw := aw_in4 (List.mem_of_getElem? (i := 116) rfl) rfl
theorem n_ml_Md_135 : Cond.methodLink "AddressTermsModel" 135 y_Md_begins ∈ aw_tw := aw_in4 (List.mem_of_getElem? (i := 117) rfl) rfl
theorem n_im_Md_begins : Cond.instanceMethod y_Md_begins ∈ aw_tw := aw_in4 (List.mem_of_getElem? (i := 119) rfl) rfl
theorem n_co_Md_begins : Cond.code y_Md_begins c_Md_begins 5 (some .boolean) ∈ aw_tw := aw_in4 (List.mem_of_getElem? (i := 120) rfl) rfl
theorem n_ml_Md_139 : Cond.methodLink "AddressTermsModel" 139 y_Md_skip ∈ aw_tw := aw_in4 (List.mem_of_getElem? (i := 121) rfl) rfl
theorem n_im_Md_skip : Cond.instanceMethod y_Md_skip ∈ aw_tw := aw_in4 (List.mem_of_getElem? (i := 123) rfl) rfl
theorem n_co_Md_skip : Cond.code y_Md_skip c_Md_skip 3 none ∈ aw_tw := aw_in4 (List.mem_of_getElem? (i := 124) rfl) rfl
theorem n_ml_Md_143 : Cond.methodLink "AddressTermsModel" 143 y_Md_back ∈ aw_tw := aw_in4 (List.mem_of_getElem? (i := 125) rfl) rfl
theorem n_im_Md_back : Cond.instanceMethod y_Md_back ∈ aw_tw := aw_in4 (List.mem_of_getElem? (i := 127) rfl) rfl
theorem n_co_Md_back : Cond.code y_Md_back c_Md_back 2 none ∈ aw_tw := aw_in4 (List.mem_of_getElem? (i := 128) rfl) rfl
theorem n_ml_Lw_29 : Cond.methodLink "AddressTermsLaw" 29 y_Md_base ∈ aw_tw := aw_in4 (List.mem_of_getElem? (i := 129) rfl) rfl
theorem n_im_Md_base : Cond.instanceMethod y_Md_base ∈ aw_tw := aw_in4 (List.mem_of_getElem? (i := 130) rfl) rfl
theorem n_se_Md_base : Cond.selects (y_Md_base).cls y_Md_base y_Md_base ∈ aw_tw := aw_in4 (List.mem_of_getElem? (i := 131) rfl) rfl
theorem n_co_Md_base : Cond.code y_Md_base c_Md_base 2 (some .int) ∈ aw_tw := aw_in4 (List.mem_of_getElem? (i := 132) rfl) rfl
theorem n_ml_Md_178 : Cond.methodLink "AddressTermsModel" 178 y_Md_isAddress ∈ aw_tw := aw_in4 (List.mem_of_getElem? (i := 133) rfl) rfl
theorem n_im_Md_isAddress : Cond.instanceMethod y_Md_isAddress ∈ aw_tw := aw_in4 (List.mem_of_getElem? (i := 135) rfl) rfl
theorem n_co_Md_isAddress : Cond.code y_Md_isAddress c_Md_isAddress 2 (some .boolean) ∈ aw_tw := aw_in4 (List.mem_of_getElem? (i := 136) rfl) rfl
theorem n_ml_Md_103 : Cond.methodLink "AddressTermsModel" 103 y_Md_isTerm ∈ aw_tw := aw_in4 (List.mem_of_getElem? (i := 137) rfl) rfl
theorem n_im_Md_isTerm : Cond.instanceMethod y_Md_isTerm ∈ aw_tw := aw_in4 (List.mem_of_getElem? (i := 139) rfl) rfl
theorem n_co_Md_isTerm : Cond.code y_Md_isTerm c_Md_isTerm 2 (some .boolean) ∈ aw_tw := aw_in4 (List.mem_of_getElem? (i := 140) rfl) rfl
theorem n_ml_Lw_37 : Cond.methodLink "AddressTermsLaw" 37 y_Md_literal ∈ aw_tw := aw_in4 (List.mem_of_getElem? (i := 141) rfl) rfl
theorem n_im_Md_literal : Cond.instanceMethod y_Md_literal ∈ aw_tw := aw_in4 (List.mem_of_getElem? (i := 142) rfl) rfl
theorem n_se_Md_literal : Cond.selects (y_Md_literal).cls y_Md_literal y_Md_literal ∈ aw_tw := aw_in4 (List.mem_of_getElem? (i := 143) rfl) rfl
theorem n_co_Md_literal : Cond.code y_Md_literal c_Md_literal 6 (some .int) ∈ aw_tw := aw_in4 (List.mem_of_getElem? (i := 144) rfl) rfl
theorem n_ml_Md_184 : Cond.methodLink "AddressTermsModel" 184 y_Md_escaped ∈ aw_tw := aw_in4 (List.mem_of_getElem? (i := 145) rfl) rfl
theorem n_im_Md_escaped : Cond.instanceMethod y_Md_escaped ∈ aw_tw := aw_in4 (List.mem_of_getElem? (i := 147) rfl) rfl
theorem n_co_Md_escaped : Cond.code y_Md_escaped c_Md_escaped 6 (some .int) ∈ aw_tw := aw_in4 (List.mem_of_getElem? (i := 148) rfl) rfl
theorem n_ml_Md_181 : Cond.methodLink "AddressTermsModel" 181 y_Md_isText ∈ aw_tw := aw_in4 (List.mem_of_getElem? (i := 149) rfl) rfl
theorem n_st_Md_isText : Cond.static y_Md_isText ∈ aw_tw := aw_in4 (List.mem_of_getElem? (i := 150) rfl) rfl
theorem n_co_Md_isText : Cond.code y_Md_isText c_Md_isText 1 (some .boolean) ∈ aw_tw := aw_in4 (List.mem_of_getElem? (i := 151) rfl) rfl
theorem n_ml_Lw_41 : Cond.methodLink "AddressTermsLaw" 41 y_Md_tagged ∈ aw_tw := aw_in4 (List.mem_of_getElem? (i := 152) rfl) rfl
theorem n_im_Md_tagged : Cond.instanceMethod y_Md_tagged ∈ aw_tw := aw_in4 (List.mem_of_getElem? (i := 153) rfl) rfl
theorem n_se_Md_tagged : Cond.selects (y_Md_tagged).cls y_Md_tagged y_Md_tagged ∈ aw_tw := aw_in4 (List.mem_of_getElem? (i := 154) rfl) rfl
theorem n_co_Md_tagged : Cond.code y_Md_tagged c_Md_tagged 9 (some .int) ∈ aw_tw := aw_in4 (List.mem_of_getElem? (i := 155) rfl) rfl
theorem n_ml_Lw_45 : Cond.methodLink "AddressTermsLaw" 45 y_Md_prefix ∈ aw_tw := aw_in4 (List.mem_of_getElem? (i := 156) rfl) rfl
theorem n_im_Md_prefix : Cond.instanceMethod y_Md_prefix ∈ aw_tw := aw_in4 (List.mem_of_getElem? (i := 157) rfl) rfl
theorem n_se_Md_prefix : Cond.selects (y_Md_prefix).cls y_Md_prefix y_Md_prefix ∈ aw_tw := aw_in4 (List.mem_of_getElem? (i := 158) rfl) rfl
theorem n_co_Md_prefix : Cond.code y_Md_prefix c_Md_prefix 7 (some .int) ∈ aw_tw := aw_in4 (List.mem_of_getElem? (i := 159) rfl) rfl
theorem n_ml_Lw_50 : Cond.methodLink "AddressTermsLaw" 50 y_Md_part ∈ aw_tw := aw_in4 (List.mem_of_getElem? (i := 160) rfl) rfl
theorem n_im_Md_part : Cond.instanceMethod y_Md_part ∈ aw_tw := aw_in4 (List.mem_of_getElem? (i := 161) rfl) rfl
theorem n_se_Md_part : Cond.selects (y_Md_part).cls y_Md_part y_Md_part ∈ aw_tw := aw_in4 (List.mem_of_getElem? (i := 162) rfl) rfl
theorem n_co_Md_part : Cond.code y_Md_part c_Md_part 3 (some .int) ∈ aw_tw := aw_in4 (List.mem_of_getElem? (i := 163) rfl) rfl
theorem n_ml_Lw_54 : Cond.methodLink "AddressTermsLaw" 54 y_Md_kind ∈ aw_tw := aw_in4 (List.mem_of_getElem? (i := 164) rfl) rfl
theorem n_im_Md_kind : Cond.instanceMethod y_Md_kind ∈ aw_tw := aw_in4 (List.mem_of_getElem? (i := 165) rfl) rfl
theorem n_se_Md_kind : Cond.selects (y_Md_kind).cls y_Md_kind y_Md_kind ∈ aw_tw := aw_in4 (List.mem_of_getElem? (i := 166) rfl) rfl
theorem n_co_Md_kind : Cond.code y_Md_kind c_Md_kind 2 (some .int) ∈ aw_tw := aw_in4 (List.mem_of_getElem? (i := 167) rfl) rfl
theorem n_ml_Lw_58 : Cond.methodLink "AddressTermsLaw" 58 y_Md_sort ∈ aw_tw := aw_in4 (List.mem_of_getElem? (i := 168) rfl) rfl
theorem n_im_Md_sort : Cond.instanceMethod y_Md_sort ∈ aw_tw := aw_in4 (List.mem_of_getElem? (i := 169) rfl) rfl
theorem n_se_Md_sort : Cond.selects (y_Md_sort).cls y_Md_sort y_Md_sort ∈ aw_tw := aw_in4 (List.mem_of_getElem? (i := 170) rfl) rfl
theorem n_co_Md_sort : Cond.code y_Md_sort c_Md_sort 2 (some .int) ∈ aw_tw := aw_in4 (List.mem_of_getElem? (i := 171) rfl) rfl
theorem n_ml_Lw_62 : Cond.methodLink "AddressTermsLaw" 62 y_Md_alike ∈ aw_tw := aw_in4 (List.mem_of_getElem? (i := 172) rfl) rfl
theorem n_im_Md_alike : Cond.instanceMethod y_Md_alike ∈ aw_tw := aw_in4 (List.mem_of_getElem? (i := 173) rfl) rfl
theorem n_se_Md_alike : Cond.selects (y_Md_alike).cls y_Md_alike y_Md_alike ∈ aw_tw := aw_in4 (List.mem_of_getElem? (i := 174) rfl) rfl
theorem n_co_Md_alike : Cond.code y_Md_alike c_Md_alike 3 (some .int) ∈ aw_tw := aw_in4 (List.mem_of_getElem? (i := 175) rfl) rfl
theorem n_ml_Md_204 : Cond.methodLink "AddressTermsModel" 204 y_Md_isWhole ∈ aw_tw := aw_in4 (List.mem_of_getElem? (i := 176) rfl) rfl
theorem n_im_Md_isWhole : Cond.instanceMethod y_Md_isWhole ∈ aw_tw := aw_in4 (List.mem_of_getElem? (i := 178) rfl) rfl
theorem n_co_Md_isWhole : Cond.code y_Md_isWhole c_Md_isWhole 5 (some .boolean) ∈ aw_tw := aw_in4 (List.mem_of_getElem? (i := 179) rfl) rfl
theorem n_ml_Md_207 : Cond.methodLink "AddressTermsModel" 207 y_Md_whole ∈ aw_tw := aw_in4 (List.mem_of_getElem? (i := 180) rfl) rfl
theorem n_im_Md_whole : Cond.instanceMethod y_Md_whole ∈ aw_tw := aw_in4 (List.mem_of_getElem? (i := 182) rfl) rfl
theorem n_co_Md_whole : Cond.code y_Md_whole c_Md_whole 5 (some .long) ∈ aw_tw := aw_in4 (List.mem_of_getElem? (i := 183) rfl) rfl
theorem n_ct_Md_190 : Cond.constantLong "AddressTermsModel" 190 (10) ∈ aw_tw := aw_in4 (List.mem_of_getElem? (i := 184) rfl) rfl
theorem n_ct_Md_192 : Cond.constantLong "AddressTermsModel" 192 (48) ∈ aw_tw := aw_in4 (List.mem_of_getElem? (i := 185) rfl) rfl
theorem n_ml_Md_211 : Cond.methodLink "AddressTermsModel" 211 y_Md_truth ∈ aw_tw := aw_in4 (List.mem_of_getElem? (i := 186) rfl) rfl
theorem n_im_Md_truth : Cond.instanceMethod y_Md_truth ∈ aw_tw := aw_in4 (List.mem_of_getElem? (i := 188) rfl) rfl
theorem n_co_Md_truth : Cond.code y_Md_truth c_Md_truth 2 (some .int) ∈ aw_tw := aw_in4 (List.mem_of_getElem? (i := 189) rfl) rfl
theorem n_ct_Md_194 : Cond.constantLong "AddressTermsModel" 194 (1953658213) ∈ aw_tw := aw_in4 (List.mem_of_getElem? (i := 190) rfl) rfl
theorem n_ml_Md_196 : Cond.methodLink "AddressTermsModel" 196 y_Md_isBytes ∈ aw_tw := aw_in4 (List.mem_of_getElem? (i := 191) rfl) rfl
theorem n_im_Md_isBytes : Cond.instanceMethod y_Md_isBytes ∈ aw_tw := aw_in4 (List.mem_of_getElem? (i := 193) rfl) rfl
theorem n_co_Md_isBytes : Cond.code y_Md_isBytes c_Md_isBytes 7 (some .boolean) ∈ aw_tw := aw_in4 (List.mem_of_getElem? (i := 194) rfl) rfl
theorem n_ct_Md_200 : Cond.constantLong "AddressTermsModel" 200 (49) ∈ aw_tw := aw_in4 (List.mem_of_getElem? (i := 195) rfl) rfl
theorem n_ct_Md_202 : Cond.constantLong "AddressTermsModel" 202 (439721161573) ∈ aw_tw := aw_in4 (List.mem_of_getElem? (i := 196) rfl) rfl
theorem n_ml_Lw_66 : Cond.methodLink "AddressTermsLaw" 66 y_Md_compare ∈ aw_tw := aw_in4 (List.mem_of_getElem? (i := 197) rfl) rfl
theorem n_im_Md_compare : Cond.instanceMethod y_Md_compare ∈ aw_tw := aw_in4 (List.mem_of_getElem? (i := 198) rfl) rfl
theorem n_se_Md_compare : Cond.selects (y_Md_compare).cls y_Md_compare y_Md_compare ∈ aw_tw := aw_in4 (List.mem_of_getElem? (i := 199) rfl) rfl
theorem n_co_Md_compare : Cond.code y_Md_compare c_Md_compare 4 (some .int) ∈ aw_tw := aw_in4 (List.mem_of_getElem? (i := 200) rfl) rfl
theorem n_ml_Md_214 : Cond.methodLink "AddressTermsModel" 214 y_Md_rank ∈ aw_tw := aw_in4 (List.mem_of_getElem? (i := 201) rfl) rfl
theorem n_st_Md_rank : Cond.static y_Md_rank ∈ aw_tw := aw_in4 (List.mem_of_getElem? (i := 202) rfl) rfl
theorem n_co_Md_rank : Cond.code y_Md_rank c_Md_rank 1 (some .int) ∈ aw_tw := aw_in4 (List.mem_of_getElem? (i := 203) rfl) rfl
theorem n_ml_Md_217 : Cond.methodLink "AddressTermsModel" 217 y_Md_compareBytes ∈ aw_tw := aw_in4 (List.mem_of_getElem? (i := 204) rfl) rfl
theorem n_im_Md_compareBytes : Cond.instanceMethod y_Md_compareBytes ∈ aw_tw := aw_in4 (List.mem_of_getElem? (i := 206) rfl) rfl
theorem n_co_Md_compareBytes : Cond.code y_Md_compareBytes c_Md_compareBytes 5 (some .int) ∈ aw_tw := aw_in4 (List.mem_of_getElem? (i := 207) rfl) rfl
theorem n_ml_Md_220 : Cond.methodLink "AddressTermsModel" 220 y_Md_compareTags ∈ aw_tw := aw_in4 (List.mem_of_getElem? (i := 208) rfl) rfl
theorem n_im_Md_compareTags : Cond.instanceMethod y_Md_compareTags ∈ aw_tw := aw_in4 (List.mem_of_getElem? (i := 210) rfl) rfl
theorem n_co_Md_compareTags : Cond.code y_Md_compareTags c_Md_compareTags 5 (some .int) ∈ aw_tw := aw_in4 (List.mem_of_getElem? (i := 211) rfl) rfl
theorem n_ml_Md_223 : Cond.methodLink "AddressTermsModel" 223 y_Md_sign ∈ aw_tw := aw_in4 (List.mem_of_getElem? (i := 212) rfl) rfl
theorem n_st_Md_sign : Cond.static y_Md_sign ∈ aw_tw := aw_in4 (List.mem_of_getElem? (i := 213) rfl) rfl
theorem n_co_Md_sign : Cond.code y_Md_sign c_Md_sign 1 (some .int) ∈ aw_tw := aw_in4 (List.mem_of_getElem? (i := 214) rfl) rfl
theorem n_ml_Lw_70 : Cond.methodLink "AddressTermsLaw" 70 y_Md_print ∈ aw_tw := aw_in4 (List.mem_of_getElem? (i := 215) rfl) rfl
theorem n_im_Md_print : Cond.instanceMethod y_Md_print ∈ aw_tw := aw_in4 (List.mem_of_getElem? (i := 216) rfl) rfl
theorem n_se_Md_print : Cond.selects (y_Md_print).cls y_Md_print y_Md_print ∈ aw_tw := aw_in4 (List.mem_of_getElem? (i := 217) rfl) rfl
theorem n_co_Md_print : Cond.code y_Md_print c_Md_print 3 (some .int) ∈ aw_tw := aw_in4 (List.mem_of_getElem? (i := 218) rfl) rfl
theorem n_ml_Md_249 : Cond.methodLink "AddressTermsModel" 249 y_Md_tellAddress ∈ aw_tw := aw_in4 (List.mem_of_getElem? (i := 219) rfl) rfl
theorem n_im_Md_tellAddress : Cond.instanceMethod y_Md_tellAddress ∈ aw_tw := aw_in4 (List.mem_of_getElem? (i := 221) rfl) rfl
theorem n_co_Md_tellAddress : Cond.code y_Md_tellAddress c_Md_tellAddress 6 none ∈ aw_tw := aw_in4 (List.mem_of_getElem? (i := 222) rfl) rfl
theorem n_ml_Md_242 : Cond.methodLink "AddressTermsModel" 242 y_Md_isNameBefore ∈ aw_tw := aw_in4 (List.mem_of_getElem? (i := 223) rfl) rfl
theorem n_im_Md_isNameBefore : Cond.instanceMethod y_Md_isNameBefore ∈ aw_tw := aw_in4 (List.mem_of_getElem? (i := 225) rfl) rfl
theorem n_co_Md_isNameBefore : Cond.code y_Md_isNameBefore c_Md_isNameBefore 4 (some .boolean) ∈ aw_tw := aw_in4 (List.mem_of_getElem? (i := 226) rfl) rfl
theorem n_ml_Md_246 : Cond.methodLink "AddressTermsModel" 246 y_Md_shortens ∈ aw_tw := aw_in4 (List.mem_of_getElem? (i := 227) rfl) rfl
theorem n_im_Md_shortens : Cond.instanceMethod y_Md_shortens ∈ aw_tw := aw_in4 (List.mem_of_getElem? (i := 229) rfl) rfl
theorem n_co_Md_shortens : Cond.code y_Md_shortens c_Md_shortens 7 (some .boolean) ∈ aw_tw := aw_in4 (List.mem_of_getElem? (i := 230) rfl) rfl
theorem n_ml_Md_229 : Cond.methodLink "AddressTermsModel" 229 y_Md_tell ∈ aw_tw := aw_in4 (List.mem_of_getElem? (i := 231) rfl) rfl
theorem n_im_Md_tell : Cond.instanceMethod y_Md_tell ∈ aw_tw := aw_in4 (List.mem_of_getElem? (i := 233) rfl) rfl
theorem n_co_Md_tell : Cond.code y_Md_tell c_Md_tell 2 none ∈ aw_tw := aw_in4 (List.mem_of_getElem? (i := 234) rfl) rfl
theorem n_ct_Md_253 : Cond.constantLong "AddressTermsModel" 253 (6240866) ∈ aw_tw := aw_in4 (List.mem_of_getElem? (i := 235) rfl) rfl
theorem n_ml_Md_234 : Cond.methodLink "AddressTermsModel" 234 y_Md_tellAll ∈ aw_tw := aw_in4 (List.mem_of_getElem? (i := 236) rfl) rfl
theorem n_im_Md_tellAll : Cond.instanceMethod y_Md_tellAll ∈ aw_tw := aw_in4 (List.mem_of_getElem? (i := 238) rfl) rfl
theorem n_co_Md_tellAll : Cond.code y_Md_tellAll c_Md_tellAll 5 none ∈ aw_tw := aw_in4 (List.mem_of_getElem? (i := 239) rfl) rfl
theorem n_ml_Md_255 : Cond.methodLink "AddressTermsModel" 255 y_Md_tellNumber ∈ aw_tw := aw_in5 (List.mem_of_getElem? (i := 0) rfl) rfl
theorem n_im_Md_tellNumber : Cond.instanceMethod y_Md_tellNumber ∈ aw_tw := aw_in5 (List.mem_of_getElem? (i := 2) rfl) rfl
theorem n_co_Md_tellNumber : Cond.code y_Md_tellNumber c_Md_tellNumber 2 none ∈ aw_tw := aw_in5 (List.mem_of_getElem? (i := 3) rfl) rfl
theorem n_ml_Md_258 : Cond.methodLink "AddressTermsModel" 258 y_Md_tellLiteral ∈ aw_tw := aw_in5 (List.mem_of_getElem? (i := 4) rfl) rfl
theorem n_im_Md_tellLiteral : Cond.instanceMethod y_Md_tellLiteral ∈ aw_tw := aw_in5 (List.mem_of_getElem? (i := 6) rfl) rfl
theorem n_co_Md_tellLiteral : Cond.code y_Md_tellLiteral c_Md_tellLiteral 4 none ∈ aw_tw := aw_in5 (List.mem_of_getElem? (i := 7) rfl) rfl
theorem n_ct_Md_232 : Cond.constantLong "AddressTermsModel" 232 (26562514757053541) ∈ aw_tw := aw_in5 (List.mem_of_getElem? (i := 8) rfl) rfl
theorem n_ct_Md_238 : Cond.constantLong "AddressTermsModel" 238 (26562502040319080) ∈ aw_tw := aw_in5 (List.mem_of_getElem? (i := 9) rfl) rfl
theorem n_ct_Md_240 : Cond.constantLong "AddressTermsModel" 240 (26562480598181234) ∈ aw_tw := aw_in5 (List.mem_of_getElem? (i := 10) rfl) rfl
theorem n_ml_Lw_74 : Cond.methodLink "AddressTermsLaw" 74 y_Md_at ∈ aw_tw := aw_in5 (List.mem_of_getElem? (i := 11) rfl) rfl
theorem n_im_Md_at : Cond.instanceMethod y_Md_at ∈ aw_tw := aw_in5 (List.mem_of_getElem? (i := 12) rfl) rfl
theorem n_se_Md_at : Cond.selects (y_Md_at).cls y_Md_at y_Md_at ∈ aw_tw := aw_in5 (List.mem_of_getElem? (i := 13) rfl) rfl
theorem n_co_Md_at : Cond.code y_Md_at c_Md_at 2 (some .int) ∈ aw_tw := aw_in5 (List.mem_of_getElem? (i := 14) rfl) rfl
theorem n_ml_Lw_78 : Cond.methodLink "AddressTermsLaw" 78 y_Md_count ∈ aw_tw := aw_in5 (List.mem_of_getElem? (i := 15) rfl) rfl
theorem n_im_Md_count : Cond.instanceMethod y_Md_count ∈ aw_tw := aw_in5 (List.mem_of_getElem? (i := 16) rfl) rfl
theorem n_se_Md_count : Cond.selects (y_Md_count).cls y_Md_count y_Md_count ∈ aw_tw := aw_in5 (List.mem_of_getElem? (i := 17) rfl) rfl
theorem n_co_Md_count : Cond.code y_Md_count c_Md_count 2 (some .int) ∈ aw_tw := aw_in5 (List.mem_of_getElem? (i := 18) rfl) rfl
theorem n_ct_Lw_13 : Cond.constantLong "AddressTermsLaw" 13 (4294967295) ∈ aw_tw := aw_in5 (List.mem_of_getElem? (i := 19) rfl) rfl
theorem n_fl_Js_15 : Cond.fieldLink "java/lang/String" 15 "java/lang/String" "coder" "B" ∈ aw_tw := aw_in5 (List.mem_of_getElem? (i := 20) rfl) rfl
theorem n_fl_Js_9 : Cond.fieldLink "java/lang/String" 9 "java/lang/String" "value" "[B" ∈ aw_tw := aw_in5 (List.mem_of_getElem? (i := 21) rfl) rfl
theorem n_se_At_addressOnTape : Cond.selects (y_At_addressOnTape).cls y_At_addressOnTape y_At_addressOnTape ∈ aw_tw := aw_in0 (q := (y_At_addressOnTape, 11)) (List.mem_append_left _ (List.mem_of_getElem? (i := 0) rfl)) rfl
theorem n_se_Rf_note : Cond.selects (y_Rf_note).cls y_Rf_note y_Rf_note ∈ aw_tw := aw_in0 (q := (y_Rf_note, 3)) (List.mem_append_left _ (List.mem_of_getElem? (i := 1) rfl)) rfl
theorem n_se_Rf_colonOfScheme : Cond.selects (y_Rf_colonOfScheme).cls y_Rf_colonOfScheme y_Rf_colonOfScheme ∈ aw_tw := aw_in0 (q := (y_Rf_colonOfScheme, 3)) (List.mem_append_left _ (List.mem_of_getElem? (i := 2) rfl)) rfl
theorem n_se_At_addressAt : Cond.selects (y_At_addressAt).cls y_At_addressAt y_At_addressAt ∈ aw_tw := aw_in0 (q := (y_At_addressAt, 11)) (List.mem_append_left _ (List.mem_of_getElem? (i := 3) rfl)) rfl
theorem n_se_At_termAt : Cond.selects (y_At_termAt).cls y_At_termAt y_At_termAt ∈ aw_tw := aw_in0 (q := (y_At_termAt, 11)) (List.mem_append_left _ (List.mem_of_getElem? (i := 4) rfl)) rfl
theorem n_se_Rf_endOf : Cond.selects (y_Rf_endOf).cls y_Rf_endOf y_Rf_endOf ∈ aw_tw := aw_in0 (q := (y_Rf_endOf, 3)) (List.mem_append_left _ (List.mem_of_getElem? (i := 5) rfl)) rfl
theorem n_se_Rf_beginOf : Cond.selects (y_Rf_beginOf).cls y_Rf_beginOf y_Rf_beginOf ∈ aw_tw := aw_in0 (q := (y_Rf_beginOf, 3)) (List.mem_append_left _ (List.mem_of_getElem? (i := 6) rfl)) rfl
theorem n_se_Rs_gatherPath : Cond.selects (y_Rs_gatherPath).cls y_Rs_gatherPath y_Rs_gatherPath ∈ aw_tw := aw_in0 (q := (y_Rs_gatherPath, 1)) (List.mem_append_left _ (List.mem_of_getElem? (i := 7) rfl)) rfl
theorem n_se_Rs_addPlainPath : Cond.selects (y_Rs_addPlainPath).cls y_Rs_addPlainPath y_Rs_addPlainPath ∈ aw_tw := aw_in0 (q := (y_Rs_addPlainPath, 1)) (List.mem_append_left _ (List.mem_of_getElem? (i := 8) rfl)) rfl
theorem n_se_At_placeOfWanted : Cond.selects (y_At_placeOfWanted).cls y_At_placeOfWanted y_At_placeOfWanted ∈ aw_tw := aw_in0 (q := (y_At_placeOfWanted, 11)) (List.mem_append_left _ (List.mem_of_getElem? (i := 9) rfl)) rfl
theorem n_se_Tm_rank : Cond.selects (y_Tm_rank).cls y_Tm_rank y_Tm_rank ∈ aw_tw := aw_in0 (q := (y_Tm_rank, 5)) (List.mem_append_left _ (List.mem_of_getElem? (i := 10) rfl)) rfl
theorem n_se_At_literalOnTape : Cond.selects (y_At_literalOnTape).cls y_At_literalOnTape y_At_literalOnTape ∈ aw_tw := aw_in0 (q := (y_At_literalOnTape, 11)) (List.mem_append_left _ (List.mem_of_getElem? (i := 11) rfl)) rfl
theorem n_se_At_tagOnTape : Cond.selects (y_At_tagOnTape).cls y_At_tagOnTape y_At_tagOnTape ∈ aw_tw := aw_in0 (q := (y_At_tagOnTape, 11)) (List.mem_append_left _ (List.mem_of_getElem? (i := 12) rfl)) rfl
theorem n_se_At_literalAt : Cond.selects (y_At_literalAt).cls y_At_literalAt y_At_literalAt ∈ aw_tw := aw_in0 (q := (y_At_literalAt, 11)) (List.mem_append_left _ (List.mem_of_getElem? (i := 13) rfl)) rfl
theorem n_se_At_nameOnTape : Cond.selects (y_At_nameOnTape).cls y_At_nameOnTape y_At_nameOnTape ∈ aw_tw := aw_in0 (q := (y_At_nameOnTape, 11)) (List.mem_append_left _ (List.mem_of_getElem? (i := 14) rfl)) rfl
theorem n_se_At_prefixAt : Cond.selects (y_At_prefixAt).cls y_At_prefixAt y_At_prefixAt ∈ aw_tw := aw_in0 (q := (y_At_prefixAt, 11)) (List.mem_append_left _ (List.mem_of_getElem? (i := 15) rfl)) rfl
theorem n_se_At_printLiteral : Cond.selects (y_At_printLiteral).cls y_At_printLiteral y_At_printLiteral ∈ aw_tw := aw_in0 (q := (y_At_printLiteral, 11)) (List.mem_append_right _ (List.mem_append_left _ (List.mem_of_getElem? (i := 0) rfl))) rfl
theorem n_se_At_printTextByte : Cond.selects (y_At_printTextByte).cls y_At_printTextByte y_At_printTextByte ∈ aw_tw := aw_in0 (q := (y_At_printTextByte, 11)) (List.mem_append_right _ (List.mem_append_left _ (List.mem_of_getElem? (i := 1) rfl))) rfl
theorem n_se_At_printAddress : Cond.selects (y_At_printAddress).cls y_At_printAddress y_At_printAddress ∈ aw_tw := aw_in0 (q := (y_At_printAddress, 11)) (List.mem_append_right _ (List.mem_append_left _ (List.mem_of_getElem? (i := 2) rfl))) rfl
theorem n_se_At_bestPrefix : Cond.selects (y_At_bestPrefix).cls y_At_bestPrefix y_At_bestPrefix ∈ aw_tw := aw_in0 (q := (y_At_bestPrefix, 11)) (List.mem_append_right _ (List.mem_append_left _ (List.mem_of_getElem? (i := 3) rfl))) rfl
theorem n_se_Md_note : Cond.selects (y_Md_note).cls y_Md_note y_Md_note ∈ aw_tw := aw_in0 (q := (y_Md_note, 30)) (List.mem_append_right _ (List.mem_append_left _ (List.mem_of_getElem? (i := 4) rfl))) rfl
theorem n_se_Md_find : Cond.selects (y_Md_find).cls y_Md_find y_Md_find ∈ aw_tw := aw_in0 (q := (y_Md_find, 30)) (List.mem_append_right _ (List.mem_append_left _ (List.mem_of_getElem? (i := 5) rfl))) rfl
theorem n_se_Md_wrong : Cond.selects (y_Md_wrong).cls y_Md_wrong y_Md_wrong ∈ aw_tw := aw_in0 (q := (y_Md_wrong, 30)) (List.mem_append_right _ (List.mem_append_left _ (List.mem_of_getElem? (i := 6) rfl))) rfl
theorem n_se_Md_resolveAgainst : Cond.selects (y_Md_resolveAgainst).cls y_Md_resolveAgainst y_Md_resolveAgainst ∈ aw_tw := aw_in0 (q := (y_Md_resolveAgainst, 30)) (List.mem_append_right _ (List.mem_append_left _ (List.mem_of_getElem? (i := 7) rfl))) rfl
theorem n_se_Md_take : Cond.selects (y_Md_take).cls y_Md_take y_Md_take ∈ aw_tw := aw_in0 (q := (y_Md_take, 30)) (List.mem_append_right _ (List.mem_append_left _ (List.mem_of_getElem? (i := 8) rfl))) rfl
theorem n_se_Md_split : Cond.selects (y_Md_split).cls y_Md_split y_Md_split ∈ aw_tw := aw_in0 (q := (y_Md_split, 30)) (List.mem_append_right _ (List.mem_append_left _ (List.mem_of_getElem? (i := 9) rfl))) rfl
theorem n_se_Md_refAt : Cond.selects (y_Md_refAt).cls y_Md_refAt y_Md_refAt ∈ aw_tw := aw_in0 (q := (y_Md_refAt, 30)) (List.mem_append_right _ (List.mem_append_left _ (List.mem_of_getElem? (i := 10) rfl))) rfl
theorem n_se_Md_stop : Cond.selects (y_Md_stop).cls y_Md_stop y_Md_stop ∈ aw_tw := aw_in0 (q := (y_Md_stop, 30)) (List.mem_append_right _ (List.mem_append_left _ (List.mem_of_getElem? (i := 11) rfl))) rfl
theorem n_se_Md_addRef : Cond.selects (y_Md_addRef).cls y_Md_addRef y_Md_addRef ∈ aw_tw := aw_in0 (q := (y_Md_addRef, 30)) (List.mem_append_right _ (List.mem_append_left _ (List.mem_of_getElem? (i := 12) rfl))) rfl
theorem n_se_Md_add : Cond.selects (y_Md_add).cls y_Md_add y_Md_add ∈ aw_tw := aw_in0 (q := (y_Md_add, 30)) (List.mem_append_right _ (List.mem_append_left _ (List.mem_of_getElem? (i := 13) rfl))) rfl
theorem n_se_Md_addBase : Cond.selects (y_Md_addBase).cls y_Md_addBase y_Md_addBase ∈ aw_tw := aw_in0 (q := (y_Md_addBase, 30)) (List.mem_append_right _ (List.mem_append_left _ (List.mem_of_getElem? (i := 14) rfl))) rfl
theorem n_se_Md_lead : Cond.selects (y_Md_lead).cls y_Md_lead y_Md_lead ∈ aw_tw := aw_in0 (q := (y_Md_lead, 30)) (List.mem_append_right _ (List.mem_append_left _ (List.mem_of_getElem? (i := 15) rfl))) rfl
theorem n_se_Md_merge : Cond.selects (y_Md_merge).cls y_Md_merge y_Md_merge ∈ aw_tw := aw_in0 (q := (y_Md_merge, 30)) (List.mem_append_right _ (List.mem_append_right _ (List.mem_append_left _ (List.mem_of_getElem? (i := 0) rfl)))) rfl
theorem n_se_Md_feed : Cond.selects (y_Md_feed).cls y_Md_feed y_Md_feed ∈ aw_tw := aw_in0 (q := (y_Md_feed, 30)) (List.mem_append_right _ (List.mem_append_right _ (List.mem_append_left _ (List.mem_of_getElem? (i := 1) rfl)))) rfl
theorem n_se_Md_plain : Cond.selects (y_Md_plain).cls y_Md_plain y_Md_plain ∈ aw_tw := aw_in0 (q := (y_Md_plain, 30)) (List.mem_append_right _ (List.mem_append_right _ (List.mem_append_left _ (List.mem_of_getElem? (i := 2) rfl)))) rfl
theorem n_se_Md_begins : Cond.selects (y_Md_begins).cls y_Md_begins y_Md_begins ∈ aw_tw := aw_in0 (q := (y_Md_begins, 30)) (List.mem_append_right _ (List.mem_append_right _ (List.mem_append_left _ (List.mem_of_getElem? (i := 3) rfl)))) rfl
theorem n_se_Md_skip : Cond.selects (y_Md_skip).cls y_Md_skip y_Md_skip ∈ aw_tw := aw_in0 (q := (y_Md_skip, 30)) (List.mem_append_right _ (List.mem_append_right _ (List.mem_append_left _ (List.mem_of_getElem? (i := 4) rfl)))) rfl
theorem n_se_Md_back : Cond.selects (y_Md_back).cls y_Md_back y_Md_back ∈ aw_tw := aw_in0 (q := (y_Md_back, 30)) (List.mem_append_right _ (List.mem_append_right _ (List.mem_append_left _ (List.mem_of_getElem? (i := 5) rfl)))) rfl
theorem n_se_Md_isAddress : Cond.selects (y_Md_isAddress).cls y_Md_isAddress y_Md_isAddress ∈ aw_tw := aw_in0 (q := (y_Md_isAddress, 30)) (List.mem_append_right _ (List.mem_append_right _ (List.mem_append_left _ (List.mem_of_getElem? (i := 6) rfl)))) rfl
theorem n_se_Md_isTerm : Cond.selects (y_Md_isTerm).cls y_Md_isTerm y_Md_isTerm ∈ aw_tw := aw_in0 (q := (y_Md_isTerm, 30)) (List.mem_append_right _ (List.mem_append_right _ (List.mem_append_left _ (List.mem_of_getElem? (i := 7) rfl)))) rfl
theorem n_se_Md_escaped : Cond.selects (y_Md_escaped).cls y_Md_escaped y_Md_escaped ∈ aw_tw := aw_in0 (q := (y_Md_escaped, 30)) (List.mem_append_right _ (List.mem_append_right _ (List.mem_append_left _ (List.mem_of_getElem? (i := 8) rfl)))) rfl
theorem n_se_Md_isWhole : Cond.selects (y_Md_isWhole).cls y_Md_isWhole y_Md_isWhole ∈ aw_tw := aw_in0 (q := (y_Md_isWhole, 30)) (List.mem_append_right _ (List.mem_append_right _ (List.mem_append_left _ (List.mem_of_getElem? (i := 9) rfl)))) rfl
theorem n_se_Md_whole : Cond.selects (y_Md_whole).cls y_Md_whole y_Md_whole ∈ aw_tw := aw_in0 (q := (y_Md_whole, 30)) (List.mem_append_right _ (List.mem_append_right _ (List.mem_append_left _ (List.mem_of_getElem? (i := 10) rfl)))) rfl
theorem n_se_Md_truth : Cond.selects (y_Md_truth).cls y_Md_truth y_Md_truth ∈ aw_tw := aw_in0 (q := (y_Md_truth, 30)) (List.mem_append_right _ (List.mem_append_right _ (List.mem_append_left _ (List.mem_of_getElem? (i := 11) rfl)))) rfl
theorem n_se_Md_isBytes : Cond.selects (y_Md_isBytes).cls y_Md_isBytes y_Md_isBytes ∈ aw_tw := aw_in0 (q := (y_Md_isBytes, 30)) (List.mem_append_right _ (List.mem_append_right _ (List.mem_append_left _ (List.mem_of_getElem? (i := 12) rfl)))) rfl
theorem n_se_Md_compareBytes : Cond.selects (y_Md_compareBytes).cls y_Md_compareBytes y_Md_compareBytes ∈ aw_tw := aw_in0 (q := (y_Md_compareBytes, 30)) (List.mem_append_right _ (List.mem_append_right _ (List.mem_append_left _ (List.mem_of_getElem? (i := 13) rfl)))) rfl
theorem n_se_Md_compareTags : Cond.selects (y_Md_compareTags).cls y_Md_compareTags y_Md_compareTags ∈ aw_tw := aw_in0 (q := (y_Md_compareTags, 30)) (List.mem_append_right _ (List.mem_append_right _ (List.mem_append_left _ (List.mem_of_getElem? (i := 14) rfl)))) rfl
theorem n_se_Md_tellAddress : Cond.selects (y_Md_tellAddress).cls y_Md_tellAddress y_Md_tellAddress ∈ aw_tw := aw_in0 (q := (y_Md_tellAddress, 30)) (List.mem_append_right _ (List.mem_append_right _ (List.mem_append_left _ (List.mem_of_getElem? (i := 15) rfl)))) rfl
theorem n_se_Md_isNameBefore : Cond.selects (y_Md_isNameBefore).cls y_Md_isNameBefore y_Md_isNameBefore ∈ aw_tw := aw_in0 (q := (y_Md_isNameBefore, 30)) (List.mem_append_right _ (List.mem_append_right _ (List.mem_append_right _ (List.mem_of_getElem? (i := 0) rfl)))) rfl
theorem n_se_Md_shortens : Cond.selects (y_Md_shortens).cls y_Md_shortens y_Md_shortens ∈ aw_tw := aw_in0 (q := (y_Md_shortens, 30)) (List.mem_append_right _ (List.mem_append_right _ (List.mem_append_right _ (List.mem_of_getElem? (i := 1) rfl)))) rfl
theorem n_se_Md_tell : Cond.selects (y_Md_tell).cls y_Md_tell y_Md_tell ∈ aw_tw := aw_in0 (q := (y_Md_tell, 30)) (List.mem_append_right _ (List.mem_append_right _ (List.mem_append_right _ (List.mem_of_getElem? (i := 2) rfl)))) rfl
theorem n_se_Md_tellAll : Cond.selects (y_Md_tellAll).cls y_Md_tellAll y_Md_tellAll ∈ aw_tw := aw_in0 (q := (y_Md_tellAll, 30)) (List.mem_append_right _ (List.mem_append_right _ (List.mem_append_right _ (List.mem_of_getElem? (i := 3) rfl)))) rfl
theorem n_se_Md_tellNumber : Cond.selects (y_Md_tellNumber).cls y_Md_tellNumber y_Md_tellNumber ∈ aw_tw := aw_in0 (q := (y_Md_tellNumber, 30)) (List.mem_append_right _ (List.mem_append_right _ (List.mem_append_right _ (List.mem_of_getElem? (i := 4) rfl)))) rfl
theorem n_se_Md_tellLiteral : Cond.selects (y_Md_tellLiteral).cls y_Md_tellLiteral y_Md_tellLiteral ∈ aw_tw := aw_in0 (q := (y_Md_tellLiteral, 30)) (List.mem_append_right _ (List.mem_append_right _ (List.mem_append_right _ (List.mem_of_getElem? (i := 5) rfl)))) rfl
end
section
/-! the text constants, by their places; what a state holds beside the cells of the walk -/
def st_site : List (String × Nat) := [("AddressTerms", 248), ("AddressTerms", 299), ("AddressTerms", 305), ("AddressTerms", 307), ("AddressTerms", 309), ("AddressTerms", 142), ("AddressTerms", 236), ("AddressTerms", 238), ("AddressTerms", 240), ("AddressTerms", 242), ("AddressTerms", 244), ("AddressTerms", 230), ("AddressTerms", 232), ("AddressTerms", 234), ("AddressTerms$Reference", 35), ("AddressTerms$Reference", 41), ("AddressTerms$Reference", 47), ("AddressTerms$Reference", 49), ("AddressTerms$Resolver", 37), ("AddressTerms$Resolver", 73), ("AddressTerms$Resolver", 79), ("AddressTerms$Resolver", 81), ("AddressTerms$Resolver", 83), ("AddressTerms$Resolver", 92), ("AddressTerms$Resolver", 97), ("AddressTerms$Resolver", 99), ("AddressTerms$Resolver", 101), ("AddressTerms$Resolver", 103), ("AddressTerms$Resolver", 51), ("AddressTerms$Resolver", 53)]
def st_byt : List (List Int32) := [[34, 60, 62, 92, 94, 96, 123, 124, 125], [116, 114, 117, 101], [49], [102, 97, 108, 115, 101], [48], [95, 58, 98], [92, 116], [92, 110], [92, 114], [92, 34], [92, 92], [94, 94, 119, 104, 111, 108, 101], [94, 94, 116, 114, 117, 116, 104], [94, 94, 111, 116, 104, 101, 114], [47, 47], [47, 63, 35], [63, 35], [35], [47, 47], [46, 46, 47], [46, 47], [47, 46, 47], [47, 46], [47, 46, 46, 47], [47, 46, 46], [46], [46, 46], [47], [63], [35]]
def st_s (i : Nat) : String × Nat := st_site.getD i ("", 0)
def st_b (i : Nat) : List Int32 := st_byt.getD i []
def aw_tn : List (String × Nat × MethodName) := [("AddressTerms", 42, y_Rf_init), ("AddressTerms", 52, y_Rs_init), ("AddressTerms$Reference", 58, y_At_isLetter), ("AddressTerms$Reference", 62, y_At_isLetterOrDigit), ("AddressTerms$Term", 54, y_At_orderOf), ("AddressTerms$Row", 51, y_At_orderOf), ("AddressTerms$Prefix", 30, y_At_isLetterOrDigit), ("AddressTerms$Prefix", 36, y_At_orderOf)]
/-- an abstract heap: what is known of the cells, by their addresses -/
abbrev AH : Type := Nat → Option va_E
/-- the classes' numbers and slots; the array classes; the first cell that is ours; the literals' cells and their bytes' cells -/
abbrev aw_E : Type := va_G × (Nat → ClassId) × Nat × (Nat → Nat) × (Nat → Nat)
def aw_A (E : aw_E) : Nat → Prop := fun q => E.2.2.1 ≤ q
/-- a literal: its place in the pool, its cell, its bytes -/
def aw_S1 (E : aw_E) (i : Nat) (U : State) (H : Heap) : Prop := (∃ tx : String, vk_R (st_s i).1 (st_s i).2 tx (E.2.2.2.1 i) U) ∧ va_O "java/lang/String" (E.2.2.2.1 i) (aw_A E) U H ∧ va_OF "java/lang/String" "coder" "B" (.int 0) (E.2.2.2.1 i) (aw_A E) U H ∧ va_OF "java/lang/String" "value" "[B" (.ref (E.2.2.2.2 i)) (E.2.2.2.1 i) (aw_A E) U H ∧ va_T .byte (E.2.2.2.2 i) (st_b i).length (fun j => .int ((st_b i).getD j 0)) (aw_A E) U H
def aw_St (E : aw_E) (U : State) (H : Heap) : Prop := (∀ i, i < 30 → aw_S1 E i U H) ∧ va_Z "java/lang/String" "COMPACT_STRINGS" "Z" (.int 1) (aw_A E) U H ∧ (∀ q ∈ aw_tn, va_Nw (.methodLinkNest q.1 q.2.1 q.2.2 "AddressTerms") U) ∧ va_AO aw_c2 U ∧ va_AO aw_c3 U
theorem aw_St.moved {E : aw_E} {U U2 : State} {H : Heap} (hW : U.WarmedH U2.vm) (h : aw_St E U H) : aw_St E U2 H := by
  refine ⟨fun i hi => ?_, va_Z.moved hW.alike h.2.1, fun q hq => va_Nw.warmM hW (h.2.2.1 q hq), h.2.2.2.1.moved hW.alike, h.2.2.2.2.moved hW.alike⟩
  obtain ⟨⟨tx, h1⟩, h2, h3, h4, h5⟩ := h.1 i hi
  exact ⟨⟨tx, vk_R.warm hW h1⟩, va_O.moved hW.alike h2, va_OF.moved hW.alike h3, va_OF.moved hW.alike h4, va_T.moved hW.alike h5⟩
theorem aw_St.same {E : aw_E} {U U2 : State} {H : Heap} (hv : U2.vm = U.vm) (h : aw_St E U H) : aw_St E U2 H := by
  have ha : U.vm.Alike U2.vm := by rw [hv]; exact Vm.Alike.refl U.vm
  refine ⟨fun i hi => ?_, va_Z.moved ha h.2.1, fun q hq => va_Nw.same rfl hv.symm (h.2.2.1 q hq), h.2.2.2.1.moved ha, h.2.2.2.2.moved ha⟩
  obtain ⟨⟨tx, h1⟩, h2, h3, h4, h5⟩ := h.1 i hi
  exact ⟨⟨tx, vk_R.same hv h1⟩, va_O.moved ha h2, va_OF.moved ha h3, va_OF.moved ha h4, va_T.moved ha h5⟩
theorem aw_St.kept {E : aw_E} {U : State} {H0 H : Heap} {locs : List Loc} (hS : va_S (aw_A E) H0 H locs) (h : aw_St E U H0) : aw_St E U H := by
  refine ⟨fun i hi => ?_, h.2.1.kept hS.2.1, h.2.2⟩
  obtain ⟨h1, h2, h3, h4, h5⟩ := h.1 i hi
  exact ⟨h1, h2.kept hS.2.1, h3.kept hS.2.1, h4.kept hS.2.1, h5.kept hS.2.1⟩
end
section
/-! THE WALK OVER AN ABSTRACT HEAP: what it is -/
def aw_up (g : AH) (a : Nat) (e : va_E) : AH := fun x => if x = a then some e else g x
theorem aw_up_s (g : AH) (a : Nat) (e : va_E) : aw_up g a e a = some e := by simp [aw_up]
theorem aw_up_n {g : AH} {a b : Nat} {e : va_E} (h : b ≠ a) : aw_up g a e b = g b := by simp [aw_up, h]
def aw_tys (E : aw_E) : List (ClassId × FieldType) := [(E.2.1 0, .byte), (E.2.1 1, .int), (E.2.1 2, .object aw_c2), (E.2.1 3, .object aw_c3)]
def aw_R (E : aw_E) (g : AH) (n : Nat) (H : Heap) : Prop := H.size = n ∧ ∀ (a : Nat) (e : va_E), g a = some e → va_at E.1 vwCl (a, e) H
theorem aw_R.lt {E : aw_E} {g : AH} {n : Nat} {H : Heap} (h : aw_R E g n H) {a : Nat} {e : va_E} (ha : g a = some e) : a < n := by
  rw [← h.1]; exact (h.2 a e ha).lt
/-- a cell is written -/
theorem aw_R.put {E : aw_E} {g : AH} {n : Nat} {H H1 : Heap} (h : aw_R E g n H) (a : Nat) (e : va_E) (z : H1.size = H.size) (oq : ∀ q : Nat, q ≠ a → H1[q]? = H[q]?) (he : va_at E.1 vwCl (a, e) H1) : aw_R E (aw_up g a e) n H1 := by
  refine ⟨z.trans h.1, fun b eb hb => ?_⟩
  by_cases hq : b = a
  · subst hq
    rw [aw_up_s] at hb
    cases hb
    exact he
  · rw [aw_up_n hq] at hb
    exact (h.2 b eb hb).kept (oq b hq)
/-- a cell is made -/
theorem aw_R.push {E : aw_E} {g : AH} {n : Nat} {H H1 : Heap} (h : aw_R E g n H) (e : va_E) (z : H1.size = n + 1) (oq : ∀ q : Nat, q < n → H1[q]? = H[q]?) (he : va_at E.1 vwCl (n, e) H1) : aw_R E (aw_up g n e) (n + 1) H1 := by
  refine ⟨z, fun b eb hb => ?_⟩
  by_cases hq : b = n
  · subst hq
    rw [aw_up_s] at hb
    cases hb
    exact he
  · rw [aw_up_n hq] at hb
    exact (h.2 b eb hb).kept (oq b (h.lt hb))
/-- the locals by their places -/
def aw_pos : Nat → List (Option Value) → List (Nat × Value)
  | _, [] => []
  | k, none :: r => aw_pos (k + 1) r
  | k, some v :: r => (k, v) :: aw_pos (k + 1) r
theorem aw_pos_mem : ∀ (lv : List (Option Value)) (k : Nat) (q : Nat × Value), q ∈ aw_pos k lv ↔ ∃ j : Nat, lv[j]? = some (some q.2) ∧ q.1 = k + j := by
  intro lv
  induction lv with
  | nil => intro k q; simp [aw_pos]
  | cons o r ih =>
    intro k q
    cases o with
    | none =>
      rw [aw_pos, ih]
      constructor
      · rintro ⟨j, h1, h2⟩
        exact ⟨j + 1, by simpa using h1, by omega⟩
      · rintro ⟨j, h1, h2⟩
        cases j with
        | zero => simp at h1
        | succ j => exact ⟨j, by simpa using h1, by omega⟩
    | some v =>
      rw [aw_pos, List.mem_cons, ih]
      constructor
      · rintro (rfl | ⟨j, h1, h2⟩)
        · exact ⟨0, by simp, by simp⟩
        · exact ⟨j + 1, by simpa using h1, by omega⟩
      · rintro ⟨j, h1, h2⟩
        cases j with
        | zero =>
          left
          obtain ⟨q1, q2⟩ := q
          simp at h1 h2
          rw [h1, h2]
        | succ j => exact Or.inr ⟨j, by simpa using h1, by omega⟩
theorem aw_pos_in {lv : List (Option Value)} {i : Nat} {v : Value} (h : lv[i]? = some (some v)) : (i, v) ∈ aw_pos 0 lv := (aw_pos_mem lv 0 (i, v)).mpr ⟨i, h, (Nat.zero_add i).symm⟩
theorem aw_pos_at {ls : Array Slot} {nL : Nat} {lv : List (Option Value)} (h : lv_has ls nL (aw_pos 0 lv)) {i : Nat} {v : Value} (hv : lv[i]? = some (some v)) : ls[i]? = some (.val v) := h.2.2 (i, v) (aw_pos_in hv)
/-- no long stands just before this place -/
def aw_nl (lv : List (Option Value)) (i : Nat) : Bool := match i with
  | 0 => true
  | i + 1 => match lv[i]? with
    | some (some v) => !(v.category == 2)
    | _ => true
theorem aw_nl_use {lv : List (Option Value)} {i j : Nat} {v : Value} (h : aw_nl lv i = true) (hj : lv[j]? = some (some v)) (hi : j + 1 = i) : (v.category == 2) = false := by
  subst hi
  simpa [aw_nl, hj] using h
theorem aw_pos_set {ls2 : Array Slot} {nL i : Nat} {lv : List (Option Value)} {v : Value} (hp : aw_nl lv i = true) (h : lv_has ls2 nL ((i, v) :: (aw_pos 0 lv).filter (fun q => !(q.1 == i) && !(q.1 + 1 == i && q.2.category == 2)))) : lv_has ls2 nL (aw_pos 0 (lv.set i (some v))) := by
  refine ⟨h.1, h.2.1, fun q hq => ?_⟩
  obtain ⟨j, hj, e⟩ := (aw_pos_mem _ 0 q).mp hq
  obtain ⟨q1, q2⟩ := q
  have e : q1 = j := by simpa using e
  subst e
  by_cases hji : q1 = i
  · subst hji
    rw [List.getElem?_set_self'] at hj
    cases hl : lv[q1]? with
    | none => simp [hl] at hj
    | some o =>
      simp [hl] at hj
      subst hj
      exact h.2.2 _ List.mem_cons_self
  · rw [List.getElem?_set_ne (fun z => hji z.symm)] at hj
    refine h.2.2 _ (List.mem_cons_of_mem _ (List.mem_filter.mpr ⟨aw_pos_in hj, ?_⟩))
    by_cases hk : q1 + 1 = i
    · have := aw_nl_use hp hj hk
      simp [hji, this]
    · simp [hji, hk]
theorem aw_pos_set2 {ls2 : Array Slot} {nL i : Nat} {lv : List (Option Value)} {v : Value} (hp : aw_nl lv i = true) (h : lv_has ls2 nL ((i, v) :: (aw_pos 0 lv).filter (fun q => !(q.1 == i) && (!(q.1 == i + 1) && !(q.1 + 1 == i && q.2.category == 2))))) : lv_has ls2 nL (aw_pos 0 ((lv.set i (some v)).set (i + 1) none)) := by
  refine ⟨h.1, h.2.1, fun q hq => ?_⟩
  obtain ⟨j, hj, e⟩ := (aw_pos_mem _ 0 q).mp hq
  obtain ⟨q1, q2⟩ := q
  have e : q1 = j := by simpa using e
  subst e
  by_cases h2 : q1 = i + 1
  · subst h2
    rw [List.getElem?_set_self'] at hj
    cases hl : (lv.set i (some v))[i + 1]? with
    | none => simp [hl] at hj
    | some o => simp [hl] at hj
  · rw [List.getElem?_set_ne (fun z => h2 z.symm)] at hj
    by_cases hji : q1 = i
    · subst hji
      rw [List.getElem?_set_self'] at hj
      cases hl : lv[q1]? with
      | none => simp [hl] at hj
      | some o =>
        simp [hl] at hj
        subst hj
        exact h.2.2 _ List.mem_cons_self
    · rw [List.getElem?_set_ne (fun z => hji z.symm)] at hj
      refine h.2.2 _ (List.mem_cons_of_mem _ (List.mem_filter.mpr ⟨aw_pos_in hj, ?_⟩))
      by_cases hk : q1 + 1 = i
      · have := aw_nl_use hp hj hk
        simp [hji, h2, this]
      · simp [hji, h2, hk]
/-- what a method's walk stands on -/
def aw_C (p : Program) (s : State) (m : MethodId) (args : Array Value) (meth : Method) (c : Code) (E : aw_E) (cc : ByteArray) (nL : Nat) (own : String) (ret : Option FieldType) : Prop :=
  CallFix p m c cc nL s args aw_tw own ∧ va_K E.1 vwCl (aw_tys E) s ∧ aw_St E s s.heap ∧ E.2.2.1 ≤ s.heap.size ∧ meth.sig.returnType = ret ∧ meth.locks = false
/-- the machine's walk, from here to Q -/
def AW (p : Program) (l : Launch) (e : Env) (R : Room) (s : State) (m : MethodId) (args : Array Value) (below : List Frame) (meth : Method) (c : Code) (E : aw_E) (nL : Nat) (Q : State → Prop) (mc ms : Nat) (g : AH) (n pc : Nat) (lv : List (Option Value)) (st : List Value) : Prop :=
  ∀ (H : Heap) (locs : List Loc) (ls : Array Slot), aw_R E g n H → va_S (aw_A E) s.heap H locs → lv_has ls nL (aw_pos 0 lv) → W p l e R s m args below meth c H locs mc ms Q (F0 m pc ls st)
/-- a method's end: its answer, the abstract heap behind it and its number of cells are as Post says -/
def aw_Q (E : aw_E) (Post : Option Value → AH → Nat → Prop) : Array Value → State → Outcome → State → Prop := fun _ st oc t => (∃ (r : Option Value) (g2 : AH) (n2 : Nat), oc = .returned r ∧ Post r g2 n2 ∧ aw_R E g2 n2 t.heap) ∧ va_F (aw_A E) st t
def aw_Z (E : aw_E) (Post : Option Value → AH → Nat → Prop) (below : List Frame) (args : Array Value) (s : State) (MC MS : Nat) : State → Prop := MQ below (aw_Q E Post) args s MC MS (aw_A E)
def aw_K (E : aw_E) (U : State) : Prop := va_K E.1 vwCl (aw_tys E) U ∧ aw_St E U U.heap ∧ E.2.2.1 ≤ U.heap.size
/-- answers by their kind -/
def aw_Pi (P : Int32 → AH → Nat → Prop) : Option Value → AH → Nat → Prop := fun r g n => ∃ v : Int32, r = some (.int v) ∧ P v g n
def aw_Pl (P : Int64 → AH → Nat → Prop) : Option Value → AH → Nat → Prop := fun r g n => ∃ v : Int64, r = some (.long v) ∧ P v g n
def aw_Pq (P : Option Nat → AH → Nat → Prop) : Option Value → AH → Nat → Prop := fun r g n => ∃ v : Option Nat, r = some (va_rf v) ∧ P v g n
def aw_Pv (P : AH → Nat → Prop) : Option Value → AH → Nat → Prop := fun r g n => r = none ∧ P g n
/-- THE CONTRACT: method y (bytes cc, nL locals, answer's type ret), called at the heap g of n cells with av, returns as Post says; it nests d frames, makes at most mc cells of ms slots -/
def EV (l : Launch) (E : aw_E) (d mc ms : Nat) (y : MethodName) (cc : ByteArray) (nL : Nat) (ret : Option FieldType) (g : AH) (n : Nat) (av : List Value) (Post : Option Value → AH → Nat → Prop) : Prop :=
  Met l y (Cond.code y cc nL ret :: aw_tw) { frames := d, cells := mc, slots := ms, locals := 40 * d } (va_Pc av (fun U => aw_R E g n U.heap ∧ aw_K E U)) (aw_Q E Post) mc ms (aw_A E)
theorem aw_enter {l : Launch} {E : aw_E} {d mc ms : Nat} {y : MethodName} {cc : ByteArray} {nL : Nat} {ret : Option FieldType} {g : AH} {n : Nat} {av : List Value} {Post : Option Value → AH → Nat → Prop} (own : String) (lv : List (Option Value)) (hy : plainName y.cls = true) (hown : y.cls = own) (hlv : lv_args 0 av = aw_pos 0 lv) (hlen : (lg_sl av).length ≤ nL)
    (body : ∀ (p : Program) (e : Env) (s : State) (m : MethodId) (args : Array Value) (below : List Frame) (meth : Method) (c : Code), aw_C p s m args meth c E cc nL own ret → meth.name = y.name → AW p l e { frames := d, cells := mc, slots := ms, locals := 40 * d } s m args below meth c E nL (aw_Z E Post below args s mc ms) 0 0 g n 0 lv []) : EV l E d mc ms y cc nL ret g n av Post := by
  subst hown
  refine Met.ofW (cc := cc) (maxL := nL) (ret := ret) hy rfl ?_
  intro p e s m args below meth c s₁ B hml hv
  obtain ⟨rfl, hR, hK, hSt, hb0⟩ := hv
  have hts := atoms_spec (ws := Cond.code y cc nL ret :: aw_tw) B.pre
  have hl := lv_entry av (n := nL) hlen
  rw [lg_entry_eq]
  rw [hlv] at hl
  exact body p e s m _ below meth c ⟨⟨B.exec, B.bytes, hml, findClass_of_methodNamed B.named, fun w h => hts w (List.mem_cons_of_mem _ h)⟩, hK, hSt, hb0, B.returns, B.notSynchronized⟩ (name_of_methodNamed B.named B.method).1 s.heap [] _ hR va_S.rf hl
theorem aw_one {D : va_G} {cl : List vw_C} {q : Nat × va_E} {H : Heap} (h : va_at D cl q H) : va_P D cl [q] H := by
  intro k q2 hk
  cases k with
  | zero => cases hk; exact h
  | succ k => simp at hk
/-- a class of the worlds: its number, name, fields, their types -/
def aw_CI (ci : Nat) (C : String) (T : u_T) (N : Nat) (ty : Nat → FieldType) : Prop := vwCl[ci]? = some (C, T, N) ∧ (∀ w ∈ u_ws C T N, w ∈ aw_tw) ∧ (∀ k, k < N → parseFieldDescriptor (T k).2.2.1 = some (ty k)) ∧ (∀ a, a < N → ∀ b, b < N → a ≠ b → (T a).2.1 ≠ (T b).2.1)
section AWHeap
variable {p : Program} {l : Launch} {e : Env} {R : Room} {s : State} {m : MethodId} {args : Array Value} {below : List Frame} {meth : Method} {c : Code} {E : aw_E} {cc : ByteArray} {nL : Nat} {own : String} {ret : Option FieldType} {Q : State → Prop} {mc ms : Nat} {g : AH} {n pc : Nat} {lv : List (Option Value)} {st : List Value}
theorem aw_getf (S : aw_C p s m args meth c E cc nL own ret) {ci N : Nat} {C : String} {T : u_T} {ty : Nat → FieldType} (I : aw_CI ci C T N ty) (k : Nat) {a : Nat} {fs : List Value} (ha : g a = some (.inr (ci, fs))) {i : Nat} (hw : Cond.fieldLink own i (T k).1 (T k).2.1 (T k).2.2.1 ∈ aw_tw) (hd : decode cc pc = .ok (.getfield i, 3)) {v : Value} (hv : fs[k]? = some v) (hk : k < N)
    (kk : AW p l e R s m args below meth c E nL Q mc ms g n (pc + 3) lv (v :: st)) : AW p l e R s m args below meth c E nL Q mc ms g n pc lv (.ref a :: st) :=
  fun H locs ls hR hS hl => va_get (D := E.1) (cl := vwCl) (ws := [(a, .inr (ci, fs))]) S.1.1 S.1.2.1 S.1.2.2.2.2 I.2.1 S.1.2.2.2.1 S.2.1 (aw_one (hR.2 a _ ha)) 0 rfl I.1 k hk (S.1.2.2.2.2 _ hw) (fun _ h => h) hv hd (kk H locs ls hR hS hl)
theorem aw_putf (S : aw_C p s m args meth c E cc nL own ret) {ci N : Nat} {C : String} {T : u_T} {ty : Nat → FieldType} (I : aw_CI ci C T N ty) (k : Nat) {a : Nat} {fs : List Value} (ha : g a = some (.inr (ci, fs))) {i : Nat} (hw : Cond.fieldLink own i (T k).1 (T k).2.1 (T k).2.2.1 ∈ aw_tw) (hd : decode cc pc = .ok (.putfield i, 3)) {v : Value} {fs2 : List Value} (hs : fs.set k v = fs2) (hA : E.2.2.1 ≤ a) (hfin : (T k).2.2.2 = false) (hn : narrow (ty k) v = v) (hfit : fits (ty k) v = true) (hk : k < N) (hlen : k < fs.length)
    (kk : AW p l e R s m args below meth c E nL Q mc ms (aw_up g a (.inr (ci, fs2))) n (pc + 3) lv st) : AW p l e R s m args below meth c E nL Q mc ms g n pc lv (v :: .ref a :: st) := by
  subst hs
  intro H locs ls hR hS hl
  have hap := va_apart (own := own) S.1.2.2.2.2 I.2.1 ty I.2.2.1 I.2.2.2 S.2.1 I.1
  obtain ⟨r, h1, cell, q1, q2, q3, q4⟩ := hR.2 a _ ha
  have hr : r = (C, T, N) := Option.some.inj (h1.symm.trans I.1)
  subst hr
  obtain ⟨hSl, hfc, kC, hkC, hkind⟩ := S.2.1.1 ci _ I.1
  obtain ⟨cf, kf, fi, f, hi, hsl⟩ := hSl k hk
  have hlay := S.1.2.2.2.2 _ (I.2.1 _ (u_in_lay hk))
  unfold u_lay at hlay
  rw [if_neg (by rw [hfin]; decide)] at hlay
  have hst := (u_facts hfc hkC (u_lays S.1.2.2.2.2 I.2.1 hk) hi).1
  have h6 := u_store hfc hkC hkind hlay hi (I.2.2.1 k hk) hn hfit
  refine W.putK S.1.1 S.1.2.1 (f := f) ⟨S.1.2.2.2.1, S.1.2.2.2.2 _ hw, ⟨_, _, _, hi⟩, hst⟩ (by rw [q2]; exact h6) q1 q3 (by rw [hsl]; exact k2_hasslot (q4 k hk)) rfl rfl hd fun H' e1 e2 e3 => ?_
  rw [hsl] at e1 ⊢
  exact kk H' _ ls (hR.put a _ e2 e3 ⟨_, I.1, t_OB.to (V := updV (vp_V fs) k v) ⟨_, e1, q2, q3, t_set q4 hap hk v⟩ (fun j _ => vp_updV_set hlen v j)⟩) (hS.put e2 e3 hA) hl
theorem aw_putF (S : aw_C p s m args meth c E cc nL own ret) {ci N : Nat} {C : String} {T : u_T} {ty : Nat → FieldType} (I : aw_CI ci C T N ty) (k : Nat) {a : Nat} {fs : List Value} (ha : g a = some (.inr (ci, fs))) {i : Nat} (hw : Cond.fieldLink own i (T k).1 (T k).2.1 (T k).2.2.1 ∈ aw_tw) (hd : decode cc pc = .ok (.putfield i, 3)) {v : Value} {fs2 : List Value} (hs : fs.set k v = fs2) (hA : E.2.2.1 ≤ a) (hfin : (T k).2.2.2 = true) (hin2 : meth.name = "<init>") (hdecl : (T k).1 = own) (hn : narrow (ty k) v = v) (hfit : fits (ty k) v = true) (hk : k < N) (hlen : k < fs.length)
    (kk : AW p l e R s m args below meth c E nL Q mc ms (aw_up g a (.inr (ci, fs2))) n (pc + 3) lv st) : AW p l e R s m args below meth c E nL Q mc ms g n pc lv (v :: .ref a :: st) := by
  subst hs
  intro H locs ls hR hS hl
  have hap := va_apart (own := own) S.1.2.2.2.2 I.2.1 ty I.2.2.1 I.2.2.2 S.2.1 I.1
  obtain ⟨r, h1, cell, q1, q2, q3, q4⟩ := hR.2 a _ ha
  have hr : r = (C, T, N) := Option.some.inj (h1.symm.trans I.1)
  subst hr
  obtain ⟨hSl, hfc, kC, hkC, hkind⟩ := S.2.1.1 ci _ I.1
  obtain ⟨cf, kf, fi, f, hi, hsl⟩ := hSl k hk
  have hlay := S.1.2.2.2.2 _ (I.2.1 _ (u_in_lay hk))
  unfold u_lay at hlay
  rw [if_pos hfin] at hlay
  have hst := (u_facts hfc hkC (u_lays S.1.2.2.2.2 I.2.1 hk) hi).1
  have hcf : m.cls = cf := by
    obtain ⟨_, _, c', _, _, _, -, -, hf', -, -, -, hown2, -⟩ := Cond.laysFinal_spec hlay
    have e1 : c' = cf := by have := hi.symm.trans hf'; simp at this; exact this.1.symm
    rw [hdecl] at hown2
    rw [← e1]; exact Option.some.inj (S.1.2.2.2.1.symm.trans hown2)
  have h6 := u_fits hfc hkC hkind (Or.inr hlay) hi (I.2.2.1 k hk) hn hfit
  refine W.putFinK S.1.1 S.1.2.1 S.1.2.2.2.1 (S.1.2.2.2.2 _ hw) hi hst hcf hin2 (by rw [q2]; exact h6) q1 q3 (by rw [hsl]; exact k2_hasslot (q4 k hk)) rfl rfl hd fun H' e1 e2 e3 => ?_
  rw [hsl] at e1 ⊢
  exact kk H' _ ls (hR.put a _ e2 e3 ⟨_, I.1, t_OB.to (V := updV (vp_V fs) k v) ⟨_, e1, q2, q3, t_set q4 hap hk v⟩ (fun j _ => vp_updV_set hlen v j)⟩) (hS.put e2 e3 hA) hl
theorem aw_iald (S : aw_C p s m args meth c E cc nL own ret) {a N : Nat} {f : Nat → Int32} (ha : g a = some (.inl (E.2.1 1, N, .inl f))) {i : Int32} (hd : decode cc pc = .ok (.iaload, 1)) (hin : vp_in i N) (kk : AW p l e R s m args below meth c E nL Q mc ms g n (pc + 1) lv (.int (f i.toNatClampNeg) :: st)) : AW p l e R s m args below meth c E nL Q mc ms g n pc lv (.int i :: .ref a :: st) :=
  fun H locs ls hR hS hl => va_iald (D := E.1) (cl := vwCl) (ws := [(a, .inl (E.2.1 1, N, .inl f))]) (tys := aw_tys E) S.1.1 S.1.2.1 S.2.1 (aw_one (hR.2 a _ ha)) 0 1 rfl rfl hin hd (kk H locs ls hR hS hl)
theorem aw_bald (S : aw_C p s m args meth c E cc nL own ret) {a N : Nat} {f : Nat → Int32} (ha : g a = some (.inl (E.2.1 0, N, .inl f))) {i : Int32} (hd : decode cc pc = .ok (.baload, 1)) (hin : vp_in i N) (kk : AW p l e R s m args below meth c E nL Q mc ms g n (pc + 1) lv (.int (f i.toNatClampNeg) :: st)) : AW p l e R s m args below meth c E nL Q mc ms g n pc lv (.int i :: .ref a :: st) :=
  fun H locs ls hR hS hl => va_bald (D := E.1) (cl := vwCl) (ws := [(a, .inl (E.2.1 0, N, .inl f))]) (tys := aw_tys E) S.1.1 S.1.2.1 S.2.1 (aw_one (hR.2 a _ ha)) 0 0 rfl rfl hin hd (kk H locs ls hR hS hl)
theorem aw_aald (S : aw_C p s m args meth c E cc nL own ret) (t : Nat) {a N : Nat} {f : Nat → Option Nat} {cA : ClassId} {C : String} (ht : (aw_tys E)[t]? = some (cA, .object C)) (ha : g a = some (.inl (cA, N, .inr (.inr (.inr (.inr f)))))) {i : Int32} (hd : decode cc pc = .ok (.aaload, 1)) (hin : vp_in i N) (kk : AW p l e R s m args below meth c E nL Q mc ms g n (pc + 1) lv (va_rf (f i.toNatClampNeg) :: st)) : AW p l e R s m args below meth c E nL Q mc ms g n pc lv (.int i :: .ref a :: st) :=
  fun H locs ls hR hS hl => va_aldq (D := E.1) (cl := vwCl) (ws := [(a, .inl (cA, N, .inr (.inr (.inr (.inr f)))))]) (tys := aw_tys E) S.1.1 S.1.2.1 S.2.1 (aw_one (hR.2 a _ ha)) 0 t rfl ht hin hd (kk H locs ls hR hS hl)
theorem aw_alen (S : aw_C p s m args meth c E cc nL own ret) (t : Nat) {a : Nat} {x : vp_A} {cA : ClassId} {ty : FieldType} (ht : (aw_tys E)[t]? = some (cA, ty)) (ha : g a = some (.inl (cA, x))) (hd : decode cc pc = .ok (.arraylength, 1)) (kk : AW p l e R s m args below meth c E nL Q mc ms g n (pc + 1) lv (.int (nI x.1) :: st)) : AW p l e R s m args below meth c E nL Q mc ms g n pc lv (.ref a :: st) :=
  fun H locs ls hR hS hl => va_alen (D := E.1) (cl := vwCl) (ws := [(a, .inl (cA, x))]) (tys := aw_tys E) S.1.1 S.1.2.1 S.2.1 (aw_one (hR.2 a _ ha)) 0 t rfl ht rfl hd (kk H locs ls hR hS hl)
theorem aw_iast (S : aw_C p s m args meth c E cc nL own ret) {a N : Nat} {f : Nat → Int32} (ha : g a = some (.inl (E.2.1 1, N, .inl f))) {i x : Int32} (hd : decode cc pc = .ok (.iastore, 1)) (hA : E.2.2.1 ≤ a) (hin : vp_in i N) (kk : AW p l e R s m args below meth c E nL Q mc ms (aw_up g a (.inl (E.2.1 1, N, .inl (upd f i.toNatClampNeg x)))) n (pc + 1) lv st) : AW p l e R s m args below meth c E nL Q mc ms g n pc lv (.int x :: .int i :: .ref a :: st) := by
  intro H locs ls hR hS hl
  refine W.iast S.1.1 S.1.2.1 (hR.2 a _ ha) ((S.2.1.2 1 _ rfl).1 N (fun j => .int (f j))) (fun q => by cases q) (by show ¬ (i < 0 ∨ (arrV _ _ _).slots.size ≤ _); rw [arrV_size]; exact hin) rfl rfl hd fun H1 e1 z oq => ?_
  refine kk H1 _ ls (hR.put a _ z oq ?_) (hS.put z oq hA) hl
  show H1[a]? = some (vp_cell _ _)
  rw [e1]
  dsimp only
  rw [vp_cell_i, vp_cell_i, arrV_store]
  congr 2
  funext q
  by_cases hq : q = i.toNatClampNeg
  · subst hq
    simp [updV, upd]
  · simp [updV, upd, hq]
theorem aw_bast (S : aw_C p s m args meth c E cc nL own ret) {a N : Nat} {f : Nat → Int32} (ha : g a = some (.inl (E.2.1 0, N, .inl f))) {i x : Int32} (hd : decode cc pc = .ok (.bastore, 1)) (hA : E.2.2.1 ≤ a) (hin : vp_in i N) (kk : AW p l e R s m args below meth c E nL Q mc ms (aw_up g a (.inl (E.2.1 0, N, .inl (upd f i.toNatClampNeg x.toInt8.toInt32)))) n (pc + 1) lv st) : AW p l e R s m args below meth c E nL Q mc ms g n pc lv (.int x :: .int i :: .ref a :: st) := by
  intro H locs ls hR hS hl
  refine W.bast S.1.1 S.1.2.1 (hR.2 a _ ha) ((S.2.1.2 0 _ rfl).1 N (fun j => .int (f j))) (fun q => by cases q) (by show ¬ (i < 0 ∨ (arrV _ _ _).slots.size ≤ _); rw [arrV_size]; exact hin) rfl rfl hd fun H1 e1 z oq => ?_
  refine kk H1 _ ls (hR.put a _ z oq ?_) (hS.put z oq hA) hl
  show H1[a]? = some (vp_cell _ _)
  rw [e1]
  dsimp only
  rw [vp_cell_i, vp_cell_i, arrV_store, narrow_byte]
  congr 2
  funext q
  by_cases hq : q = i.toNatClampNeg
  · subst hq
    simp [updV, upd]
  · simp [updV, upd, hq]
theorem aw_aast (S : aw_C p s m args meth c E cc nL own ret) (t : Nat) {ci N a v : Nat} {C : String} {T : u_T} {NF : Nat} {ty : Nat → FieldType} (I : aw_CI ci C T NF ty) {cA : ClassId} (ht : (aw_tys E)[t]? = some (cA, .object C)) {f : Nat → Option Nat} {vs : List Value} (ha : g a = some (.inl (cA, N, .inr (.inr (.inr (.inr f)))))) (hv : g v = some (.inr (ci, vs))) {i : Int32} (hd : decode cc pc = .ok (.aastore, 1)) (hA : E.2.2.1 ≤ a) (hin : vp_in i N) (kk : AW p l e R s m args below meth c E nL Q mc ms (aw_up g a (.inl (cA, N, .inr (.inr (.inr (.inr (va_up f i.toNatClampNeg (some v)))))))) n (pc + 1) lv st) : AW p l e R s m args below meth c E nL Q mc ms g n pc lv (.ref v :: .int i :: .ref a :: st) := by
  intro H locs ls hR hS hl
  have hlt : i.toNatClampNeg < N := Nat.not_le.mp fun q => hin (Or.inr q)
  have h0 : ¬ i < 0 := fun q => hin (Or.inl q)
  obtain ⟨r', hr', cellV, g1, g2, g3, -⟩ := hR.2 v _ hv
  have hcls := (S.2.1.1 ci _ I.1).2
  obtain ⟨kA, comp, k1, k2, k3, -⟩ := (S.2.1.2 t _ ht).2
  have hcomp : comp = E.1.1 ci := Option.some.inj (k3.symm.trans hcls.1)
  subst hcomp
  obtain ⟨kC, hkC, -⟩ := hcls.2
  refine W.aast S.1.1 S.1.2.1 (hR.2 a _ ha) (fun q h => by cases h) (fun h => by cases h) k1 k2 rfl hkC ⟨h0, by show _ < (arrV _ _ _).slots.size; rw [arrV_size]; exact hlt⟩ g1 (fun q h => by rw [g3] at h; cases h) (by rw [g2]; exact hkC) (by rw [g2]; exact va_assign hcls) rfl rfl hd fun H1 e1 z oq => ?_
  refine kk H1 _ ls (hR.put a _ z oq ?_) (hS.put z oq hA) hl
  show H1[a]? = some (vp_cell _ _)
  rw [e1]
  dsimp only
  rw [vp_cell_q, vp_cell_q, arrV_store]
  congr 2
  funext q
  by_cases hq : q = i.toNatClampNeg
  · subst hq
    simp [updV, va_up, va_rf]
  · simp [updV, va_up, hq]
theorem aw_new (S : aw_C p s m args meth c E cc nL own ret) {ci N : Nat} {C : String} {T : u_T} {ty : Nat → FieldType} (I : aw_CI ci C T N ty) {i : Nat} (hw1 : Cond.classLink own i C ∈ aw_tw) (hw2 : Cond.instantiable C N ∈ aw_tw) (hw3 : Cond.initialized C ∈ aw_tw) (hd : decode cc pc = .ok (.new i, 3)) (fs : List Value) (hfs : ∀ j, j < N → defaultValue (ty j) = vp_V fs j) (hc : mc + 1 ≤ R.cells) (hsl : ms + N ≤ R.slots) (kk : AW p l e R s m args below meth c E nL Q (mc + 1) (ms + N) (aw_up g n (.inr (ci, fs))) (n + 1) (pc + 3) lv (.ref n :: st)) : AW p l e R s m args below meth c E nL Q mc ms g n pc lv st := by
  intro H locs ls hR hS hl
  have hKn := S.2.1.1 ci _ I.1
  have hts := S.1.2.2.2.2
  refine W.newcK S.1.1 S.1.2.1 S.1.2.2.2.1 (hts _ hw1) (hts _ hw2) (hts _ hw3) rfl hd hc hsl hKn.2.1 hR.1 fun H1 kC hkC e1 z1 o1 => ?_
  refine kk H1 locs ls (hR.push _ z1 o1 ⟨_, I.1, (u_born ty hts I.2.1 hKn hkC e1 I.2.2.1).to hfs⟩) ?_ hl
  have z := hR.1
  exact ⟨Nat.le_trans hS.1 (by omega), fun x h1 h2 => (o1 x (by rw [← z]; exact Nat.lt_of_lt_of_le h1 hS.1)).trans (hS.2.1 x h1 h2), hS.2.2⟩
theorem aw_newa (S : aw_C p s m args meth c E cc nL own ret) (t : Nat) {at_ : ArrayType} {ty : FieldType} (hty : newarray.typeOf at_ = ty) {cA : ClassId} (ht : (aw_tys E)[t]? = some (cA, ty)) (hT : ∀ U : State, va_RA U cA ty → U.vm.findClass ("[" ++ ty.toString) = some cA) (hw : Cond.arrayClass ty ∈ aw_tw) {i : Int32} (N : Nat) (hd : decode cc pc = .ok (.newarray at_, 2)) (a0 : vp_A) (ha0 : ∀ cA : ClassId, vp_cell cA a0 = arrV cA N (fun _ => defaultValue ty)) (hi : i = nI N) (hN : N < 100000) (hb : componentBytes ty ≤ 8) (hc : mc + 1 ≤ R.cells) (hsl : ms + N ≤ R.slots) (kk : AW p l e R s m args below meth c E nL Q (mc + 1) (ms + N) (aw_up g n (.inl (cA, a0))) (n + 1) (pc + 2) lv (.ref n :: st)) : AW p l e R s m args below meth c E nL Q mc ms g n pc lv (.int i :: st) := by
  subst hty
  subst hi
  intro H locs ls hR hS hl
  have hts := S.1.2.2.2.2
  have hbb : N * componentBytes (newarray.typeOf at_) ≤ 536870912 := Nat.le_trans (Nat.mul_le_mul (Nat.le_of_lt hN) hb) (by decide)
  refine va_newaK S.1.1 S.1.2.1 (hts _ hw) rfl hd rfl (nI_pos (by omega)) (nI_clamp (by omega)) hbb hc hsl hR.1 fun H1 cA1 e1 z1 o1 hAr hNm => ?_
  have hcA : cA1 = cA := Option.some.inj (hNm.symm.trans (hT s (S.2.1.2 t _ ht).2))
  subst hcA
  refine kk H1 locs ls (hR.push _ z1 o1 ?_) ?_ hl
  · show H1[n]? = some (vp_cell _ _)
    rw [ha0]
    exact e1
  · have z := hR.1
    exact ⟨Nat.le_trans hS.1 (by omega), fun x h1 h2 => (o1 x (by rw [← z]; exact Nat.lt_of_lt_of_le h1 hS.1)).trans (hS.2.1 x h1 h2), hS.2.2⟩
theorem aw_anew (S : aw_C p s m args meth c E cc nL own ret) (t : Nat) {C : String} {cA : ClassId} (ht : (aw_tys E)[t]? = some (cA, .object C)) {i : Int32} (N : Nat) {j : Nat} (hw1 : Cond.classLink own j C ∈ aw_tw) (hw2 : va_AO C s) (hd : decode cc pc = .ok (.anewarray j, 3)) (hi : i = nI N) (hN : N < 100000) (hc : mc + 1 ≤ R.cells) (hsl : ms + N ≤ R.slots) (kk : AW p l e R s m args below meth c E nL Q (mc + 1) (ms + N) (aw_up g n (.inl (cA, N, .inr (.inr (.inr (.inr (fun _ => none))))))) (n + 1) (pc + 3) lv (.ref n :: st)) : AW p l e R s m args below meth c E nL Q mc ms g n pc lv (.int i :: st) := by
  subst hi
  intro H locs ls hR hS hl
  have hts := S.1.2.2.2.2
  have hcl : (nI N).toNatClampNeg = N := nI_clamp (by omega)
  refine W.anew S.1.1 S.1.2.1 S.1.2.2.2.1 (hts _ hw1) (va_AO.use hw2) rfl hd rfl (nI_pos (by omega)) (by rw [hcl]; omega) hc (by rw [hcl]; exact hsl) fun cA1 kA comp f1 f2 f3 f4 => ?_
  obtain ⟨kA', comp', -, -, -, k4⟩ := (S.2.1.2 t _ ht).2
  have hcA : cA1 = cA := Option.some.inj (f1.symm.trans k4)
  subst hcA
  rw [hcl]
  generalize hH1 : H.push ({ cls := cA1, slots := Array.replicate N .null, vm := .none } : Cell) = H1
  have z1 : H1.size = H.size + 1 := by rw [← hH1, Array.size_push]
  have e1 : H1[H.size]? = some (arrV cA1 N (fun _ => .null)) := by rw [← hH1, Array.getElem?_push_size, ← arrV_new]
  have o1 : ∀ q : Nat, q < H.size → H1[q]? = H[q]? := fun q hq => by rw [← hH1, Array.getElem?_push, if_neg (Nat.ne_of_lt hq)]
  have z := hR.1
  subst z
  refine kk H1 locs ls (hR.push _ z1 o1 ?_) ?_ hl
  · show H1[H.size]? = some (vp_cell _ _)
    rw [vp_cell_q]
    exact e1
  · exact ⟨Nat.le_trans hS.1 (by omega), fun x h1 h2 => (o1 x (Nat.lt_of_lt_of_le h1 hS.1)).trans (hS.2.1 x h1 h2), hS.2.2⟩
/-! returns -/
theorem aw_iret (S : aw_C p s m args meth c E cc nL own ret) {MC MS : Nat} {v : Int32} {P : Int32 → AH → Nat → Prop} (hr : ret = some .int) (hd : decode cc pc = .ok (.ireturn, 1)) (hp : P v g n) (hc : mc ≤ MC) (hs : ms ≤ MS) : AW p l e R s m args below meth c E nL (aw_Z E (aw_Pi P) below args s MC MS) mc ms g n pc lv [.int v] := by
  intro H locs ls hR hS hl
  refine W.widen hc hs ?_
  exact W.iret (v := v) S.1.1 S.1.2.1 (S.2.2.2.2.1.trans hr) (fun t ht hW => ⟨⟨_, g, n, rfl, ⟨v, rfl, hp⟩, by rw [ht]; exact hR⟩, hS.F ht⟩) hS.2.2 hd S.2.2.2.2.2
theorem aw_zret (S : aw_C p s m args meth c E cc nL own ret) {MC MS : Nat} {v : Int32} {P : Int32 → AH → Nat → Prop} (ty : FieldType) (hr : ret = some ty) (hn : narrow ty (.int v) = .int v) (hd : decode cc pc = .ok (.ireturn, 1)) (hp : P v g n) (hc : mc ≤ MC) (hs : ms ≤ MS) : AW p l e R s m args below meth c E nL (aw_Z E (aw_Pi P) below args s MC MS) mc ms g n pc lv [.int v] := by
  intro H locs ls hR hS hl
  refine W.widen hc hs ?_
  exact W.zret (v := v) S.1.1 S.1.2.1 (S.2.2.2.2.1.trans hr) hn (fun t ht hW => ⟨⟨_, g, n, rfl, ⟨v, rfl, hp⟩, by rw [ht]; exact hR⟩, hS.F ht⟩) hS.2.2 hd S.2.2.2.2.2
theorem aw_lret (S : aw_C p s m args meth c E cc nL own ret) {MC MS : Nat} {v : Int64} {P : Int64 → AH → Nat → Prop} (hr : ret = some .long) (hd : decode cc pc = .ok (.lreturn, 1)) (hp : P v g n) (hc : mc ≤ MC) (hs : ms ≤ MS) : AW p l e R s m args below meth c E nL (aw_Z E (aw_Pl P) below args s MC MS) mc ms g n pc lv [.long v] := by
  intro H locs ls hR hS hl
  refine W.widen hc hs ?_
  exact W.lret (v := v) S.1.1 S.1.2.1 (S.2.2.2.2.1.trans hr) (fun t ht hW => ⟨⟨_, g, n, rfl, ⟨v, rfl, hp⟩, by rw [ht]; exact hR⟩, hS.F ht⟩) hS.2.2 hd S.2.2.2.2.2
theorem aw_vret (S : aw_C p s m args meth c E cc nL own ret) {MC MS : Nat} {P : AH → Nat → Prop} (hr : ret = none) (hd : decode cc pc = .ok (.return_, 1)) (hp : P g n) (hc : mc ≤ MC) (hs : ms ≤ MS) : AW p l e R s m args below meth c E nL (aw_Z E (aw_Pv P) below args s MC MS) mc ms g n pc lv [] := by
  intro H locs ls hR hS hl
  refine W.widen hc hs ?_
  exact W.vret S.1.1 S.1.2.1 (S.2.2.2.2.1.trans hr) (fun t ht hW => ⟨⟨_, g, n, rfl, ⟨rfl, hp⟩, by rw [ht]; exact hR⟩, hS.F ht⟩) hS.2.2 hd S.2.2.2.2.2
theorem aw_aret (S : aw_C p s m args meth c E cc nL own ret) {MC MS : Nat} {v : Option Nat} {P : Option Nat → AH → Nat → Prop} (C : String) (hr : ret = some (.object C)) (hd : decode cc pc = .ok (.areturn, 1)) (hp : P v g n) (hc : mc ≤ MC) (hs : ms ≤ MS) : AW p l e R s m args below meth c E nL (aw_Z E (aw_Pq P) below args s MC MS) mc ms g n pc lv [va_rf v] := by
  intro H locs ls hR hS hl
  refine W.widen hc hs ?_
  exact W.aret (v := va_rf v) S.1.1 S.1.2.1 (S.2.2.2.2.1.trans hr) (Or.inl ⟨C, rfl⟩) (va_rf_or v) (fun t ht hW => ⟨⟨_, g, n, rfl, ⟨v, rfl, hp⟩, by rw [ht]; exact hR⟩, hS.F ht⟩) hS.2.2 hd S.2.2.2.2.2
/-! what is on top of the stack, said otherwise -/
theorem aw_topi {x y : Int32} (h : x = y) (k : AW p l e R s m args below meth c E nL Q mc ms g n pc lv (.int y :: st)) : AW p l e R s m args below meth c E nL Q mc ms g n pc lv (.int x :: st) := by rw [h]; exact k
theorem aw_heap {g2 : AH} {n2 : Nat} (h : g = g2) (h2 : n = n2) (k : AW p l e R s m args below meth c E nL Q mc ms g2 n2 pc lv st) : AW p l e R s m args below meth c E nL Q mc ms g n pc lv st := by rw [h, h2]; exact k
theorem aw_lvs {lv2 : List (Option Value)} {st2 : List Value} (h : lv = lv2) (h2 : st = st2) (k : AW p l e R s m args below meth c E nL Q mc ms g n pc lv2 st2) : AW p l e R s m args below meth c E nL Q mc ms g n pc lv st := by rw [h, h2]; exact k
theorem aw_wide {mc2 ms2 : Nat} (h1 : mc ≤ mc2) (h2 : ms ≤ ms2) (k : AW p l e R s m args below meth c E nL Q mc2 ms2 g n pc lv st) : AW p l e R s m args below meth c E nL Q mc ms g n pc lv st := fun H locs ls hR hS hl => W.widen h1 h2 (k H locs ls hR hS hl)
theorem aw_objInit (S : aw_C p s m args meth c E cc nL own ret) {i a : Nat} (hw1 : Cond.methodLink own i objectInit ∈ aw_tw) (hw2 : Cond.instanceMethod objectInit ∈ aw_tw) (hw3 : Cond.code objectInit ⟨#[0xb1]⟩ 1 none ∈ aw_tw) (hd : decode cc pc = .ok (.invokespecial i, 3)) (hf : 1 ≤ R.frames) (hlo : (st.map fun v => v.category).sum + 12 ≤ R.locals) (kk : AW p l e R s m args below meth c E nL Q mc ms g n (pc + 3) lv st) : AW p l e R s m args below meth c E nL Q mc ms g n pc lv (.ref a :: st) := by
  intro H locs ls hR hS hl
  have hts := S.1.2.2.2.2
  refine W.objInit S.1.1 S.1.2.1 S.1.2.2.2.1 (hts _ hw1) (hts _ hw2) (hts _ hw3) rfl (by rw [S.1.2.2.1]; exact hl.1) rfl hd hf (by show 2 * 0 + _ + 12 ≤ _; omega) ?_
  exact kk H locs ls hR hS hl
end AWHeap
end
section
/-! ROWS OF THE WALK OVER AN ABSTRACT HEAP: AW says: with the abstract heap g (n cells in all), at pc, with these locals and this operand stack, the machine comes to Q -/
section AWRows
variable {p : Program} {l : Launch} {e : Env} {R : Room} {s : State} {m : MethodId} {args : Array Value} {below : List Frame} {meth : Method} {c : Code} {E : aw_E} {cc : ByteArray} {nL : Nat} {own : String} {ret : Option FieldType} {Q : State → Prop} {mc ms : Nat} {g : AH} {n pc : Nat} {lv : List (Option Value)} {st : List Value}
theorem aw_iconst (S : aw_C p s m args meth c E cc nL own ret) {i : Int} {v : Int32} (hd : decode cc pc = .ok (.iconst i, 1)) (hv : Int32.ofInt i = v) (k : AW p l e R s m args below meth c E nL Q mc ms g n (pc + 1) lv (.int v :: st)) : AW p l e R s m args below meth c E nL Q mc ms g n pc lv st := fun H locs ls hR hS hl => lv_iconst S.1.1 S.1.2.1 hd hv (k H locs ls hR hS hl)
theorem aw_bipush (S : aw_C p s m args meth c E cc nL own ret) {i : Int} {v : Int32} (hd : decode cc pc = .ok (.bipush i, 2)) (hv : (Int8.ofInt i).toInt32 = v) (k : AW p l e R s m args below meth c E nL Q mc ms g n (pc + 2) lv (.int v :: st)) : AW p l e R s m args below meth c E nL Q mc ms g n pc lv st := fun H locs ls hR hS hl => lv_bipush S.1.1 S.1.2.1 hd hv (k H locs ls hR hS hl)
theorem aw_sipush (S : aw_C p s m args meth c E cc nL own ret) {i : Int} {v : Int32} (hd : decode cc pc = .ok (.sipush i, 3)) (hv : (Int16.ofInt i).toInt32 = v) (k : AW p l e R s m args below meth c E nL Q mc ms g n (pc + 3) lv (.int v :: st)) : AW p l e R s m args below meth c E nL Q mc ms g n pc lv st := fun H locs ls hR hS hl => lv_sipush S.1.1 S.1.2.1 hd hv (k H locs ls hR hS hl)
theorem aw_lconst (S : aw_C p s m args meth c E cc nL own ret) {i : Fin 2} {v : Int64} (hd : decode cc pc = .ok (.lconst i, 1)) (hv : Int64.ofNat (i : Nat) = v) (k : AW p l e R s m args below meth c E nL Q mc ms g n (pc + 1) lv (.long v :: st)) : AW p l e R s m args below meth c E nL Q mc ms g n pc lv st := fun H locs ls hR hS hl => lv_lconst S.1.1 S.1.2.1 hd hv (k H locs ls hR hS hl)
theorem aw_null (S : aw_C p s m args meth c E cc nL own ret) (hd : decode cc pc = .ok (.aconst_null, 1)) (k : AW p l e R s m args below meth c E nL Q mc ms g n (pc + 1) lv (.null :: st)) : AW p l e R s m args below meth c E nL Q mc ms g n pc lv st := fun H locs ls hR hS hl => lv_null S.1.1 S.1.2.1 hd (k H locs ls hR hS hl)
theorem aw_ldc (S : aw_C p s m args meth c E cc nL own ret) {i : Nat} {v : Int32} (hw : Cond.constant own i v ∈ aw_tw) (hd : decode cc pc = .ok (.ldc i, 2)) (k : AW p l e R s m args below meth c E nL Q mc ms g n (pc + 2) lv (.int v :: st)) : AW p l e R s m args below meth c E nL Q mc ms g n pc lv st := fun H locs ls hR hS hl => lv_ldc S.1.1 S.1.2.1 S.1.2.2.2.1 (S.1.2.2.2.2 _ hw) hd (k H locs ls hR hS hl)
theorem aw_ldc2 (S : aw_C p s m args meth c E cc nL own ret) {i : Nat} {v : Int64} (hw : Cond.constantLong own i v ∈ aw_tw) (hd : decode cc pc = .ok (.ldc2_w i, 3)) (k : AW p l e R s m args below meth c E nL Q mc ms g n (pc + 3) lv (.long v :: st)) : AW p l e R s m args below meth c E nL Q mc ms g n pc lv st := fun H locs ls hR hS hl => lv_ldc2 S.1.1 S.1.2.1 S.1.2.2.2.1 (S.1.2.2.2.2 _ hw) hd (k H locs ls hR hS hl)
theorem aw_iload_n (S : aw_C p s m args meth c E cc nL own ret) {i : Fin 4} {x : Int32} (hd : decode cc pc = .ok (.iload_n i, 1)) (hv : lv[(i : Nat)]? = some (some (.int x))) (k : AW p l e R s m args below meth c E nL Q mc ms g n (pc + 1) lv (.int x :: st)) : AW p l e R s m args below meth c E nL Q mc ms g n pc lv st := fun H locs ls hR hS hl => lv_iload_n S.1.1 S.1.2.1 hd rfl (aw_pos_at hl hv) (k H locs ls hR hS hl)
theorem aw_iload (S : aw_C p s m args meth c E cc nL own ret) {i : Nat} {x : Int32} (hd : decode cc pc = .ok (.iload i, 2)) (hv : lv[i]? = some (some (.int x))) (k : AW p l e R s m args below meth c E nL Q mc ms g n (pc + 2) lv (.int x :: st)) : AW p l e R s m args below meth c E nL Q mc ms g n pc lv st := fun H locs ls hR hS hl => lv_iload S.1.1 S.1.2.1 hd (aw_pos_at hl hv) (k H locs ls hR hS hl)
theorem aw_lload_n (S : aw_C p s m args meth c E cc nL own ret) {i : Fin 4} {x : Int64} (hd : decode cc pc = .ok (.lload_n i, 1)) (hv : lv[(i : Nat)]? = some (some (.long x))) (k : AW p l e R s m args below meth c E nL Q mc ms g n (pc + 1) lv (.long x :: st)) : AW p l e R s m args below meth c E nL Q mc ms g n pc lv st := fun H locs ls hR hS hl => lv_lload_n S.1.1 S.1.2.1 hd rfl (aw_pos_at hl hv) (k H locs ls hR hS hl)
theorem aw_lload (S : aw_C p s m args meth c E cc nL own ret) {i : Nat} {x : Int64} (hd : decode cc pc = .ok (.lload i, 2)) (hv : lv[i]? = some (some (.long x))) (k : AW p l e R s m args below meth c E nL Q mc ms g n (pc + 2) lv (.long x :: st)) : AW p l e R s m args below meth c E nL Q mc ms g n pc lv st := fun H locs ls hR hS hl => lv_lload S.1.1 S.1.2.1 hd (aw_pos_at hl hv) (k H locs ls hR hS hl)
theorem aw_aload_n (S : aw_C p s m args meth c E cc nL own ret) {i : Fin 4} {x : Nat} (hd : decode cc pc = .ok (.aload_n i, 1)) (hv : lv[(i : Nat)]? = some (some (.ref x))) (k : AW p l e R s m args below meth c E nL Q mc ms g n (pc + 1) lv (.ref x :: st)) : AW p l e R s m args below meth c E nL Q mc ms g n pc lv st := fun H locs ls hR hS hl => lv_aload_n S.1.1 S.1.2.1 hd rfl (aw_pos_at hl hv) (k H locs ls hR hS hl)
theorem aw_aload (S : aw_C p s m args meth c E cc nL own ret) {i : Nat} {x : Nat} (hd : decode cc pc = .ok (.aload i, 2)) (hv : lv[i]? = some (some (.ref x))) (k : AW p l e R s m args below meth c E nL Q mc ms g n (pc + 2) lv (.ref x :: st)) : AW p l e R s m args below meth c E nL Q mc ms g n pc lv st := fun H locs ls hR hS hl => lv_aload S.1.1 S.1.2.1 hd (aw_pos_at hl hv) (k H locs ls hR hS hl)
theorem aw_aload_nN (S : aw_C p s m args meth c E cc nL own ret) {i : Fin 4} (hd : decode cc pc = .ok (.aload_n i, 1)) (hv : lv[(i : Nat)]? = some (some .null)) (k : AW p l e R s m args below meth c E nL Q mc ms g n (pc + 1) lv (.null :: st)) : AW p l e R s m args below meth c E nL Q mc ms g n pc lv st := fun H locs ls hR hS hl => lv_aload_nN S.1.1 S.1.2.1 hd rfl (aw_pos_at hl hv) (k H locs ls hR hS hl)
theorem aw_aloadN (S : aw_C p s m args meth c E cc nL own ret) {i : Nat} (hd : decode cc pc = .ok (.aload i, 2)) (hv : lv[i]? = some (some .null)) (k : AW p l e R s m args below meth c E nL Q mc ms g n (pc + 2) lv (.null :: st)) : AW p l e R s m args below meth c E nL Q mc ms g n pc lv st := fun H locs ls hR hS hl => lv_aloadN S.1.1 S.1.2.1 hd (aw_pos_at hl hv) (k H locs ls hR hS hl)
theorem aw_aload_nQ (S : aw_C p s m args meth c E cc nL own ret) {i : Fin 4} {x : Option Nat} (hd : decode cc pc = .ok (.aload_n i, 1)) (hv : lv[(i : Nat)]? = some (some (va_rf x))) (k : AW p l e R s m args below meth c E nL Q mc ms g n (pc + 1) lv (va_rf x :: st)) : AW p l e R s m args below meth c E nL Q mc ms g n pc lv st := by
  cases x with
  | none => exact aw_aload_nN S hd hv k
  | some x => exact aw_aload_n S hd hv k
theorem aw_aloadQ (S : aw_C p s m args meth c E cc nL own ret) {i : Nat} {x : Option Nat} (hd : decode cc pc = .ok (.aload i, 2)) (hv : lv[i]? = some (some (va_rf x))) (k : AW p l e R s m args below meth c E nL Q mc ms g n (pc + 2) lv (va_rf x :: st)) : AW p l e R s m args below meth c E nL Q mc ms g n pc lv st := by
  cases x with
  | none => exact aw_aloadN S hd hv k
  | some x => exact aw_aload S hd hv k
theorem aw_istore_n_g (S : aw_C p s m args meth c E cc nL own ret) {i : Fin 4} {x : Int32} {lv2 : List (Option Value)} (hd : decode cc pc = .ok (.istore_n i, 1)) (hn : (i : Nat) < nL) (hl2 : lv.set (i : Nat) (some (.int x)) = lv2) (hp : aw_nl lv (i : Nat) = true) (k : AW p l e R s m args below meth c E nL Q mc ms g n (pc + 1) lv2 st) : AW p l e R s m args below meth c E nL Q mc ms g n pc lv (.int x :: st) := fun H locs ls hR hS hl => lv_istore_n S.1.1 S.1.2.1 hd rfl hl hn rfl (fun ls2 h2 => k H locs ls2 hR hS (hl2 ▸ aw_pos_set hp h2))
theorem aw_istore_g (S : aw_C p s m args meth c E cc nL own ret) {i : Nat} {x : Int32} {lv2 : List (Option Value)} (hd : decode cc pc = .ok (.istore i, 2)) (hn : i < nL) (hl2 : lv.set i (some (.int x)) = lv2) (hp : aw_nl lv i = true) (k : AW p l e R s m args below meth c E nL Q mc ms g n (pc + 2) lv2 st) : AW p l e R s m args below meth c E nL Q mc ms g n pc lv (.int x :: st) := fun H locs ls hR hS hl => lv_istore S.1.1 S.1.2.1 hd hl hn rfl (fun ls2 h2 => k H locs ls2 hR hS (hl2 ▸ aw_pos_set hp h2))
theorem aw_astore_n_g (S : aw_C p s m args meth c E cc nL own ret) {i : Fin 4} {x : Nat} {lv2 : List (Option Value)} (hd : decode cc pc = .ok (.astore_n i, 1)) (hn : (i : Nat) < nL) (hl2 : lv.set (i : Nat) (some (.ref x)) = lv2) (hp : aw_nl lv (i : Nat) = true) (k : AW p l e R s m args below meth c E nL Q mc ms g n (pc + 1) lv2 st) : AW p l e R s m args below meth c E nL Q mc ms g n pc lv (.ref x :: st) := fun H locs ls hR hS hl => lv_astore_n S.1.1 S.1.2.1 hd rfl hl hn rfl (fun ls2 h2 => k H locs ls2 hR hS (hl2 ▸ aw_pos_set hp h2))
theorem aw_astore_g (S : aw_C p s m args meth c E cc nL own ret) {i : Nat} {x : Nat} {lv2 : List (Option Value)} (hd : decode cc pc = .ok (.astore i, 2)) (hn : i < nL) (hl2 : lv.set i (some (.ref x)) = lv2) (hp : aw_nl lv i = true) (k : AW p l e R s m args below meth c E nL Q mc ms g n (pc + 2) lv2 st) : AW p l e R s m args below meth c E nL Q mc ms g n pc lv (.ref x :: st) := fun H locs ls hR hS hl => lv_astore S.1.1 S.1.2.1 hd hl hn rfl (fun ls2 h2 => k H locs ls2 hR hS (hl2 ▸ aw_pos_set hp h2))
theorem aw_astore_nN_g (S : aw_C p s m args meth c E cc nL own ret) {i : Fin 4}  {lv2 : List (Option Value)} (hd : decode cc pc = .ok (.astore_n i, 1)) (hn : (i : Nat) < nL) (hl2 : lv.set (i : Nat) (some (.null)) = lv2) (hp : aw_nl lv (i : Nat) = true) (k : AW p l e R s m args below meth c E nL Q mc ms g n (pc + 1) lv2 st) : AW p l e R s m args below meth c E nL Q mc ms g n pc lv (.null :: st) := fun H locs ls hR hS hl => lv_astore_nN S.1.1 S.1.2.1 hd rfl hl hn rfl (fun ls2 h2 => k H locs ls2 hR hS (hl2 ▸ aw_pos_set hp h2))
theorem aw_astoreN_g (S : aw_C p s m args meth c E cc nL own ret) {i : Nat}  {lv2 : List (Option Value)} (hd : decode cc pc = .ok (.astore i, 2)) (hn : i < nL) (hl2 : lv.set i (some (.null)) = lv2) (hp : aw_nl lv i = true) (k : AW p l e R s m args below meth c E nL Q mc ms g n (pc + 2) lv2 st) : AW p l e R s m args below meth c E nL Q mc ms g n pc lv (.null :: st) := fun H locs ls hR hS hl => lv_astoreN S.1.1 S.1.2.1 hd hl hn rfl (fun ls2 h2 => k H locs ls2 hR hS (hl2 ▸ aw_pos_set hp h2))
theorem aw_lstore_n_g (S : aw_C p s m args meth c E cc nL own ret) {i : Fin 4} {x : Int64} {lv2 : List (Option Value)} (hd : decode cc pc = .ok (.lstore_n i, 1)) (hn : (i : Nat) + 1 < nL) (hl2 : (lv.set (i : Nat) (some (.long x))).set ((i : Nat) + 1) none = lv2) (hp : aw_nl lv (i : Nat) = true) (k : AW p l e R s m args below meth c E nL Q mc ms g n (pc + 1) lv2 st) : AW p l e R s m args below meth c E nL Q mc ms g n pc lv (.long x :: st) := fun H locs ls hR hS hl => lv_lstore_n S.1.1 S.1.2.1 hd rfl hl hn rfl (fun ls2 h2 => k H locs ls2 hR hS (hl2 ▸ aw_pos_set2 hp h2))
theorem aw_lstore_g (S : aw_C p s m args meth c E cc nL own ret) {i : Nat} {x : Int64} {lv2 : List (Option Value)} (hd : decode cc pc = .ok (.lstore i, 2)) (hn : i + 1 < nL) (hl2 : (lv.set i (some (.long x))).set (i + 1) none = lv2) (hp : aw_nl lv i = true) (k : AW p l e R s m args below meth c E nL Q mc ms g n (pc + 2) lv2 st) : AW p l e R s m args below meth c E nL Q mc ms g n pc lv (.long x :: st) := fun H locs ls hR hS hl => lv_lstore S.1.1 S.1.2.1 hd hl hn rfl (fun ls2 h2 => k H locs ls2 hR hS (hl2 ▸ aw_pos_set2 hp h2))
theorem aw_iinc_g (S : aw_C p s m args meth c E cc nL own ret) {i : Nat} {j : Int} {x v : Int32} {lv2 : List (Option Value)} (hd : decode cc pc = .ok (.iinc i j, 3)) (hx : lv[i]? = some (some (.int x))) (hv : x + Int32.ofInt j = v) (hn : i < nL) (hl2 : lv.set i (some (.int v)) = lv2) (hp : aw_nl lv i = true) (k : AW p l e R s m args below meth c E nL Q mc ms g n (pc + 3) lv2 st) : AW p l e R s m args below meth c E nL Q mc ms g n pc lv st := by
  intro H locs ls hR hS hl
  obtain ⟨q, hq⟩ := List.getElem?_of_mem (aw_pos_in hx)
  exact lv_iinc S.1.1 S.1.2.1 hd hl hq hv hn rfl (fun ls2 h2 => k H locs ls2 hR hS (hl2 ▸ aw_pos_set hp h2))
theorem aw_iload_0 (S : aw_C p s m args meth c E cc nL own ret) {x : Int32} {r : List (Option Value)} (hd : decode cc pc = .ok (.iload_n 0, 1)) (k : AW p l e R s m args below meth c E nL Q mc ms g n (pc + 1) (some (.int x) :: r) (.int x :: st)) : AW p l e R s m args below meth c E nL Q mc ms g n pc (some (.int x) :: r) st := aw_iload_n S hd rfl k
theorem aw_lload_0 (S : aw_C p s m args meth c E cc nL own ret) {x : Int64} {r : List (Option Value)} (hd : decode cc pc = .ok (.lload_n 0, 1)) (k : AW p l e R s m args below meth c E nL Q mc ms g n (pc + 1) (some (.long x) :: r) (.long x :: st)) : AW p l e R s m args below meth c E nL Q mc ms g n pc (some (.long x) :: r) st := aw_lload_n S hd rfl k
theorem aw_aload_0 (S : aw_C p s m args meth c E cc nL own ret) {x : Nat} {r : List (Option Value)} (hd : decode cc pc = .ok (.aload_n 0, 1)) (k : AW p l e R s m args below meth c E nL Q mc ms g n (pc + 1) (some (.ref x) :: r) (.ref x :: st)) : AW p l e R s m args below meth c E nL Q mc ms g n pc (some (.ref x) :: r) st := aw_aload_n S hd rfl k
theorem aw_aloadQ_0 (S : aw_C p s m args meth c E cc nL own ret) {x : Option Nat} {r : List (Option Value)} (hd : decode cc pc = .ok (.aload_n 0, 1)) (k : AW p l e R s m args below meth c E nL Q mc ms g n (pc + 1) (some (va_rf x) :: r) (va_rf x :: st)) : AW p l e R s m args below meth c E nL Q mc ms g n pc (some (va_rf x) :: r) st := aw_aload_nQ S hd rfl k
theorem aw_aloadN_0 (S : aw_C p s m args meth c E cc nL own ret)  {r : List (Option Value)} (hd : decode cc pc = .ok (.aload_n 0, 1)) (k : AW p l e R s m args below meth c E nL Q mc ms g n (pc + 1) (some (.null) :: r) (.null :: st)) : AW p l e R s m args below meth c E nL Q mc ms g n pc (some (.null) :: r) st := aw_aload_nN S hd rfl k
theorem aw_istore_0 (S : aw_C p s m args meth c E cc nL own ret) {x : Int32} {o : Option Value} {r : List (Option Value)} (hd : decode cc pc = .ok (.istore_n 0, 1)) (k : AW p l e R s m args below meth c E nL Q mc ms g n (pc + 1) (some (.int x) :: r) st) (hn : 0 < nL := by decide) : AW p l e R s m args below meth c E nL Q mc ms g n pc (o :: r) (.int x :: st) := aw_istore_n_g S hd hn rfl rfl k
theorem aw_astore_0 (S : aw_C p s m args meth c E cc nL own ret) {x : Nat} {o : Option Value} {r : List (Option Value)} (hd : decode cc pc = .ok (.astore_n 0, 1)) (k : AW p l e R s m args below meth c E nL Q mc ms g n (pc + 1) (some (.ref x) :: r) st) (hn : 0 < nL := by decide) : AW p l e R s m args below meth c E nL Q mc ms g n pc (o :: r) (.ref x :: st) := aw_astore_n_g S hd hn rfl rfl k
theorem aw_astoreN_0 (S : aw_C p s m args meth c E cc nL own ret)  {o : Option Value} {r : List (Option Value)} (hd : decode cc pc = .ok (.astore_n 0, 1)) (k : AW p l e R s m args below meth c E nL Q mc ms g n (pc + 1) (some (.null) :: r) st) (hn : 0 < nL := by decide) : AW p l e R s m args below meth c E nL Q mc ms g n pc (o :: r) (.null :: st) := aw_astore_nN_g S hd hn rfl rfl k
theorem aw_astoreQ_0 (S : aw_C p s m args meth c E cc nL own ret) {x : Option Nat} {o : Option Value} {r : List (Option Value)} (hd : decode cc pc = .ok (.astore_n 0, 1)) (k : AW p l e R s m args below meth c E nL Q mc ms g n (pc + 1) (some (va_rf x) :: r) st) (hn : 0 < nL := by decide) : AW p l e R s m args below meth c E nL Q mc ms g n pc (o :: r) (va_rf x :: st) := by
  cases x with
  | none => exact aw_astoreN_0 S hd k hn
  | some x => exact aw_astore_0 S hd k hn
theorem aw_lstore_0 (S : aw_C p s m args meth c E cc nL own ret) {x : Int64} {o o2 : Option Value} {r : List (Option Value)} (hd : decode cc pc = .ok (.lstore_n 0, 1)) (k : AW p l e R s m args below meth c E nL Q mc ms g n (pc + 1) (some (.long x) :: none :: r) st) (hn : 0 + 1 < nL := by decide) : AW p l e R s m args below meth c E nL Q mc ms g n pc (o :: o2 :: r) (.long x :: st) := aw_lstore_n_g S hd hn rfl rfl k
theorem aw_iinc_0 (S : aw_C p s m args meth c E cc nL own ret) {j : Int} {x v : Int32} {r : List (Option Value)} (hd : decode cc pc = .ok (.iinc 0 j, 3)) (hv : x + Int32.ofInt j = v) (k : AW p l e R s m args below meth c E nL Q mc ms g n (pc + 3) (some (.int v) :: r) st) (hn : 0 < nL := by decide) : AW p l e R s m args below meth c E nL Q mc ms g n pc (some (.int x) :: r) st := aw_iinc_g S hd rfl hv hn rfl rfl k
theorem aw_iload_1 (S : aw_C p s m args meth c E cc nL own ret) {x : Int32} {a0 : Option Value} {r : List (Option Value)} (hd : decode cc pc = .ok (.iload_n 1, 1)) (k : AW p l e R s m args below meth c E nL Q mc ms g n (pc + 1) (a0 :: some (.int x) :: r) (.int x :: st)) : AW p l e R s m args below meth c E nL Q mc ms g n pc (a0 :: some (.int x) :: r) st := aw_iload_n S hd rfl k
theorem aw_lload_1 (S : aw_C p s m args meth c E cc nL own ret) {x : Int64} {a0 : Option Value} {r : List (Option Value)} (hd : decode cc pc = .ok (.lload_n 1, 1)) (k : AW p l e R s m args below meth c E nL Q mc ms g n (pc + 1) (a0 :: some (.long x) :: r) (.long x :: st)) : AW p l e R s m args below meth c E nL Q mc ms g n pc (a0 :: some (.long x) :: r) st := aw_lload_n S hd rfl k
theorem aw_aload_1 (S : aw_C p s m args meth c E cc nL own ret) {x : Nat} {a0 : Option Value} {r : List (Option Value)} (hd : decode cc pc = .ok (.aload_n 1, 1)) (k : AW p l e R s m args below meth c E nL Q mc ms g n (pc + 1) (a0 :: some (.ref x) :: r) (.ref x :: st)) : AW p l e R s m args below meth c E nL Q mc ms g n pc (a0 :: some (.ref x) :: r) st := aw_aload_n S hd rfl k
theorem aw_aloadQ_1 (S : aw_C p s m args meth c E cc nL own ret) {x : Option Nat} {a0 : Option Value} {r : List (Option Value)} (hd : decode cc pc = .ok (.aload_n 1, 1)) (k : AW p l e R s m args below meth c E nL Q mc ms g n (pc + 1) (a0 :: some (va_rf x) :: r) (va_rf x :: st)) : AW p l e R s m args below meth c E nL Q mc ms g n pc (a0 :: some (va_rf x) :: r) st := aw_aload_nQ S hd rfl k
theorem aw_aloadN_1 (S : aw_C p s m args meth c E cc nL own ret)  {a0 : Option Value} {r : List (Option Value)} (hd : decode cc pc = .ok (.aload_n 1, 1)) (k : AW p l e R s m args below meth c E nL Q mc ms g n (pc + 1) (a0 :: some (.null) :: r) (.null :: st)) : AW p l e R s m args below meth c E nL Q mc ms g n pc (a0 :: some (.null) :: r) st := aw_aload_nN S hd rfl k
theorem aw_istore_1 (S : aw_C p s m args meth c E cc nL own ret) {x : Int32} {a0 o : Option Value} {r : List (Option Value)} (hd : decode cc pc = .ok (.istore_n 1, 1)) (k : AW p l e R s m args below meth c E nL Q mc ms g n (pc + 1) (a0 :: some (.int x) :: r) st) (hn : 1 < nL := by decide) (hp : aw_nl (a0 :: o :: r) 1 = true := by rfl) : AW p l e R s m args below meth c E nL Q mc ms g n pc (a0 :: o :: r) (.int x :: st) := aw_istore_n_g S hd hn rfl hp k
theorem aw_astore_1 (S : aw_C p s m args meth c E cc nL own ret) {x : Nat} {a0 o : Option Value} {r : List (Option Value)} (hd : decode cc pc = .ok (.astore_n 1, 1)) (k : AW p l e R s m args below meth c E nL Q mc ms g n (pc + 1) (a0 :: some (.ref x) :: r) st) (hn : 1 < nL := by decide) (hp : aw_nl (a0 :: o :: r) 1 = true := by rfl) : AW p l e R s m args below meth c E nL Q mc ms g n pc (a0 :: o :: r) (.ref x :: st) := aw_astore_n_g S hd hn rfl hp k
theorem aw_astoreN_1 (S : aw_C p s m args meth c E cc nL own ret)  {a0 o : Option Value} {r : List (Option Value)} (hd : decode cc pc = .ok (.astore_n 1, 1)) (k : AW p l e R s m args below meth c E nL Q mc ms g n (pc + 1) (a0 :: some (.null) :: r) st) (hn : 1 < nL := by decide) (hp : aw_nl (a0 :: o :: r) 1 = true := by rfl) : AW p l e R s m args below meth c E nL Q mc ms g n pc (a0 :: o :: r) (.null :: st) := aw_astore_nN_g S hd hn rfl hp k
theorem aw_astoreQ_1 (S : aw_C p s m args meth c E cc nL own ret) {x : Option Nat} {a0 o : Option Value} {r : List (Option Value)} (hd : decode cc pc = .ok (.astore_n 1, 1)) (k : AW p l e R s m args below meth c E nL Q mc ms g n (pc + 1) (a0 :: some (va_rf x) :: r) st) (hn : 1 < nL := by decide) (hp : aw_nl (a0 :: o :: r) 1 = true := by rfl) : AW p l e R s m args below meth c E nL Q mc ms g n pc (a0 :: o :: r) (va_rf x :: st) := by
  cases x with
  | none => exact aw_astoreN_1 S hd k hn hp
  | some x => exact aw_astore_1 S hd k hn hp
theorem aw_lstore_1 (S : aw_C p s m args meth c E cc nL own ret) {x : Int64} {a0 o o2 : Option Value} {r : List (Option Value)} (hd : decode cc pc = .ok (.lstore_n 1, 1)) (k : AW p l e R s m args below meth c E nL Q mc ms g n (pc + 1) (a0 :: some (.long x) :: none :: r) st) (hn : 1 + 1 < nL := by decide) (hp : aw_nl (a0 :: o :: o2 :: r) 1 = true := by rfl) : AW p l e R s m args below meth c E nL Q mc ms g n pc (a0 :: o :: o2 :: r) (.long x :: st) := aw_lstore_n_g S hd hn rfl hp k
theorem aw_iinc_1 (S : aw_C p s m args meth c E cc nL own ret) {j : Int} {x v : Int32} {a0 : Option Value} {r : List (Option Value)} (hd : decode cc pc = .ok (.iinc 1 j, 3)) (hv : x + Int32.ofInt j = v) (k : AW p l e R s m args below meth c E nL Q mc ms g n (pc + 3) (a0 :: some (.int v) :: r) st) (hn : 1 < nL := by decide) (hp : aw_nl (a0 :: some (.int x) :: r) 1 = true := by rfl) : AW p l e R s m args below meth c E nL Q mc ms g n pc (a0 :: some (.int x) :: r) st := aw_iinc_g S hd rfl hv hn rfl hp k
theorem aw_iload_2 (S : aw_C p s m args meth c E cc nL own ret) {x : Int32} {a0 a1 : Option Value} {r : List (Option Value)} (hd : decode cc pc = .ok (.iload_n 2, 1)) (k : AW p l e R s m args below meth c E nL Q mc ms g n (pc + 1) (a0 :: a1 :: some (.int x) :: r) (.int x :: st)) : AW p l e R s m args below meth c E nL Q mc ms g n pc (a0 :: a1 :: some (.int x) :: r) st := aw_iload_n S hd rfl k
theorem aw_lload_2 (S : aw_C p s m args meth c E cc nL own ret) {x : Int64} {a0 a1 : Option Value} {r : List (Option Value)} (hd : decode cc pc = .ok (.lload_n 2, 1)) (k : AW p l e R s m args below meth c E nL Q mc ms g n (pc + 1) (a0 :: a1 :: some (.long x) :: r) (.long x :: st)) : AW p l e R s m args below meth c E nL Q mc ms g n pc (a0 :: a1 :: some (.long x) :: r) st := aw_lload_n S hd rfl k
theorem aw_aload_2 (S : aw_C p s m args meth c E cc nL own ret) {x : Nat} {a0 a1 : Option Value} {r : List (Option Value)} (hd : decode cc pc = .ok (.aload_n 2, 1)) (k : AW p l e R s m args below meth c E nL Q mc ms g n (pc + 1) (a0 :: a1 :: some (.ref x) :: r) (.ref x :: st)) : AW p l e R s m args below meth c E nL Q mc ms g n pc (a0 :: a1 :: some (.ref x) :: r) st := aw_aload_n S hd rfl k
theorem aw_aloadQ_2 (S : aw_C p s m args meth c E cc nL own ret) {x : Option Nat} {a0 a1 : Option Value} {r : List (Option Value)} (hd : decode cc pc = .ok (.aload_n 2, 1)) (k : AW p l e R s m args below meth c E nL Q mc ms g n (pc + 1) (a0 :: a1 :: some (va_rf x) :: r) (va_rf x :: st)) : AW p l e R s m args below meth c E nL Q mc ms g n pc (a0 :: a1 :: some (va_rf x) :: r) st := aw_aload_nQ S hd rfl k
theorem aw_aloadN_2 (S : aw_C p s m args meth c E cc nL own ret)  {a0 a1 : Option Value} {r : List (Option Value)} (hd : decode cc pc = .ok (.aload_n 2, 1)) (k : AW p l e R s m args below meth c E nL Q mc ms g n (pc + 1) (a0 :: a1 :: some (.null) :: r) (.null :: st)) : AW p l e R s m args below meth c E nL Q mc ms g n pc (a0 :: a1 :: some (.null) :: r) st := aw_aload_nN S hd rfl k
theorem aw_istore_2 (S : aw_C p s m args meth c E cc nL own ret) {x : Int32} {a0 a1 o : Option Value} {r : List (Option Value)} (hd : decode cc pc = .ok (.istore_n 2, 1)) (k : AW p l e R s m args below meth c E nL Q mc ms g n (pc + 1) (a0 :: a1 :: some (.int x) :: r) st) (hn : 2 < nL := by decide) (hp : aw_nl (a0 :: a1 :: o :: r) 2 = true := by rfl) : AW p l e R s m args below meth c E nL Q mc ms g n pc (a0 :: a1 :: o :: r) (.int x :: st) := aw_istore_n_g S hd hn rfl hp k
theorem aw_astore_2 (S : aw_C p s m args meth c E cc nL own ret) {x : Nat} {a0 a1 o : Option Value} {r : List (Option Value)} (hd : decode cc pc = .ok (.astore_n 2, 1)) (k : AW p l e R s m args below meth c E nL Q mc ms g n (pc + 1) (a0 :: a1 :: some (.ref x) :: r) st) (hn : 2 < nL := by decide) (hp : aw_nl (a0 :: a1 :: o :: r) 2 = true := by rfl) : AW p l e R s m args below meth c E nL Q mc ms g n pc (a0 :: a1 :: o :: r) (.ref x :: st) := aw_astore_n_g S hd hn rfl hp k
theorem aw_astoreN_2 (S : aw_C p s m args meth c E cc nL own ret)  {a0 a1 o : Option Value} {r : List (Option Value)} (hd : decode cc pc = .ok (.astore_n 2, 1)) (k : AW p l e R s m args below meth c E nL Q mc ms g n (pc + 1) (a0 :: a1 :: some (.null) :: r) st) (hn : 2 < nL := by decide) (hp : aw_nl (a0 :: a1 :: o :: r) 2 = true := by rfl) : AW p l e R s m args below meth c E nL Q mc ms g n pc (a0 :: a1 :: o :: r) (.null :: st) := aw_astore_nN_g S hd hn rfl hp k
theorem aw_astoreQ_2 (S : aw_C p s m args meth c E cc nL own ret) {x : Option Nat} {a0 a1 o : Option Value} {r : List (Option Value)} (hd : decode cc pc = .ok (.astore_n 2, 1)) (k : AW p l e R s m args below meth c E nL Q mc ms g n (pc + 1) (a0 :: a1 :: some (va_rf x) :: r) st) (hn : 2 < nL := by decide) (hp : aw_nl (a0 :: a1 :: o :: r) 2 = true := by rfl) : AW p l e R s m args below meth c E nL Q mc ms g n pc (a0 :: a1 :: o :: r) (va_rf x :: st) := by
  cases x with
  | none => exact aw_astoreN_2 S hd k hn hp
  | some x => exact aw_astore_2 S hd k hn hp
theorem aw_lstore_2 (S : aw_C p s m args meth c E cc nL own ret) {x : Int64} {a0 a1 o o2 : Option Value} {r : List (Option Value)} (hd : decode cc pc = .ok (.lstore_n 2, 1)) (k : AW p l e R s m args below meth c E nL Q mc ms g n (pc + 1) (a0 :: a1 :: some (.long x) :: none :: r) st) (hn : 2 + 1 < nL := by decide) (hp : aw_nl (a0 :: a1 :: o :: o2 :: r) 2 = true := by rfl) : AW p l e R s m args below meth c E nL Q mc ms g n pc (a0 :: a1 :: o :: o2 :: r) (.long x :: st) := aw_lstore_n_g S hd hn rfl hp k
theorem aw_iinc_2 (S : aw_C p s m args meth c E cc nL own ret) {j : Int} {x v : Int32} {a0 a1 : Option Value} {r : List (Option Value)} (hd : decode cc pc = .ok (.iinc 2 j, 3)) (hv : x + Int32.ofInt j = v) (k : AW p l e R s m args below meth c E nL Q mc ms g n (pc + 3) (a0 :: a1 :: some (.int v) :: r) st) (hn : 2 < nL := by decide) (hp : aw_nl (a0 :: a1 :: some (.int x) :: r) 2 = true := by rfl) : AW p l e R s m args below meth c E nL Q mc ms g n pc (a0 :: a1 :: some (.int x) :: r) st := aw_iinc_g S hd rfl hv hn rfl hp k
theorem aw_iload_3 (S : aw_C p s m args meth c E cc nL own ret) {x : Int32} {a0 a1 a2 : Option Value} {r : List (Option Value)} (hd : decode cc pc = .ok (.iload_n 3, 1)) (k : AW p l e R s m args below meth c E nL Q mc ms g n (pc + 1) (a0 :: a1 :: a2 :: some (.int x) :: r) (.int x :: st)) : AW p l e R s m args below meth c E nL Q mc ms g n pc (a0 :: a1 :: a2 :: some (.int x) :: r) st := aw_iload_n S hd rfl k
theorem aw_lload_3 (S : aw_C p s m args meth c E cc nL own ret) {x : Int64} {a0 a1 a2 : Option Value} {r : List (Option Value)} (hd : decode cc pc = .ok (.lload_n 3, 1)) (k : AW p l e R s m args below meth c E nL Q mc ms g n (pc + 1) (a0 :: a1 :: a2 :: some (.long x) :: r) (.long x :: st)) : AW p l e R s m args below meth c E nL Q mc ms g n pc (a0 :: a1 :: a2 :: some (.long x) :: r) st := aw_lload_n S hd rfl k
theorem aw_aload_3 (S : aw_C p s m args meth c E cc nL own ret) {x : Nat} {a0 a1 a2 : Option Value} {r : List (Option Value)} (hd : decode cc pc = .ok (.aload_n 3, 1)) (k : AW p l e R s m args below meth c E nL Q mc ms g n (pc + 1) (a0 :: a1 :: a2 :: some (.ref x) :: r) (.ref x :: st)) : AW p l e R s m args below meth c E nL Q mc ms g n pc (a0 :: a1 :: a2 :: some (.ref x) :: r) st := aw_aload_n S hd rfl k
theorem aw_aloadQ_3 (S : aw_C p s m args meth c E cc nL own ret) {x : Option Nat} {a0 a1 a2 : Option Value} {r : List (Option Value)} (hd : decode cc pc = .ok (.aload_n 3, 1)) (k : AW p l e R s m args below meth c E nL Q mc ms g n (pc + 1) (a0 :: a1 :: a2 :: some (va_rf x) :: r) (va_rf x :: st)) : AW p l e R s m args below meth c E nL Q mc ms g n pc (a0 :: a1 :: a2 :: some (va_rf x) :: r) st := aw_aload_nQ S hd rfl k
theorem aw_aloadN_3 (S : aw_C p s m args meth c E cc nL own ret)  {a0 a1 a2 : Option Value} {r : List (Option Value)} (hd : decode cc pc = .ok (.aload_n 3, 1)) (k : AW p l e R s m args below meth c E nL Q mc ms g n (pc + 1) (a0 :: a1 :: a2 :: some (.null) :: r) (.null :: st)) : AW p l e R s m args below meth c E nL Q mc ms g n pc (a0 :: a1 :: a2 :: some (.null) :: r) st := aw_aload_nN S hd rfl k
theorem aw_istore_3 (S : aw_C p s m args meth c E cc nL own ret) {x : Int32} {a0 a1 a2 o : Option Value} {r : List (Option Value)} (hd : decode cc pc = .ok (.istore_n 3, 1)) (k : AW p l e R s m args below meth c E nL Q mc ms g n (pc + 1) (a0 :: a1 :: a2 :: some (.int x) :: r) st) (hn : 3 < nL := by decide) (hp : aw_nl (a0 :: a1 :: a2 :: o :: r) 3 = true := by rfl) : AW p l e R s m args below meth c E nL Q mc ms g n pc (a0 :: a1 :: a2 :: o :: r) (.int x :: st) := aw_istore_n_g S hd hn rfl hp k
theorem aw_astore_3 (S : aw_C p s m args meth c E cc nL own ret) {x : Nat} {a0 a1 a2 o : Option Value} {r : List (Option Value)} (hd : decode cc pc = .ok (.astore_n 3, 1)) (k : AW p l e R s m args below meth c E nL Q mc ms g n (pc + 1) (a0 :: a1 :: a2 :: some (.ref x) :: r) st) (hn : 3 < nL := by decide) (hp : aw_nl (a0 :: a1 :: a2 :: o :: r) 3 = true := by rfl) : AW p l e R s m args below meth c E nL Q mc ms g n pc (a0 :: a1 :: a2 :: o :: r) (.ref x :: st) := aw_astore_n_g S hd hn rfl hp k
theorem aw_astoreN_3 (S : aw_C p s m args meth c E cc nL own ret)  {a0 a1 a2 o : Option Value} {r : List (Option Value)} (hd : decode cc pc = .ok (.astore_n 3, 1)) (k : AW p l e R s m args below meth c E nL Q mc ms g n (pc + 1) (a0 :: a1 :: a2 :: some (.null) :: r) st) (hn : 3 < nL := by decide) (hp : aw_nl (a0 :: a1 :: a2 :: o :: r) 3 = true := by rfl) : AW p l e R s m args below meth c E nL Q mc ms g n pc (a0 :: a1 :: a2 :: o :: r) (.null :: st) := aw_astore_nN_g S hd hn rfl hp k
theorem aw_astoreQ_3 (S : aw_C p s m args meth c E cc nL own ret) {x : Option Nat} {a0 a1 a2 o : Option Value} {r : List (Option Value)} (hd : decode cc pc = .ok (.astore_n 3, 1)) (k : AW p l e R s m args below meth c E nL Q mc ms g n (pc + 1) (a0 :: a1 :: a2 :: some (va_rf x) :: r) st) (hn : 3 < nL := by decide) (hp : aw_nl (a0 :: a1 :: a2 :: o :: r) 3 = true := by rfl) : AW p l e R s m args below meth c E nL Q mc ms g n pc (a0 :: a1 :: a2 :: o :: r) (va_rf x :: st) := by
  cases x with
  | none => exact aw_astoreN_3 S hd k hn hp
  | some x => exact aw_astore_3 S hd k hn hp
theorem aw_lstore_3 (S : aw_C p s m args meth c E cc nL own ret) {x : Int64} {a0 a1 a2 o o2 : Option Value} {r : List (Option Value)} (hd : decode cc pc = .ok (.lstore_n 3, 1)) (k : AW p l e R s m args below meth c E nL Q mc ms g n (pc + 1) (a0 :: a1 :: a2 :: some (.long x) :: none :: r) st) (hn : 3 + 1 < nL := by decide) (hp : aw_nl (a0 :: a1 :: a2 :: o :: o2 :: r) 3 = true := by rfl) : AW p l e R s m args below meth c E nL Q mc ms g n pc (a0 :: a1 :: a2 :: o :: o2 :: r) (.long x :: st) := aw_lstore_n_g S hd hn rfl hp k
theorem aw_iinc_3 (S : aw_C p s m args meth c E cc nL own ret) {j : Int} {x v : Int32} {a0 a1 a2 : Option Value} {r : List (Option Value)} (hd : decode cc pc = .ok (.iinc 3 j, 3)) (hv : x + Int32.ofInt j = v) (k : AW p l e R s m args below meth c E nL Q mc ms g n (pc + 3) (a0 :: a1 :: a2 :: some (.int v) :: r) st) (hn : 3 < nL := by decide) (hp : aw_nl (a0 :: a1 :: a2 :: some (.int x) :: r) 3 = true := by rfl) : AW p l e R s m args below meth c E nL Q mc ms g n pc (a0 :: a1 :: a2 :: some (.int x) :: r) st := aw_iinc_g S hd rfl hv hn rfl hp k
theorem aw_iload_4 (S : aw_C p s m args meth c E cc nL own ret) {x : Int32} {a0 a1 a2 a3 : Option Value} {r : List (Option Value)} (hd : decode cc pc = .ok (.iload 4, 2)) (k : AW p l e R s m args below meth c E nL Q mc ms g n (pc + 2) (a0 :: a1 :: a2 :: a3 :: some (.int x) :: r) (.int x :: st)) : AW p l e R s m args below meth c E nL Q mc ms g n pc (a0 :: a1 :: a2 :: a3 :: some (.int x) :: r) st := aw_iload S hd rfl k
theorem aw_lload_4 (S : aw_C p s m args meth c E cc nL own ret) {x : Int64} {a0 a1 a2 a3 : Option Value} {r : List (Option Value)} (hd : decode cc pc = .ok (.lload 4, 2)) (k : AW p l e R s m args below meth c E nL Q mc ms g n (pc + 2) (a0 :: a1 :: a2 :: a3 :: some (.long x) :: r) (.long x :: st)) : AW p l e R s m args below meth c E nL Q mc ms g n pc (a0 :: a1 :: a2 :: a3 :: some (.long x) :: r) st := aw_lload S hd rfl k
theorem aw_aload_4 (S : aw_C p s m args meth c E cc nL own ret) {x : Nat} {a0 a1 a2 a3 : Option Value} {r : List (Option Value)} (hd : decode cc pc = .ok (.aload 4, 2)) (k : AW p l e R s m args below meth c E nL Q mc ms g n (pc + 2) (a0 :: a1 :: a2 :: a3 :: some (.ref x) :: r) (.ref x :: st)) : AW p l e R s m args below meth c E nL Q mc ms g n pc (a0 :: a1 :: a2 :: a3 :: some (.ref x) :: r) st := aw_aload S hd rfl k
theorem aw_aloadQ_4 (S : aw_C p s m args meth c E cc nL own ret) {x : Option Nat} {a0 a1 a2 a3 : Option Value} {r : List (Option Value)} (hd : decode cc pc = .ok (.aload 4, 2)) (k : AW p l e R s m args below meth c E nL Q mc ms g n (pc + 2) (a0 :: a1 :: a2 :: a3 :: some (va_rf x) :: r) (va_rf x :: st)) : AW p l e R s m args below meth c E nL Q mc ms g n pc (a0 :: a1 :: a2 :: a3 :: some (va_rf x) :: r) st := aw_aloadQ S hd rfl k
theorem aw_aloadN_4 (S : aw_C p s m args meth c E cc nL own ret)  {a0 a1 a2 a3 : Option Value} {r : List (Option Value)} (hd : decode cc pc = .ok (.aload 4, 2)) (k : AW p l e R s m args below meth c E nL Q mc ms g n (pc + 2) (a0 :: a1 :: a2 :: a3 :: some (.null) :: r) (.null :: st)) : AW p l e R s m args below meth c E nL Q mc ms g n pc (a0 :: a1 :: a2 :: a3 :: some (.null) :: r) st := aw_aloadN S hd rfl k
theorem aw_istore_4 (S : aw_C p s m args meth c E cc nL own ret) {x : Int32} {a0 a1 a2 a3 o : Option Value} {r : List (Option Value)} (hd : decode cc pc = .ok (.istore 4, 2)) (k : AW p l e R s m args below meth c E nL Q mc ms g n (pc + 2) (a0 :: a1 :: a2 :: a3 :: some (.int x) :: r) st) (hn : 4 < nL := by decide) (hp : aw_nl (a0 :: a1 :: a2 :: a3 :: o :: r) 4 = true := by rfl) : AW p l e R s m args below meth c E nL Q mc ms g n pc (a0 :: a1 :: a2 :: a3 :: o :: r) (.int x :: st) := aw_istore_g S hd hn rfl hp k
theorem aw_astore_4 (S : aw_C p s m args meth c E cc nL own ret) {x : Nat} {a0 a1 a2 a3 o : Option Value} {r : List (Option Value)} (hd : decode cc pc = .ok (.astore 4, 2)) (k : AW p l e R s m args below meth c E nL Q mc ms g n (pc + 2) (a0 :: a1 :: a2 :: a3 :: some (.ref x) :: r) st) (hn : 4 < nL := by decide) (hp : aw_nl (a0 :: a1 :: a2 :: a3 :: o :: r) 4 = true := by rfl) : AW p l e R s m args below meth c E nL Q mc ms g n pc (a0 :: a1 :: a2 :: a3 :: o :: r) (.ref x :: st) := aw_astore_g S hd hn rfl hp k
theorem aw_astoreN_4 (S : aw_C p s m args meth c E cc nL own ret)  {a0 a1 a2 a3 o : Option Value} {r : List (Option Value)} (hd : decode cc pc = .ok (.astore 4, 2)) (k : AW p l e R s m args below meth c E nL Q mc ms g n (pc + 2) (a0 :: a1 :: a2 :: a3 :: some (.null) :: r) st) (hn : 4 < nL := by decide) (hp : aw_nl (a0 :: a1 :: a2 :: a3 :: o :: r) 4 = true := by rfl) : AW p l e R s m args below meth c E nL Q mc ms g n pc (a0 :: a1 :: a2 :: a3 :: o :: r) (.null :: st) := aw_astoreN_g S hd hn rfl hp k
theorem aw_astoreQ_4 (S : aw_C p s m args meth c E cc nL own ret) {x : Option Nat} {a0 a1 a2 a3 o : Option Value} {r : List (Option Value)} (hd : decode cc pc = .ok (.astore 4, 2)) (k : AW p l e R s m args below meth c E nL Q mc ms g n (pc + 2) (a0 :: a1 :: a2 :: a3 :: some (va_rf x) :: r) st) (hn : 4 < nL := by decide) (hp : aw_nl (a0 :: a1 :: a2 :: a3 :: o :: r) 4 = true := by rfl) : AW p l e R s m args below meth c E nL Q mc ms g n pc (a0 :: a1 :: a2 :: a3 :: o :: r) (va_rf x :: st) := by
  cases x with
  | none => exact aw_astoreN_4 S hd k hn hp
  | some x => exact aw_astore_4 S hd k hn hp
theorem aw_lstore_4 (S : aw_C p s m args meth c E cc nL own ret) {x : Int64} {a0 a1 a2 a3 o o2 : Option Value} {r : List (Option Value)} (hd : decode cc pc = .ok (.lstore 4, 2)) (k : AW p l e R s m args below meth c E nL Q mc ms g n (pc + 2) (a0 :: a1 :: a2 :: a3 :: some (.long x) :: none :: r) st) (hn : 4 + 1 < nL := by decide) (hp : aw_nl (a0 :: a1 :: a2 :: a3 :: o :: o2 :: r) 4 = true := by rfl) : AW p l e R s m args below meth c E nL Q mc ms g n pc (a0 :: a1 :: a2 :: a3 :: o :: o2 :: r) (.long x :: st) := aw_lstore_g S hd hn rfl hp k
theorem aw_iinc_4 (S : aw_C p s m args meth c E cc nL own ret) {j : Int} {x v : Int32} {a0 a1 a2 a3 : Option Value} {r : List (Option Value)} (hd : decode cc pc = .ok (.iinc 4 j, 3)) (hv : x + Int32.ofInt j = v) (k : AW p l e R s m args below meth c E nL Q mc ms g n (pc + 3) (a0 :: a1 :: a2 :: a3 :: some (.int v) :: r) st) (hn : 4 < nL := by decide) (hp : aw_nl (a0 :: a1 :: a2 :: a3 :: some (.int x) :: r) 4 = true := by rfl) : AW p l e R s m args below meth c E nL Q mc ms g n pc (a0 :: a1 :: a2 :: a3 :: some (.int x) :: r) st := aw_iinc_g S hd rfl hv hn rfl hp k
theorem aw_iload_5 (S : aw_C p s m args meth c E cc nL own ret) {x : Int32} {a0 a1 a2 a3 a4 : Option Value} {r : List (Option Value)} (hd : decode cc pc = .ok (.iload 5, 2)) (k : AW p l e R s m args below meth c E nL Q mc ms g n (pc + 2) (a0 :: a1 :: a2 :: a3 :: a4 :: some (.int x) :: r) (.int x :: st)) : AW p l e R s m args below meth c E nL Q mc ms g n pc (a0 :: a1 :: a2 :: a3 :: a4 :: some (.int x) :: r) st := aw_iload S hd rfl k
theorem aw_lload_5 (S : aw_C p s m args meth c E cc nL own ret) {x : Int64} {a0 a1 a2 a3 a4 : Option Value} {r : List (Option Value)} (hd : decode cc pc = .ok (.lload 5, 2)) (k : AW p l e R s m args below meth c E nL Q mc ms g n (pc + 2) (a0 :: a1 :: a2 :: a3 :: a4 :: some (.long x) :: r) (.long x :: st)) : AW p l e R s m args below meth c E nL Q mc ms g n pc (a0 :: a1 :: a2 :: a3 :: a4 :: some (.long x) :: r) st := aw_lload S hd rfl k
theorem aw_aload_5 (S : aw_C p s m args meth c E cc nL own ret) {x : Nat} {a0 a1 a2 a3 a4 : Option Value} {r : List (Option Value)} (hd : decode cc pc = .ok (.aload 5, 2)) (k : AW p l e R s m args below meth c E nL Q mc ms g n (pc + 2) (a0 :: a1 :: a2 :: a3 :: a4 :: some (.ref x) :: r) (.ref x :: st)) : AW p l e R s m args below meth c E nL Q mc ms g n pc (a0 :: a1 :: a2 :: a3 :: a4 :: some (.ref x) :: r) st := aw_aload S hd rfl k
theorem aw_aloadQ_5 (S : aw_C p s m args meth c E cc nL own ret) {x : Option Nat} {a0 a1 a2 a3 a4 : Option Value} {r : List (Option Value)} (hd : decode cc pc = .ok (.aload 5, 2)) (k : AW p l e R s m args below meth c E nL Q mc ms g n (pc + 2) (a0 :: a1 :: a2 :: a3 :: a4 :: some (va_rf x) :: r) (va_rf x :: st)) : AW p l e R s m args below meth c E nL Q mc ms g n pc (a0 :: a1 :: a2 :: a3 :: a4 :: some (va_rf x) :: r) st := aw_aloadQ S hd rfl k
theorem aw_aloadN_5 (S : aw_C p s m args meth c E cc nL own ret)  {a0 a1 a2 a3 a4 : Option Value} {r : List (Option Value)} (hd : decode cc pc = .ok (.aload 5, 2)) (k : AW p l e R s m args below meth c E nL Q mc ms g n (pc + 2) (a0 :: a1 :: a2 :: a3 :: a4 :: some (.null) :: r) (.null :: st)) : AW p l e R s m args below meth c E nL Q mc ms g n pc (a0 :: a1 :: a2 :: a3 :: a4 :: some (.null) :: r) st := aw_aloadN S hd rfl k
theorem aw_istore_5 (S : aw_C p s m args meth c E cc nL own ret) {x : Int32} {a0 a1 a2 a3 a4 o : Option Value} {r : List (Option Value)} (hd : decode cc pc = .ok (.istore 5, 2)) (k : AW p l e R s m args below meth c E nL Q mc ms g n (pc + 2) (a0 :: a1 :: a2 :: a3 :: a4 :: some (.int x) :: r) st) (hn : 5 < nL := by decide) (hp : aw_nl (a0 :: a1 :: a2 :: a3 :: a4 :: o :: r) 5 = true := by rfl) : AW p l e R s m args below meth c E nL Q mc ms g n pc (a0 :: a1 :: a2 :: a3 :: a4 :: o :: r) (.int x :: st) := aw_istore_g S hd hn rfl hp k
theorem aw_astore_5 (S : aw_C p s m args meth c E cc nL own ret) {x : Nat} {a0 a1 a2 a3 a4 o : Option Value} {r : List (Option Value)} (hd : decode cc pc = .ok (.astore 5, 2)) (k : AW p l e R s m args below meth c E nL Q mc ms g n (pc + 2) (a0 :: a1 :: a2 :: a3 :: a4 :: some (.ref x) :: r) st) (hn : 5 < nL := by decide) (hp : aw_nl (a0 :: a1 :: a2 :: a3 :: a4 :: o :: r) 5 = true := by rfl) : AW p l e R s m args below meth c E nL Q mc ms g n pc (a0 :: a1 :: a2 :: a3 :: a4 :: o :: r) (.ref x :: st) := aw_astore_g S hd hn rfl hp k
theorem aw_astoreN_5 (S : aw_C p s m args meth c E cc nL own ret)  {a0 a1 a2 a3 a4 o : Option Value} {r : List (Option Value)} (hd : decode cc pc = .ok (.astore 5, 2)) (k : AW p l e R s m args below meth c E nL Q mc ms g n (pc + 2) (a0 :: a1 :: a2 :: a3 :: a4 :: some (.null) :: r) st) (hn : 5 < nL := by decide) (hp : aw_nl (a0 :: a1 :: a2 :: a3 :: a4 :: o :: r) 5 = true := by rfl) : AW p l e R s m args below meth c E nL Q mc ms g n pc (a0 :: a1 :: a2 :: a3 :: a4 :: o :: r) (.null :: st) := aw_astoreN_g S hd hn rfl hp k
theorem aw_astoreQ_5 (S : aw_C p s m args meth c E cc nL own ret) {x : Option Nat} {a0 a1 a2 a3 a4 o : Option Value} {r : List (Option Value)} (hd : decode cc pc = .ok (.astore 5, 2)) (k : AW p l e R s m args below meth c E nL Q mc ms g n (pc + 2) (a0 :: a1 :: a2 :: a3 :: a4 :: some (va_rf x) :: r) st) (hn : 5 < nL := by decide) (hp : aw_nl (a0 :: a1 :: a2 :: a3 :: a4 :: o :: r) 5 = true := by rfl) : AW p l e R s m args below meth c E nL Q mc ms g n pc (a0 :: a1 :: a2 :: a3 :: a4 :: o :: r) (va_rf x :: st) := by
  cases x with
  | none => exact aw_astoreN_5 S hd k hn hp
  | some x => exact aw_astore_5 S hd k hn hp
theorem aw_lstore_5 (S : aw_C p s m args meth c E cc nL own ret) {x : Int64} {a0 a1 a2 a3 a4 o o2 : Option Value} {r : List (Option Value)} (hd : decode cc pc = .ok (.lstore 5, 2)) (k : AW p l e R s m args below meth c E nL Q mc ms g n (pc + 2) (a0 :: a1 :: a2 :: a3 :: a4 :: some (.long x) :: none :: r) st) (hn : 5 + 1 < nL := by decide) (hp : aw_nl (a0 :: a1 :: a2 :: a3 :: a4 :: o :: o2 :: r) 5 = true := by rfl) : AW p l e R s m args below meth c E nL Q mc ms g n pc (a0 :: a1 :: a2 :: a3 :: a4 :: o :: o2 :: r) (.long x :: st) := aw_lstore_g S hd hn rfl hp k
theorem aw_iinc_5 (S : aw_C p s m args meth c E cc nL own ret) {j : Int} {x v : Int32} {a0 a1 a2 a3 a4 : Option Value} {r : List (Option Value)} (hd : decode cc pc = .ok (.iinc 5 j, 3)) (hv : x + Int32.ofInt j = v) (k : AW p l e R s m args below meth c E nL Q mc ms g n (pc + 3) (a0 :: a1 :: a2 :: a3 :: a4 :: some (.int v) :: r) st) (hn : 5 < nL := by decide) (hp : aw_nl (a0 :: a1 :: a2 :: a3 :: a4 :: some (.int x) :: r) 5 = true := by rfl) : AW p l e R s m args below meth c E nL Q mc ms g n pc (a0 :: a1 :: a2 :: a3 :: a4 :: some (.int x) :: r) st := aw_iinc_g S hd rfl hv hn rfl hp k
theorem aw_iload_6 (S : aw_C p s m args meth c E cc nL own ret) {x : Int32} {a0 a1 a2 a3 a4 a5 : Option Value} {r : List (Option Value)} (hd : decode cc pc = .ok (.iload 6, 2)) (k : AW p l e R s m args below meth c E nL Q mc ms g n (pc + 2) (a0 :: a1 :: a2 :: a3 :: a4 :: a5 :: some (.int x) :: r) (.int x :: st)) : AW p l e R s m args below meth c E nL Q mc ms g n pc (a0 :: a1 :: a2 :: a3 :: a4 :: a5 :: some (.int x) :: r) st := aw_iload S hd rfl k
theorem aw_lload_6 (S : aw_C p s m args meth c E cc nL own ret) {x : Int64} {a0 a1 a2 a3 a4 a5 : Option Value} {r : List (Option Value)} (hd : decode cc pc = .ok (.lload 6, 2)) (k : AW p l e R s m args below meth c E nL Q mc ms g n (pc + 2) (a0 :: a1 :: a2 :: a3 :: a4 :: a5 :: some (.long x) :: r) (.long x :: st)) : AW p l e R s m args below meth c E nL Q mc ms g n pc (a0 :: a1 :: a2 :: a3 :: a4 :: a5 :: some (.long x) :: r) st := aw_lload S hd rfl k
theorem aw_aload_6 (S : aw_C p s m args meth c E cc nL own ret) {x : Nat} {a0 a1 a2 a3 a4 a5 : Option Value} {r : List (Option Value)} (hd : decode cc pc = .ok (.aload 6, 2)) (k : AW p l e R s m args below meth c E nL Q mc ms g n (pc + 2) (a0 :: a1 :: a2 :: a3 :: a4 :: a5 :: some (.ref x) :: r) (.ref x :: st)) : AW p l e R s m args below meth c E nL Q mc ms g n pc (a0 :: a1 :: a2 :: a3 :: a4 :: a5 :: some (.ref x) :: r) st := aw_aload S hd rfl k
theorem aw_aloadQ_6 (S : aw_C p s m args meth c E cc nL own ret) {x : Option Nat} {a0 a1 a2 a3 a4 a5 : Option Value} {r : List (Option Value)} (hd : decode cc pc = .ok (.aload 6, 2)) (k : AW p l e R s m args below meth c E nL Q mc ms g n (pc + 2) (a0 :: a1 :: a2 :: a3 :: a4 :: a5 :: some (va_rf x) :: r) (va_rf x :: st)) : AW p l e R s m args below meth c E nL Q mc ms g n pc (a0 :: a1 :: a2 :: a3 :: a4 :: a5 :: some (va_rf x) :: r) st := aw_aloadQ S hd rfl k
theorem aw_aloadN_6 (S : aw_C p s m args meth c E cc nL own ret)  {a0 a1 a2 a3 a4 a5 : Option Value} {r : List (Option Value)} (hd : decode cc pc = .ok (.aload 6, 2)) (k : AW p l e R s m args below meth c E nL Q mc ms g n (pc + 2) (a0 :: a1 :: a2 :: a3 :: a4 :: a5 :: some (.null) :: r) (.null :: st)) : AW p l e R s m args below meth c E nL Q mc ms g n pc (a0 :: a1 :: a2 :: a3 :: a4 :: a5 :: some (.null) :: r) st := aw_aloadN S hd rfl k
theorem aw_istore_6 (S : aw_C p s m args meth c E cc nL own ret) {x : Int32} {a0 a1 a2 a3 a4 a5 o : Option Value} {r : List (Option Value)} (hd : decode cc pc = .ok (.istore 6, 2)) (k : AW p l e R s m args below meth c E nL Q mc ms g n (pc + 2) (a0 :: a1 :: a2 :: a3 :: a4 :: a5 :: some (.int x) :: r) st) (hn : 6 < nL := by decide) (hp : aw_nl (a0 :: a1 :: a2 :: a3 :: a4 :: a5 :: o :: r) 6 = true := by rfl) : AW p l e R s m args below meth c E nL Q mc ms g n pc (a0 :: a1 :: a2 :: a3 :: a4 :: a5 :: o :: r) (.int x :: st) := aw_istore_g S hd hn rfl hp k
theorem aw_astore_6 (S : aw_C p s m args meth c E cc nL own ret) {x : Nat} {a0 a1 a2 a3 a4 a5 o : Option Value} {r : List (Option Value)} (hd : decode cc pc = .ok (.astore 6, 2)) (k : AW p l e R s m args below meth c E nL Q mc ms g n (pc + 2) (a0 :: a1 :: a2 :: a3 :: a4 :: a5 :: some (.ref x) :: r) st) (hn : 6 < nL := by decide) (hp : aw_nl (a0 :: a1 :: a2 :: a3 :: a4 :: a5 :: o :: r) 6 = true := by rfl) : AW p l e R s m args below meth c E nL Q mc ms g n pc (a0 :: a1 :: a2 :: a3 :: a4 :: a5 :: o :: r) (.ref x :: st) := aw_astore_g S hd hn rfl hp k
theorem aw_astoreN_6 (S : aw_C p s m args meth c E cc nL own ret)  {a0 a1 a2 a3 a4 a5 o : Option Value} {r : List (Option Value)} (hd : decode cc pc = .ok (.astore 6, 2)) (k : AW p l e R s m args below meth c E nL Q mc ms g n (pc + 2) (a0 :: a1 :: a2 :: a3 :: a4 :: a5 :: some (.null) :: r) st) (hn : 6 < nL := by decide) (hp : aw_nl (a0 :: a1 :: a2 :: a3 :: a4 :: a5 :: o :: r) 6 = true := by rfl) : AW p l e R s m args below meth c E nL Q mc ms g n pc (a0 :: a1 :: a2 :: a3 :: a4 :: a5 :: o :: r) (.null :: st) := aw_astoreN_g S hd hn rfl hp k
theorem aw_astoreQ_6 (S : aw_C p s m args meth c E cc nL own ret) {x : Option Nat} {a0 a1 a2 a3 a4 a5 o : Option Value} {r : List (Option Value)} (hd : decode cc pc = .ok (.astore 6, 2)) (k : AW p l e R s m args below meth c E nL Q mc ms g n (pc + 2) (a0 :: a1 :: a2 :: a3 :: a4 :: a5 :: some (va_rf x) :: r) st) (hn : 6 < nL := by decide) (hp : aw_nl (a0 :: a1 :: a2 :: a3 :: a4 :: a5 :: o :: r) 6 = true := by rfl) : AW p l e R s m args below meth c E nL Q mc ms g n pc (a0 :: a1 :: a2 :: a3 :: a4 :: a5 :: o :: r) (va_rf x :: st) := by
  cases x with
  | none => exact aw_astoreN_6 S hd k hn hp
  | some x => exact aw_astore_6 S hd k hn hp
theorem aw_lstore_6 (S : aw_C p s m args meth c E cc nL own ret) {x : Int64} {a0 a1 a2 a3 a4 a5 o o2 : Option Value} {r : List (Option Value)} (hd : decode cc pc = .ok (.lstore 6, 2)) (k : AW p l e R s m args below meth c E nL Q mc ms g n (pc + 2) (a0 :: a1 :: a2 :: a3 :: a4 :: a5 :: some (.long x) :: none :: r) st) (hn : 6 + 1 < nL := by decide) (hp : aw_nl (a0 :: a1 :: a2 :: a3 :: a4 :: a5 :: o :: o2 :: r) 6 = true := by rfl) : AW p l e R s m args below meth c E nL Q mc ms g n pc (a0 :: a1 :: a2 :: a3 :: a4 :: a5 :: o :: o2 :: r) (.long x :: st) := aw_lstore_g S hd hn rfl hp k
theorem aw_iinc_6 (S : aw_C p s m args meth c E cc nL own ret) {j : Int} {x v : Int32} {a0 a1 a2 a3 a4 a5 : Option Value} {r : List (Option Value)} (hd : decode cc pc = .ok (.iinc 6 j, 3)) (hv : x + Int32.ofInt j = v) (k : AW p l e R s m args below meth c E nL Q mc ms g n (pc + 3) (a0 :: a1 :: a2 :: a3 :: a4 :: a5 :: some (.int v) :: r) st) (hn : 6 < nL := by decide) (hp : aw_nl (a0 :: a1 :: a2 :: a3 :: a4 :: a5 :: some (.int x) :: r) 6 = true := by rfl) : AW p l e R s m args below meth c E nL Q mc ms g n pc (a0 :: a1 :: a2 :: a3 :: a4 :: a5 :: some (.int x) :: r) st := aw_iinc_g S hd rfl hv hn rfl hp k
theorem aw_iload_7 (S : aw_C p s m args meth c E cc nL own ret) {x : Int32} {a0 a1 a2 a3 a4 a5 a6 : Option Value} {r : List (Option Value)} (hd : decode cc pc = .ok (.iload 7, 2)) (k : AW p l e R s m args below meth c E nL Q mc ms g n (pc + 2) (a0 :: a1 :: a2 :: a3 :: a4 :: a5 :: a6 :: some (.int x) :: r) (.int x :: st)) : AW p l e R s m args below meth c E nL Q mc ms g n pc (a0 :: a1 :: a2 :: a3 :: a4 :: a5 :: a6 :: some (.int x) :: r) st := aw_iload S hd rfl k
theorem aw_lload_7 (S : aw_C p s m args meth c E cc nL own ret) {x : Int64} {a0 a1 a2 a3 a4 a5 a6 : Option Value} {r : List (Option Value)} (hd : decode cc pc = .ok (.lload 7, 2)) (k : AW p l e R s m args below meth c E nL Q mc ms g n (pc + 2) (a0 :: a1 :: a2 :: a3 :: a4 :: a5 :: a6 :: some (.long x) :: r) (.long x :: st)) : AW p l e R s m args below meth c E nL Q mc ms g n pc (a0 :: a1 :: a2 :: a3 :: a4 :: a5 :: a6 :: some (.long x) :: r) st := aw_lload S hd rfl k
theorem aw_aload_7 (S : aw_C p s m args meth c E cc nL own ret) {x : Nat} {a0 a1 a2 a3 a4 a5 a6 : Option Value} {r : List (Option Value)} (hd : decode cc pc = .ok (.aload 7, 2)) (k : AW p l e R s m args below meth c E nL Q mc ms g n (pc + 2) (a0 :: a1 :: a2 :: a3 :: a4 :: a5 :: a6 :: some (.ref x) :: r) (.ref x :: st)) : AW p l e R s m args below meth c E nL Q mc ms g n pc (a0 :: a1 :: a2 :: a3 :: a4 :: a5 :: a6 :: some (.ref x) :: r) st := aw_aload S hd rfl k
theorem aw_aloadQ_7 (S : aw_C p s m args meth c E cc nL own ret) {x : Option Nat} {a0 a1 a2 a3 a4 a5 a6 : Option Value} {r : List (Option Value)} (hd : decode cc pc = .ok (.aload 7, 2)) (k : AW p l e R s m args below meth c E nL Q mc ms g n (pc + 2) (a0 :: a1 :: a2 :: a3 :: a4 :: a5 :: a6 :: some (va_rf x) :: r) (va_rf x :: st)) : AW p l e R s m args below meth c E nL Q mc ms g n pc (a0 :: a1 :: a2 :: a3 :: a4 :: a5 :: a6 :: some (va_rf x) :: r) st := aw_aloadQ S hd rfl k
theorem aw_aloadN_7 (S : aw_C p s m args meth c E cc nL own ret)  {a0 a1 a2 a3 a4 a5 a6 : Option Value} {r : List (Option Value)} (hd : decode cc pc = .ok (.aload 7, 2)) (k : AW p l e R s m args below meth c E nL Q mc ms g n (pc + 2) (a0 :: a1 :: a2 :: a3 :: a4 :: a5 :: a6 :: some (.null) :: r) (.null :: st)) : AW p l e R s m args below meth c E nL Q mc ms g n pc (a0 :: a1 :: a2 :: a3 :: a4 :: a5 :: a6 :: some (.null) :: r) st := aw_aloadN S hd rfl k
theorem aw_istore_7 (S : aw_C p s m args meth c E cc nL own ret) {x : Int32} {a0 a1 a2 a3 a4 a5 a6 o : Option Value} {r : List (Option Value)} (hd : decode cc pc = .ok (.istore 7, 2)) (k : AW p l e R s m args below meth c E nL Q mc ms g n (pc + 2) (a0 :: a1 :: a2 :: a3 :: a4 :: a5 :: a6 :: some (.int x) :: r) st) (hn : 7 < nL := by decide) (hp : aw_nl (a0 :: a1 :: a2 :: a3 :: a4 :: a5 :: a6 :: o :: r) 7 = true := by rfl) : AW p l e R s m args below meth c E nL Q mc ms g n pc (a0 :: a1 :: a2 :: a3 :: a4 :: a5 :: a6 :: o :: r) (.int x :: st) := aw_istore_g S hd hn rfl hp k
theorem aw_astore_7 (S : aw_C p s m args meth c E cc nL own ret) {x : Nat} {a0 a1 a2 a3 a4 a5 a6 o : Option Value} {r : List (Option Value)} (hd : decode cc pc = .ok (.astore 7, 2)) (k : AW p l e R s m args below meth c E nL Q mc ms g n (pc + 2) (a0 :: a1 :: a2 :: a3 :: a4 :: a5 :: a6 :: some (.ref x) :: r) st) (hn : 7 < nL := by decide) (hp : aw_nl (a0 :: a1 :: a2 :: a3 :: a4 :: a5 :: a6 :: o :: r) 7 = true := by rfl) : AW p l e R s m args below meth c E nL Q mc ms g n pc (a0 :: a1 :: a2 :: a3 :: a4 :: a5 :: a6 :: o :: r) (.ref x :: st) := aw_astore_g S hd hn rfl hp k
theorem aw_astoreN_7 (S : aw_C p s m args meth c E cc nL own ret)  {a0 a1 a2 a3 a4 a5 a6 o : Option Value} {r : List (Option Value)} (hd : decode cc pc = .ok (.astore 7, 2)) (k : AW p l e R s m args below meth c E nL Q mc ms g n (pc + 2) (a0 :: a1 :: a2 :: a3 :: a4 :: a5 :: a6 :: some (.null) :: r) st) (hn : 7 < nL := by decide) (hp : aw_nl (a0 :: a1 :: a2 :: a3 :: a4 :: a5 :: a6 :: o :: r) 7 = true := by rfl) : AW p l e R s m args below meth c E nL Q mc ms g n pc (a0 :: a1 :: a2 :: a3 :: a4 :: a5 :: a6 :: o :: r) (.null :: st) := aw_astoreN_g S hd hn rfl hp k
theorem aw_astoreQ_7 (S : aw_C p s m args meth c E cc nL own ret) {x : Option Nat} {a0 a1 a2 a3 a4 a5 a6 o : Option Value} {r : List (Option Value)} (hd : decode cc pc = .ok (.astore 7, 2)) (k : AW p l e R s m args below meth c E nL Q mc ms g n (pc + 2) (a0 :: a1 :: a2 :: a3 :: a4 :: a5 :: a6 :: some (va_rf x) :: r) st) (hn : 7 < nL := by decide) (hp : aw_nl (a0 :: a1 :: a2 :: a3 :: a4 :: a5 :: a6 :: o :: r) 7 = true := by rfl) : AW p l e R s m args below meth c E nL Q mc ms g n pc (a0 :: a1 :: a2 :: a3 :: a4 :: a5 :: a6 :: o :: r) (va_rf x :: st) := by
  cases x with
  | none => exact aw_astoreN_7 S hd k hn hp
  | some x => exact aw_astore_7 S hd k hn hp
theorem aw_lstore_7 (S : aw_C p s m args meth c E cc nL own ret) {x : Int64} {a0 a1 a2 a3 a4 a5 a6 o o2 : Option Value} {r : List (Option Value)} (hd : decode cc pc = .ok (.lstore 7, 2)) (k : AW p l e R s m args below meth c E nL Q mc ms g n (pc + 2) (a0 :: a1 :: a2 :: a3 :: a4 :: a5 :: a6 :: some (.long x) :: none :: r) st) (hn : 7 + 1 < nL := by decide) (hp : aw_nl (a0 :: a1 :: a2 :: a3 :: a4 :: a5 :: a6 :: o :: o2 :: r) 7 = true := by rfl) : AW p l e R s m args below meth c E nL Q mc ms g n pc (a0 :: a1 :: a2 :: a3 :: a4 :: a5 :: a6 :: o :: o2 :: r) (.long x :: st) := aw_lstore_g S hd hn rfl hp k
theorem aw_iinc_7 (S : aw_C p s m args meth c E cc nL own ret) {j : Int} {x v : Int32} {a0 a1 a2 a3 a4 a5 a6 : Option Value} {r : List (Option Value)} (hd : decode cc pc = .ok (.iinc 7 j, 3)) (hv : x + Int32.ofInt j = v) (k : AW p l e R s m args below meth c E nL Q mc ms g n (pc + 3) (a0 :: a1 :: a2 :: a3 :: a4 :: a5 :: a6 :: some (.int v) :: r) st) (hn : 7 < nL := by decide) (hp : aw_nl (a0 :: a1 :: a2 :: a3 :: a4 :: a5 :: a6 :: some (.int x) :: r) 7 = true := by rfl) : AW p l e R s m args below meth c E nL Q mc ms g n pc (a0 :: a1 :: a2 :: a3 :: a4 :: a5 :: a6 :: some (.int x) :: r) st := aw_iinc_g S hd rfl hv hn rfl hp k
theorem aw_iload_8 (S : aw_C p s m args meth c E cc nL own ret) {x : Int32} {a0 a1 a2 a3 a4 a5 a6 a7 : Option Value} {r : List (Option Value)} (hd : decode cc pc = .ok (.iload 8, 2)) (k : AW p l e R s m args below meth c E nL Q mc ms g n (pc + 2) (a0 :: a1 :: a2 :: a3 :: a4 :: a5 :: a6 :: a7 :: some (.int x) :: r) (.int x :: st)) : AW p l e R s m args below meth c E nL Q mc ms g n pc (a0 :: a1 :: a2 :: a3 :: a4 :: a5 :: a6 :: a7 :: some (.int x) :: r) st := aw_iload S hd rfl k
theorem aw_lload_8 (S : aw_C p s m args meth c E cc nL own ret) {x : Int64} {a0 a1 a2 a3 a4 a5 a6 a7 : Option Value} {r : List (Option Value)} (hd : decode cc pc = .ok (.lload 8, 2)) (k : AW p l e R s m args below meth c E nL Q mc ms g n (pc + 2) (a0 :: a1 :: a2 :: a3 :: a4 :: a5 :: a6 :: a7 :: some (.long x) :: r) (.long x :: st)) : AW p l e R s m args below meth c E nL Q mc ms g n pc (a0 :: a1 :: a2 :: a3 :: a4 :: a5 :: a6 :: a7 :: some (.long x) :: r) st := aw_lload S hd rfl k
theorem aw_aload_8 (S : aw_C p s m args meth c E cc nL own ret) {x : Nat} {a0 a1 a2 a3 a4 a5 a6 a7 : Option Value} {r : List (Option Value)} (hd : decode cc pc = .ok (.aload 8, 2)) (k : AW p l e R s m args below meth c E nL Q mc ms g n (pc + 2) (a0 :: a1 :: a2 :: a3 :: a4 :: a5 :: a6 :: a7 :: some (.ref x) :: r) (.ref x :: st)) : AW p l e R s m args below meth c E nL Q mc ms g n pc (a0 :: a1 :: a2 :: a3 :: a4 :: a5 :: a6 :: a7 :: some (.ref x) :: r) st := aw_aload S hd rfl k
theorem aw_aloadQ_8 (S : aw_C p s m args meth c E cc nL own ret) {x : Option Nat} {a0 a1 a2 a3 a4 a5 a6 a7 : Option Value} {r : List (Option Value)} (hd : decode cc pc = .ok (.aload 8, 2)) (k : AW p l e R s m args below meth c E nL Q mc ms g n (pc + 2) (a0 :: a1 :: a2 :: a3 :: a4 :: a5 :: a6 :: a7 :: some (va_rf x) :: r) (va_rf x :: st)) : AW p l e R s m args below meth c E nL Q mc ms g n pc (a0 :: a1 :: a2 :: a3 :: a4 :: a5 :: a6 :: a7 :: some (va_rf x) :: r) st := aw_aloadQ S hd rfl k
theorem aw_aloadN_8 (S : aw_C p s m args meth c E cc nL own ret)  {a0 a1 a2 a3 a4 a5 a6 a7 : Option Value} {r : List (Option Value)} (hd : decode cc pc = .ok (.aload 8, 2)) (k : AW p l e R s m args below meth c E nL Q mc ms g n (pc + 2) (a0 :: a1 :: a2 :: a3 :: a4 :: a5 :: a6 :: a7 :: some (.null) :: r) (.null :: st)) : AW p l e R s m args below meth c E nL Q mc ms g n pc (a0 :: a1 :: a2 :: a3 :: a4 :: a5 :: a6 :: a7 :: some (.null) :: r) st := aw_aloadN S hd rfl k
theorem aw_istore_8 (S : aw_C p s m args meth c E cc nL own ret) {x : Int32} {a0 a1 a2 a3 a4 a5 a6 a7 o : Option Value} {r : List (Option Value)} (hd : decode cc pc = .ok (.istore 8, 2)) (k : AW p l e R s m args below meth c E nL Q mc ms g n (pc + 2) (a0 :: a1 :: a2 :: a3 :: a4 :: a5 :: a6 :: a7 :: some (.int x) :: r) st) (hn : 8 < nL := by decide) (hp : aw_nl (a0 :: a1 :: a2 :: a3 :: a4 :: a5 :: a6 :: a7 :: o :: r) 8 = true := by rfl) : AW p l e R s m args below meth c E nL Q mc ms g n pc (a0 :: a1 :: a2 :: a3 :: a4 :: a5 :: a6 :: a7 :: o :: r) (.int x :: st) := aw_istore_g S hd hn rfl hp k
theorem aw_astore_8 (S : aw_C p s m args meth c E cc nL own ret) {x : Nat} {a0 a1 a2 a3 a4 a5 a6 a7 o : Option Value} {r : List (Option Value)} (hd : decode cc pc = .ok (.astore 8, 2)) (k : AW p l e R s m args below meth c E nL Q mc ms g n (pc + 2) (a0 :: a1 :: a2 :: a3 :: a4 :: a5 :: a6 :: a7 :: some (.ref x) :: r) st) (hn : 8 < nL := by decide) (hp : aw_nl (a0 :: a1 :: a2 :: a3 :: a4 :: a5 :: a6 :: a7 :: o :: r) 8 = true := by rfl) : AW p l e R s m args below meth c E nL Q mc ms g n pc (a0 :: a1 :: a2 :: a3 :: a4 :: a5 :: a6 :: a7 :: o :: r) (.ref x :: st) := aw_astore_g S hd hn rfl hp k
theorem aw_astoreN_8 (S : aw_C p s m args meth c E cc nL own ret)  {a0 a1 a2 a3 a4 a5 a6 a7 o : Option Value} {r : List (Option Value)} (hd : decode cc pc = .ok (.astore 8, 2)) (k : AW p l e R s m args below meth c E nL Q mc ms g n (pc + 2) (a0 :: a1 :: a2 :: a3 :: a4 :: a5 :: a6 :: a7 :: some (.null) :: r) st) (hn : 8 < nL := by decide) (hp : aw_nl (a0 :: a1 :: a2 :: a3 :: a4 :: a5 :: a6 :: a7 :: o :: r) 8 = true := by rfl) : AW p l e R s m args below meth c E nL Q mc ms g n pc (a0 :: a1 :: a2 :: a3 :: a4 :: a5 :: a6 :: a7 :: o :: r) (.null :: st) := aw_astoreN_g S hd hn rfl hp k
theorem aw_astoreQ_8 (S : aw_C p s m args meth c E cc nL own ret) {x : Option Nat} {a0 a1 a2 a3 a4 a5 a6 a7 o : Option Value} {r : List (Option Value)} (hd : decode cc pc = .ok (.astore 8, 2)) (k : AW p l e R s m args below meth c E nL Q mc ms g n (pc + 2) (a0 :: a1 :: a2 :: a3 :: a4 :: a5 :: a6 :: a7 :: some (va_rf x) :: r) st) (hn : 8 < nL := by decide) (hp : aw_nl (a0 :: a1 :: a2 :: a3 :: a4 :: a5 :: a6 :: a7 :: o :: r) 8 = true := by rfl) : AW p l e R s m args below meth c E nL Q mc ms g n pc (a0 :: a1 :: a2 :: a3 :: a4 :: a5 :: a6 :: a7 :: o :: r) (va_rf x :: st) := by
  cases x with
  | none => exact aw_astoreN_8 S hd k hn hp
  | some x => exact aw_astore_8 S hd k hn hp
theorem aw_lstore_8 (S : aw_C p s m args meth c E cc nL own ret) {x : Int64} {a0 a1 a2 a3 a4 a5 a6 a7 o o2 : Option Value} {r : List (Option Value)} (hd : decode cc pc = .ok (.lstore 8, 2)) (k : AW p l e R s m args below meth c E nL Q mc ms g n (pc + 2) (a0 :: a1 :: a2 :: a3 :: a4 :: a5 :: a6 :: a7 :: some (.long x) :: none :: r) st) (hn : 8 + 1 < nL := by decide) (hp : aw_nl (a0 :: a1 :: a2 :: a3 :: a4 :: a5 :: a6 :: a7 :: o :: o2 :: r) 8 = true := by rfl) : AW p l e R s m args below meth c E nL Q mc ms g n pc (a0 :: a1 :: a2 :: a3 :: a4 :: a5 :: a6 :: a7 :: o :: o2 :: r) (.long x :: st) := aw_lstore_g S hd hn rfl hp k
theorem aw_iinc_8 (S : aw_C p s m args meth c E cc nL own ret) {j : Int} {x v : Int32} {a0 a1 a2 a3 a4 a5 a6 a7 : Option Value} {r : List (Option Value)} (hd : decode cc pc = .ok (.iinc 8 j, 3)) (hv : x + Int32.ofInt j = v) (k : AW p l e R s m args below meth c E nL Q mc ms g n (pc + 3) (a0 :: a1 :: a2 :: a3 :: a4 :: a5 :: a6 :: a7 :: some (.int v) :: r) st) (hn : 8 < nL := by decide) (hp : aw_nl (a0 :: a1 :: a2 :: a3 :: a4 :: a5 :: a6 :: a7 :: some (.int x) :: r) 8 = true := by rfl) : AW p l e R s m args below meth c E nL Q mc ms g n pc (a0 :: a1 :: a2 :: a3 :: a4 :: a5 :: a6 :: a7 :: some (.int x) :: r) st := aw_iinc_g S hd rfl hv hn rfl hp k
theorem aw_iload_9 (S : aw_C p s m args meth c E cc nL own ret) {x : Int32} {a0 a1 a2 a3 a4 a5 a6 a7 a8 : Option Value} {r : List (Option Value)} (hd : decode cc pc = .ok (.iload 9, 2)) (k : AW p l e R s m args below meth c E nL Q mc ms g n (pc + 2) (a0 :: a1 :: a2 :: a3 :: a4 :: a5 :: a6 :: a7 :: a8 :: some (.int x) :: r) (.int x :: st)) : AW p l e R s m args below meth c E nL Q mc ms g n pc (a0 :: a1 :: a2 :: a3 :: a4 :: a5 :: a6 :: a7 :: a8 :: some (.int x) :: r) st := aw_iload S hd rfl k
theorem aw_lload_9 (S : aw_C p s m args meth c E cc nL own ret) {x : Int64} {a0 a1 a2 a3 a4 a5 a6 a7 a8 : Option Value} {r : List (Option Value)} (hd : decode cc pc = .ok (.lload 9, 2)) (k : AW p l e R s m args below meth c E nL Q mc ms g n (pc + 2) (a0 :: a1 :: a2 :: a3 :: a4 :: a5 :: a6 :: a7 :: a8 :: some (.long x) :: r) (.long x :: st)) : AW p l e R s m args below meth c E nL Q mc ms g n pc (a0 :: a1 :: a2 :: a3 :: a4 :: a5 :: a6 :: a7 :: a8 :: some (.long x) :: r) st := aw_lload S hd rfl k
theorem aw_aload_9 (S : aw_C p s m args meth c E cc nL own ret) {x : Nat} {a0 a1 a2 a3 a4 a5 a6 a7 a8 : Option Value} {r : List (Option Value)} (hd : decode cc pc = .ok (.aload 9, 2)) (k : AW p l e R s m args below meth c E nL Q mc ms g n (pc + 2) (a0 :: a1 :: a2 :: a3 :: a4 :: a5 :: a6 :: a7 :: a8 :: some (.ref x) :: r) (.ref x :: st)) : AW p l e R s m args below meth c E nL Q mc ms g n pc (a0 :: a1 :: a2 :: a3 :: a4 :: a5 :: a6 :: a7 :: a8 :: some (.ref x) :: r) st := aw_aload S hd rfl k
theorem aw_aloadQ_9 (S : aw_C p s m args meth c E cc nL own ret) {x : Option Nat} {a0 a1 a2 a3 a4 a5 a6 a7 a8 : Option Value} {r : List (Option Value)} (hd : decode cc pc = .ok (.aload 9, 2)) (k : AW p l e R s m args below meth c E nL Q mc ms g n (pc + 2) (a0 :: a1 :: a2 :: a3 :: a4 :: a5 :: a6 :: a7 :: a8 :: some (va_rf x) :: r) (va_rf x :: st)) : AW p l e R s m args below meth c E nL Q mc ms g n pc (a0 :: a1 :: a2 :: a3 :: a4 :: a5 :: a6 :: a7 :: a8 :: some (va_rf x) :: r) st := aw_aloadQ S hd rfl k
theorem aw_aloadN_9 (S : aw_C p s m args meth c E cc nL own ret)  {a0 a1 a2 a3 a4 a5 a6 a7 a8 : Option Value} {r : List (Option Value)} (hd : decode cc pc = .ok (.aload 9, 2)) (k : AW p l e R s m args below meth c E nL Q mc ms g n (pc + 2) (a0 :: a1 :: a2 :: a3 :: a4 :: a5 :: a6 :: a7 :: a8 :: some (.null) :: r) (.null :: st)) : AW p l e R s m args below meth c E nL Q mc ms g n pc (a0 :: a1 :: a2 :: a3 :: a4 :: a5 :: a6 :: a7 :: a8 :: some (.null) :: r) st := aw_aloadN S hd rfl k
theorem aw_istore_9 (S : aw_C p s m args meth c E cc nL own ret) {x : Int32} {a0 a1 a2 a3 a4 a5 a6 a7 a8 o : Option Value} {r : List (Option Value)} (hd : decode cc pc = .ok (.istore 9, 2)) (k : AW p l e R s m args below meth c E nL Q mc ms g n (pc + 2) (a0 :: a1 :: a2 :: a3 :: a4 :: a5 :: a6 :: a7 :: a8 :: some (.int x) :: r) st) (hn : 9 < nL := by decide) (hp : aw_nl (a0 :: a1 :: a2 :: a3 :: a4 :: a5 :: a6 :: a7 :: a8 :: o :: r) 9 = true := by rfl) : AW p l e R s m args below meth c E nL Q mc ms g n pc (a0 :: a1 :: a2 :: a3 :: a4 :: a5 :: a6 :: a7 :: a8 :: o :: r) (.int x :: st) := aw_istore_g S hd hn rfl hp k
theorem aw_astore_9 (S : aw_C p s m args meth c E cc nL own ret) {x : Nat} {a0 a1 a2 a3 a4 a5 a6 a7 a8 o : Option Value} {r : List (Option Value)} (hd : decode cc pc = .ok (.astore 9, 2)) (k : AW p l e R s m args below meth c E nL Q mc ms g n (pc + 2) (a0 :: a1 :: a2 :: a3 :: a4 :: a5 :: a6 :: a7 :: a8 :: some (.ref x) :: r) st) (hn : 9 < nL := by decide) (hp : aw_nl (a0 :: a1 :: a2 :: a3 :: a4 :: a5 :: a6 :: a7 :: a8 :: o :: r) 9 = true := by rfl) : AW p l e R s m args below meth c E nL Q mc ms g n pc (a0 :: a1 :: a2 :: a3 :: a4 :: a5 :: a6 :: a7 :: a8 :: o :: r) (.ref x :: st) := aw_astore_g S hd hn rfl hp k
theorem aw_astoreN_9 (S : aw_C p s m args meth c E cc nL own ret)  {a0 a1 a2 a3 a4 a5 a6 a7 a8 o : Option Value} {r : List (Option Value)} (hd : decode cc pc = .ok (.astore 9, 2)) (k : AW p l e R s m args below meth c E nL Q mc ms g n (pc + 2) (a0 :: a1 :: a2 :: a3 :: a4 :: a5 :: a6 :: a7 :: a8 :: some (.null) :: r) st) (hn : 9 < nL := by decide) (hp : aw_nl (a0 :: a1 :: a2 :: a3 :: a4 :: a5 :: a6 :: a7 :: a8 :: o :: r) 9 = true := by rfl) : AW p l e R s m args below meth c E nL Q mc ms g n pc (a0 :: a1 :: a2 :: a3 :: a4 :: a5 :: a6 :: a7 :: a8 :: o :: r) (.null :: st) := aw_astoreN_g S hd hn rfl hp k
theorem aw_astoreQ_9 (S : aw_C p s m args meth c E cc nL own ret) {x : Option Nat} {a0 a1 a2 a3 a4 a5 a6 a7 a8 o : Option Value} {r : List (Option Value)} (hd : decode cc pc = .ok (.astore 9, 2)) (k : AW p l e R s m args below meth c E nL Q mc ms g n (pc + 2) (a0 :: a1 :: a2 :: a3 :: a4 :: a5 :: a6 :: a7 :: a8 :: some (va_rf x) :: r) st) (hn : 9 < nL := by decide) (hp : aw_nl (a0 :: a1 :: a2 :: a3 :: a4 :: a5 :: a6 :: a7 :: a8 :: o :: r) 9 = true := by rfl) : AW p l e R s m args below meth c E nL Q mc ms g n pc (a0 :: a1 :: a2 :: a3 :: a4 :: a5 :: a6 :: a7 :: a8 :: o :: r) (va_rf x :: st) := by
  cases x with
  | none => exact aw_astoreN_9 S hd k hn hp
  | some x => exact aw_astore_9 S hd k hn hp
theorem aw_lstore_9 (S : aw_C p s m args meth c E cc nL own ret) {x : Int64} {a0 a1 a2 a3 a4 a5 a6 a7 a8 o o2 : Option Value} {r : List (Option Value)} (hd : decode cc pc = .ok (.lstore 9, 2)) (k : AW p l e R s m args below meth c E nL Q mc ms g n (pc + 2) (a0 :: a1 :: a2 :: a3 :: a4 :: a5 :: a6 :: a7 :: a8 :: some (.long x) :: none :: r) st) (hn : 9 + 1 < nL := by decide) (hp : aw_nl (a0 :: a1 :: a2 :: a3 :: a4 :: a5 :: a6 :: a7 :: a8 :: o :: o2 :: r) 9 = true := by rfl) : AW p l e R s m args below meth c E nL Q mc ms g n pc (a0 :: a1 :: a2 :: a3 :: a4 :: a5 :: a6 :: a7 :: a8 :: o :: o2 :: r) (.long x :: st) := aw_lstore_g S hd hn rfl hp k
theorem aw_iinc_9 (S : aw_C p s m args meth c E cc nL own ret) {j : Int} {x v : Int32} {a0 a1 a2 a3 a4 a5 a6 a7 a8 : Option Value} {r : List (Option Value)} (hd : decode cc pc = .ok (.iinc 9 j, 3)) (hv : x + Int32.ofInt j = v) (k : AW p l e R s m args below meth c E nL Q mc ms g n (pc + 3) (a0 :: a1 :: a2 :: a3 :: a4 :: a5 :: a6 :: a7 :: a8 :: some (.int v) :: r) st) (hn : 9 < nL := by decide) (hp : aw_nl (a0 :: a1 :: a2 :: a3 :: a4 :: a5 :: a6 :: a7 :: a8 :: some (.int x) :: r) 9 = true := by rfl) : AW p l e R s m args below meth c E nL Q mc ms g n pc (a0 :: a1 :: a2 :: a3 :: a4 :: a5 :: a6 :: a7 :: a8 :: some (.int x) :: r) st := aw_iinc_g S hd rfl hv hn rfl hp k
theorem aw_iload_10 (S : aw_C p s m args meth c E cc nL own ret) {x : Int32} {a0 a1 a2 a3 a4 a5 a6 a7 a8 a9 : Option Value} {r : List (Option Value)} (hd : decode cc pc = .ok (.iload 10, 2)) (k : AW p l e R s m args below meth c E nL Q mc ms g n (pc + 2) (a0 :: a1 :: a2 :: a3 :: a4 :: a5 :: a6 :: a7 :: a8 :: a9 :: some (.int x) :: r) (.int x :: st)) : AW p l e R s m args below meth c E nL Q mc ms g n pc (a0 :: a1 :: a2 :: a3 :: a4 :: a5 :: a6 :: a7 :: a8 :: a9 :: some (.int x) :: r) st := aw_iload S hd rfl k
theorem aw_lload_10 (S : aw_C p s m args meth c E cc nL own ret) {x : Int64} {a0 a1 a2 a3 a4 a5 a6 a7 a8 a9 : Option Value} {r : List (Option Value)} (hd : decode cc pc = .ok (.lload 10, 2)) (k : AW p l e R s m args below meth c E nL Q mc ms g n (pc + 2) (a0 :: a1 :: a2 :: a3 :: a4 :: a5 :: a6 :: a7 :: a8 :: a9 :: some (.long x) :: r) (.long x :: st)) : AW p l e R s m args below meth c E nL Q mc ms g n pc (a0 :: a1 :: a2 :: a3 :: a4 :: a5 :: a6 :: a7 :: a8 :: a9 :: some (.long x) :: r) st := aw_lload S hd rfl k
theorem aw_aload_10 (S : aw_C p s m args meth c E cc nL own ret) {x : Nat} {a0 a1 a2 a3 a4 a5 a6 a7 a8 a9 : Option Value} {r : List (Option Value)} (hd : decode cc pc = .ok (.aload 10, 2)) (k : AW p l e R s m args below meth c E nL Q mc ms g n (pc + 2) (a0 :: a1 :: a2 :: a3 :: a4 :: a5 :: a6 :: a7 :: a8 :: a9 :: some (.ref x) :: r) (.ref x :: st)) : AW p l e R s m args below meth c E nL Q mc ms g n pc (a0 :: a1 :: a2 :: a3 :: a4 :: a5 :: a6 :: a7 :: a8 :: a9 :: some (.ref x) :: r) st := aw_aload S hd rfl k
theorem aw_aloadQ_10 (S : aw_C p s m args meth c E cc nL own ret) {x : Option Nat} {a0 a1 a2 a3 a4 a5 a6 a7 a8 a9 : Option Value} {r : List (Option Value)} (hd : decode cc pc = .ok (.aload 10, 2)) (k : AW p l e R s m args below meth c E nL Q mc ms g n (pc + 2) (a0 :: a1 :: a2 :: a3 :: a4 :: a5 :: a6 :: a7 :: a8 :: a9 :: some (va_rf x) :: r) (va_rf x :: st)) : AW p l e R s m args below meth c E nL Q mc ms g n pc (a0 :: a1 :: a2 :: a3 :: a4 :: a5 :: a6 :: a7 :: a8 :: a9 :: some (va_rf x) :: r) st := aw_aloadQ S hd rfl k
theorem aw_aloadN_10 (S : aw_C p s m args meth c E cc nL own ret)  {a0 a1 a2 a3 a4 a5 a6 a7 a8 a9 : Option Value} {r : List (Option Value)} (hd : decode cc pc = .ok (.aload 10, 2)) (k : AW p l e R s m args below meth c E nL Q mc ms g n (pc + 2) (a0 :: a1 :: a2 :: a3 :: a4 :: a5 :: a6 :: a7 :: a8 :: a9 :: some (.null) :: r) (.null :: st)) : AW p l e R s m args below meth c E nL Q mc ms g n pc (a0 :: a1 :: a2 :: a3 :: a4 :: a5 :: a6 :: a7 :: a8 :: a9 :: some (.null) :: r) st := aw_aloadN S hd rfl k
theorem aw_istore_10 (S : aw_C p s m args meth c E cc nL own ret) {x : Int32} {a0 a1 a2 a3 a4 a5 a6 a7 a8 a9 o : Option Value} {r : List (Option Value)} (hd : decode cc pc = .ok (.istore 10, 2)) (k : AW p l e R s m args below meth c E nL Q mc ms g n (pc + 2) (a0 :: a1 :: a2 :: a3 :: a4 :: a5 :: a6 :: a7 :: a8 :: a9 :: some (.int x) :: r) st) (hn : 10 < nL := by decide) (hp : aw_nl (a0 :: a1 :: a2 :: a3 :: a4 :: a5 :: a6 :: a7 :: a8 :: a9 :: o :: r) 10 = true := by rfl) : AW p l e R s m args below meth c E nL Q mc ms g n pc (a0 :: a1 :: a2 :: a3 :: a4 :: a5 :: a6 :: a7 :: a8 :: a9 :: o :: r) (.int x :: st) := aw_istore_g S hd hn rfl hp k
theorem aw_astore_10 (S : aw_C p s m args meth c E cc nL own ret) {x : Nat} {a0 a1 a2 a3 a4 a5 a6 a7 a8 a9 o : Option Value} {r : List (Option Value)} (hd : decode cc pc = .ok (.astore 10, 2)) (k : AW p l e R s m args below meth c E nL Q mc ms g n (pc + 2) (a0 :: a1 :: a2 :: a3 :: a4 :: a5 :: a6 :: a7 :: a8 :: a9 :: some (.ref x) :: r) st) (hn : 10 < nL := by decide) (hp : aw_nl (a0 :: a1 :: a2 :: a3 :: a4 :: a5 :: a6 :: a7 :: a8 :: a9 :: o :: r) 10 = true := by rfl) : AW p l e R s m args below meth c E nL Q mc ms g n pc (a0 :: a1 :: a2 :: a3 :: a4 :: a5 :: a6 :: a7 :: a8 :: a9 :: o :: r) (.ref x :: st) := aw_astore_g S hd hn rfl hp k
theorem aw_astoreN_10 (S : aw_C p s m args meth c E cc nL own ret)  {a0 a1 a2 a3 a4 a5 a6 a7 a8 a9 o : Option Value} {r : List (Option Value)} (hd : decode cc pc = .ok (.astore 10, 2)) (k : AW p l e R s m args below meth c E nL Q mc ms g n (pc + 2) (a0 :: a1 :: a2 :: a3 :: a4 :: a5 :: a6 :: a7 :: a8 :: a9 :: some (.null) :: r) st) (hn : 10 < nL := by decide) (hp : aw_nl (a0 :: a1 :: a2 :: a3 :: a4 :: a5 :: a6 :: a7 :: a8 :: a9 :: o :: r) 10 = true := by rfl) : AW p l e R s m args below meth c E nL Q mc ms g n pc (a0 :: a1 :: a2 :: a3 :: a4 :: a5 :: a6 :: a7 :: a8 :: a9 :: o :: r) (.null :: st) := aw_astoreN_g S hd hn rfl hp k
theorem aw_astoreQ_10 (S : aw_C p s m args meth c E cc nL own ret) {x : Option Nat} {a0 a1 a2 a3 a4 a5 a6 a7 a8 a9 o : Option Value} {r : List (Option Value)} (hd : decode cc pc = .ok (.astore 10, 2)) (k : AW p l e R s m args below meth c E nL Q mc ms g n (pc + 2) (a0 :: a1 :: a2 :: a3 :: a4 :: a5 :: a6 :: a7 :: a8 :: a9 :: some (va_rf x) :: r) st) (hn : 10 < nL := by decide) (hp : aw_nl (a0 :: a1 :: a2 :: a3 :: a4 :: a5 :: a6 :: a7 :: a8 :: a9 :: o :: r) 10 = true := by rfl) : AW p l e R s m args below meth c E nL Q mc ms g n pc (a0 :: a1 :: a2 :: a3 :: a4 :: a5 :: a6 :: a7 :: a8 :: a9 :: o :: r) (va_rf x :: st) := by
  cases x with
  | none => exact aw_astoreN_10 S hd k hn hp
  | some x => exact aw_astore_10 S hd k hn hp
theorem aw_lstore_10 (S : aw_C p s m args meth c E cc nL own ret) {x : Int64} {a0 a1 a2 a3 a4 a5 a6 a7 a8 a9 o o2 : Option Value} {r : List (Option Value)} (hd : decode cc pc = .ok (.lstore 10, 2)) (k : AW p l e R s m args below meth c E nL Q mc ms g n (pc + 2) (a0 :: a1 :: a2 :: a3 :: a4 :: a5 :: a6 :: a7 :: a8 :: a9 :: some (.long x) :: none :: r) st) (hn : 10 + 1 < nL := by decide) (hp : aw_nl (a0 :: a1 :: a2 :: a3 :: a4 :: a5 :: a6 :: a7 :: a8 :: a9 :: o :: o2 :: r) 10 = true := by rfl) : AW p l e R s m args below meth c E nL Q mc ms g n pc (a0 :: a1 :: a2 :: a3 :: a4 :: a5 :: a6 :: a7 :: a8 :: a9 :: o :: o2 :: r) (.long x :: st) := aw_lstore_g S hd hn rfl hp k
theorem aw_iinc_10 (S : aw_C p s m args meth c E cc nL own ret) {j : Int} {x v : Int32} {a0 a1 a2 a3 a4 a5 a6 a7 a8 a9 : Option Value} {r : List (Option Value)} (hd : decode cc pc = .ok (.iinc 10 j, 3)) (hv : x + Int32.ofInt j = v) (k : AW p l e R s m args below meth c E nL Q mc ms g n (pc + 3) (a0 :: a1 :: a2 :: a3 :: a4 :: a5 :: a6 :: a7 :: a8 :: a9 :: some (.int v) :: r) st) (hn : 10 < nL := by decide) (hp : aw_nl (a0 :: a1 :: a2 :: a3 :: a4 :: a5 :: a6 :: a7 :: a8 :: a9 :: some (.int x) :: r) 10 = true := by rfl) : AW p l e R s m args below meth c E nL Q mc ms g n pc (a0 :: a1 :: a2 :: a3 :: a4 :: a5 :: a6 :: a7 :: a8 :: a9 :: some (.int x) :: r) st := aw_iinc_g S hd rfl hv hn rfl hp k
theorem aw_iload_11 (S : aw_C p s m args meth c E cc nL own ret) {x : Int32} {a0 a1 a2 a3 a4 a5 a6 a7 a8 a9 a10 : Option Value} {r : List (Option Value)} (hd : decode cc pc = .ok (.iload 11, 2)) (k : AW p l e R s m args below meth c E nL Q mc ms g n (pc + 2) (a0 :: a1 :: a2 :: a3 :: a4 :: a5 :: a6 :: a7 :: a8 :: a9 :: a10 :: some (.int x) :: r) (.int x :: st)) : AW p l e R s m args below meth c E nL Q mc ms g n pc (a0 :: a1 :: a2 :: a3 :: a4 :: a5 :: a6 :: a7 :: a8 :: a9 :: a10 :: some (.int x) :: r) st := aw_iload S hd rfl k
theorem aw_lload_11 (S : aw_C p s m args meth c E cc nL own ret) {x : Int64} {a0 a1 a2 a3 a4 a5 a6 a7 a8 a9 a10 : Option Value} {r : List (Option Value)} (hd : decode cc pc = .ok (.lload 11, 2)) (k : AW p l e R s m args below meth c E nL Q mc ms g n (pc + 2) (a0 :: a1 :: a2 :: a3 :: a4 :: a5 :: a6 :: a7 :: a8 :: a9 :: a10 :: some (.long x) :: r) (.long x :: st)) : AW p l e R s m args below meth c E nL Q mc ms g n pc (a0 :: a1 :: a2 :: a3 :: a4 :: a5 :: a6 :: a7 :: a8 :: a9 :: a10 :: some (.long x) :: r) st := aw_lload S hd rfl k
theorem aw_aload_11 (S : aw_C p s m args meth c E cc nL own ret) {x : Nat} {a0 a1 a2 a3 a4 a5 a6 a7 a8 a9 a10 : Option Value} {r : List (Option Value)} (hd : decode cc pc = .ok (.aload 11, 2)) (k : AW p l e R s m args below meth c E nL Q mc ms g n (pc + 2) (a0 :: a1 :: a2 :: a3 :: a4 :: a5 :: a6 :: a7 :: a8 :: a9 :: a10 :: some (.ref x) :: r) (.ref x :: st)) : AW p l e R s m args below meth c E nL Q mc ms g n pc (a0 :: a1 :: a2 :: a3 :: a4 :: a5 :: a6 :: a7 :: a8 :: a9 :: a10 :: some (.ref x) :: r) st := aw_aload S hd rfl k
theorem aw_aloadQ_11 (S : aw_C p s m args meth c E cc nL own ret) {x : Option Nat} {a0 a1 a2 a3 a4 a5 a6 a7 a8 a9 a10 : Option Value} {r : List (Option Value)} (hd : decode cc pc = .ok (.aload 11, 2)) (k : AW p l e R s m args below meth c E nL Q mc ms g n (pc + 2) (a0 :: a1 :: a2 :: a3 :: a4 :: a5 :: a6 :: a7 :: a8 :: a9 :: a10 :: some (va_rf x) :: r) (va_rf x :: st)) : AW p l e R s m args below meth c E nL Q mc ms g n pc (a0 :: a1 :: a2 :: a3 :: a4 :: a5 :: a6 :: a7 :: a8 :: a9 :: a10 :: some (va_rf x) :: r) st := aw_aloadQ S hd rfl k
theorem aw_aloadN_11 (S : aw_C p s m args meth c E cc nL own ret)  {a0 a1 a2 a3 a4 a5 a6 a7 a8 a9 a10 : Option Value} {r : List (Option Value)} (hd : decode cc pc = .ok (.aload 11, 2)) (k : AW p l e R s m args below meth c E nL Q mc ms g n (pc + 2) (a0 :: a1 :: a2 :: a3 :: a4 :: a5 :: a6 :: a7 :: a8 :: a9 :: a10 :: some (.null) :: r) (.null :: st)) : AW p l e R s m args below meth c E nL Q mc ms g n pc (a0 :: a1 :: a2 :: a3 :: a4 :: a5 :: a6 :: a7 :: a8 :: a9 :: a10 :: some (.null) :: r) st := aw_aloadN S hd rfl k
theorem aw_istore_11 (S : aw_C p s m args meth c E cc nL own ret) {x : Int32} {a0 a1 a2 a3 a4 a5 a6 a7 a8 a9 a10 o : Option Value} {r : List (Option Value)} (hd : decode cc pc = .ok (.istore 11, 2)) (k : AW p l e R s m args below meth c E nL Q mc ms g n (pc + 2) (a0 :: a1 :: a2 :: a3 :: a4 :: a5 :: a6 :: a7 :: a8 :: a9 :: a10 :: some (.int x) :: r) st) (hn : 11 < nL := by decide) (hp : aw_nl (a0 :: a1 :: a2 :: a3 :: a4 :: a5 :: a6 :: a7 :: a8 :: a9 :: a10 :: o :: r) 11 = true := by rfl) : AW p l e R s m args below meth c E nL Q mc ms g n pc (a0 :: a1 :: a2 :: a3 :: a4 :: a5 :: a6 :: a7 :: a8 :: a9 :: a10 :: o :: r) (.int x :: st) := aw_istore_g S hd hn rfl hp k
theorem aw_astore_11 (S : aw_C p s m args meth c E cc nL own ret) {x : Nat} {a0 a1 a2 a3 a4 a5 a6 a7 a8 a9 a10 o : Option Value} {r : List (Option Value)} (hd : decode cc pc = .ok (.astore 11, 2)) (k : AW p l e R s m args below meth c E nL Q mc ms g n (pc + 2) (a0 :: a1 :: a2 :: a3 :: a4 :: a5 :: a6 :: a7 :: a8 :: a9 :: a10 :: some (.ref x) :: r) st) (hn : 11 < nL := by decide) (hp : aw_nl (a0 :: a1 :: a2 :: a3 :: a4 :: a5 :: a6 :: a7 :: a8 :: a9 :: a10 :: o :: r) 11 = true := by rfl) : AW p l e R s m args below meth c E nL Q mc ms g n pc (a0 :: a1 :: a2 :: a3 :: a4 :: a5 :: a6 :: a7 :: a8 :: a9 :: a10 :: o :: r) (.ref x :: st) := aw_astore_g S hd hn rfl hp k
theorem aw_astoreN_11 (S : aw_C p s m args meth c E cc nL own ret)  {a0 a1 a2 a3 a4 a5 a6 a7 a8 a9 a10 o : Option Value} {r : List (Option Value)} (hd : decode cc pc = .ok (.astore 11, 2)) (k : AW p l e R s m args below meth c E nL Q mc ms g n (pc + 2) (a0 :: a1 :: a2 :: a3 :: a4 :: a5 :: a6 :: a7 :: a8 :: a9 :: a10 :: some (.null) :: r) st) (hn : 11 < nL := by decide) (hp : aw_nl (a0 :: a1 :: a2 :: a3 :: a4 :: a5 :: a6 :: a7 :: a8 :: a9 :: a10 :: o :: r) 11 = true := by rfl) : AW p l e R s m args below meth c E nL Q mc ms g n pc (a0 :: a1 :: a2 :: a3 :: a4 :: a5 :: a6 :: a7 :: a8 :: a9 :: a10 :: o :: r) (.null :: st) := aw_astoreN_g S hd hn rfl hp k
theorem aw_astoreQ_11 (S : aw_C p s m args meth c E cc nL own ret) {x : Option Nat} {a0 a1 a2 a3 a4 a5 a6 a7 a8 a9 a10 o : Option Value} {r : List (Option Value)} (hd : decode cc pc = .ok (.astore 11, 2)) (k : AW p l e R s m args below meth c E nL Q mc ms g n (pc + 2) (a0 :: a1 :: a2 :: a3 :: a4 :: a5 :: a6 :: a7 :: a8 :: a9 :: a10 :: some (va_rf x) :: r) st) (hn : 11 < nL := by decide) (hp : aw_nl (a0 :: a1 :: a2 :: a3 :: a4 :: a5 :: a6 :: a7 :: a8 :: a9 :: a10 :: o :: r) 11 = true := by rfl) : AW p l e R s m args below meth c E nL Q mc ms g n pc (a0 :: a1 :: a2 :: a3 :: a4 :: a5 :: a6 :: a7 :: a8 :: a9 :: a10 :: o :: r) (va_rf x :: st) := by
  cases x with
  | none => exact aw_astoreN_11 S hd k hn hp
  | some x => exact aw_astore_11 S hd k hn hp
theorem aw_lstore_11 (S : aw_C p s m args meth c E cc nL own ret) {x : Int64} {a0 a1 a2 a3 a4 a5 a6 a7 a8 a9 a10 o o2 : Option Value} {r : List (Option Value)} (hd : decode cc pc = .ok (.lstore 11, 2)) (k : AW p l e R s m args below meth c E nL Q mc ms g n (pc + 2) (a0 :: a1 :: a2 :: a3 :: a4 :: a5 :: a6 :: a7 :: a8 :: a9 :: a10 :: some (.long x) :: none :: r) st) (hn : 11 + 1 < nL := by decide) (hp : aw_nl (a0 :: a1 :: a2 :: a3 :: a4 :: a5 :: a6 :: a7 :: a8 :: a9 :: a10 :: o :: o2 :: r) 11 = true := by rfl) : AW p l e R s m args below meth c E nL Q mc ms g n pc (a0 :: a1 :: a2 :: a3 :: a4 :: a5 :: a6 :: a7 :: a8 :: a9 :: a10 :: o :: o2 :: r) (.long x :: st) := aw_lstore_g S hd hn rfl hp k
theorem aw_iinc_11 (S : aw_C p s m args meth c E cc nL own ret) {j : Int} {x v : Int32} {a0 a1 a2 a3 a4 a5 a6 a7 a8 a9 a10 : Option Value} {r : List (Option Value)} (hd : decode cc pc = .ok (.iinc 11 j, 3)) (hv : x + Int32.ofInt j = v) (k : AW p l e R s m args below meth c E nL Q mc ms g n (pc + 3) (a0 :: a1 :: a2 :: a3 :: a4 :: a5 :: a6 :: a7 :: a8 :: a9 :: a10 :: some (.int v) :: r) st) (hn : 11 < nL := by decide) (hp : aw_nl (a0 :: a1 :: a2 :: a3 :: a4 :: a5 :: a6 :: a7 :: a8 :: a9 :: a10 :: some (.int x) :: r) 11 = true := by rfl) : AW p l e R s m args below meth c E nL Q mc ms g n pc (a0 :: a1 :: a2 :: a3 :: a4 :: a5 :: a6 :: a7 :: a8 :: a9 :: a10 :: some (.int x) :: r) st := aw_iinc_g S hd rfl hv hn rfl hp k
theorem aw_iload_12 (S : aw_C p s m args meth c E cc nL own ret) {x : Int32} {a0 a1 a2 a3 a4 a5 a6 a7 a8 a9 a10 a11 : Option Value} {r : List (Option Value)} (hd : decode cc pc = .ok (.iload 12, 2)) (k : AW p l e R s m args below meth c E nL Q mc ms g n (pc + 2) (a0 :: a1 :: a2 :: a3 :: a4 :: a5 :: a6 :: a7 :: a8 :: a9 :: a10 :: a11 :: some (.int x) :: r) (.int x :: st)) : AW p l e R s m args below meth c E nL Q mc ms g n pc (a0 :: a1 :: a2 :: a3 :: a4 :: a5 :: a6 :: a7 :: a8 :: a9 :: a10 :: a11 :: some (.int x) :: r) st := aw_iload S hd rfl k
theorem aw_lload_12 (S : aw_C p s m args meth c E cc nL own ret) {x : Int64} {a0 a1 a2 a3 a4 a5 a6 a7 a8 a9 a10 a11 : Option Value} {r : List (Option Value)} (hd : decode cc pc = .ok (.lload 12, 2)) (k : AW p l e R s m args below meth c E nL Q mc ms g n (pc + 2) (a0 :: a1 :: a2 :: a3 :: a4 :: a5 :: a6 :: a7 :: a8 :: a9 :: a10 :: a11 :: some (.long x) :: r) (.long x :: st)) : AW p l e R s m args below meth c E nL Q mc ms g n pc (a0 :: a1 :: a2 :: a3 :: a4 :: a5 :: a6 :: a7 :: a8 :: a9 :: a10 :: a11 :: some (.long x) :: r) st := aw_lload S hd rfl k
theorem aw_aload_12 (S : aw_C p s m args meth c E cc nL own ret) {x : Nat} {a0 a1 a2 a3 a4 a5 a6 a7 a8 a9 a10 a11 : Option Value} {r : List (Option Value)} (hd : decode cc pc = .ok (.aload 12, 2)) (k : AW p l e R s m args below meth c E nL Q mc ms g n (pc + 2) (a0 :: a1 :: a2 :: a3 :: a4 :: a5 :: a6 :: a7 :: a8 :: a9 :: a10 :: a11 :: some (.ref x) :: r) (.ref x :: st)) : AW p l e R s m args below meth c E nL Q mc ms g n pc (a0 :: a1 :: a2 :: a3 :: a4 :: a5 :: a6 :: a7 :: a8 :: a9 :: a10 :: a11 :: some (.ref x) :: r) st := aw_aload S hd rfl k
theorem aw_aloadQ_12 (S : aw_C p s m args meth c E cc nL own ret) {x : Option Nat} {a0 a1 a2 a3 a4 a5 a6 a7 a8 a9 a10 a11 : Option Value} {r : List (Option Value)} (hd : decode cc pc = .ok (.aload 12, 2)) (k : AW p l e R s m args below meth c E nL Q mc ms g n (pc + 2) (a0 :: a1 :: a2 :: a3 :: a4 :: a5 :: a6 :: a7 :: a8 :: a9 :: a10 :: a11 :: some (va_rf x) :: r) (va_rf x :: st)) : AW p l e R s m args below meth c E nL Q mc ms g n pc (a0 :: a1 :: a2 :: a3 :: a4 :: a5 :: a6 :: a7 :: a8 :: a9 :: a10 :: a11 :: some (va_rf x) :: r) st := aw_aloadQ S hd rfl k
theorem aw_aloadN_12 (S : aw_C p s m args meth c E cc nL own ret)  {a0 a1 a2 a3 a4 a5 a6 a7 a8 a9 a10 a11 : Option Value} {r : List (Option Value)} (hd : decode cc pc = .ok (.aload 12, 2)) (k : AW p l e R s m args below meth c E nL Q mc ms g n (pc + 2) (a0 :: a1 :: a2 :: a3 :: a4 :: a5 :: a6 :: a7 :: a8 :: a9 :: a10 :: a11 :: some (.null) :: r) (.null :: st)) : AW p l e R s m args below meth c E nL Q mc ms g n pc (a0 :: a1 :: a2 :: a3 :: a4 :: a5 :: a6 :: a7 :: a8 :: a9 :: a10 :: a11 :: some (.null) :: r) st := aw_aloadN S hd rfl k
theorem aw_istore_12 (S : aw_C p s m args meth c E cc nL own ret) {x : Int32} {a0 a1 a2 a3 a4 a5 a6 a7 a8 a9 a10 a11 o : Option Value} {r : List (Option Value)} (hd : decode cc pc = .ok (.istore 12, 2)) (k : AW p l e R s m args below meth c E nL Q mc ms g n (pc + 2) (a0 :: a1 :: a2 :: a3 :: a4 :: a5 :: a6 :: a7 :: a8 :: a9 :: a10 :: a11 :: some (.int x) :: r) st) (hn : 12 < nL := by decide) (hp : aw_nl (a0 :: a1 :: a2 :: a3 :: a4 :: a5 :: a6 :: a7 :: a8 :: a9 :: a10 :: a11 :: o :: r) 12 = true := by rfl) : AW p l e R s m args below meth c E nL Q mc ms g n pc (a0 :: a1 :: a2 :: a3 :: a4 :: a5 :: a6 :: a7 :: a8 :: a9 :: a10 :: a11 :: o :: r) (.int x :: st) := aw_istore_g S hd hn rfl hp k
theorem aw_astore_12 (S : aw_C p s m args meth c E cc nL own ret) {x : Nat} {a0 a1 a2 a3 a4 a5 a6 a7 a8 a9 a10 a11 o : Option Value} {r : List (Option Value)} (hd : decode cc pc = .ok (.astore 12, 2)) (k : AW p l e R s m args below meth c E nL Q mc ms g n (pc + 2) (a0 :: a1 :: a2 :: a3 :: a4 :: a5 :: a6 :: a7 :: a8 :: a9 :: a10 :: a11 :: some (.ref x) :: r) st) (hn : 12 < nL := by decide) (hp : aw_nl (a0 :: a1 :: a2 :: a3 :: a4 :: a5 :: a6 :: a7 :: a8 :: a9 :: a10 :: a11 :: o :: r) 12 = true := by rfl) : AW p l e R s m args below meth c E nL Q mc ms g n pc (a0 :: a1 :: a2 :: a3 :: a4 :: a5 :: a6 :: a7 :: a8 :: a9 :: a10 :: a11 :: o :: r) (.ref x :: st) := aw_astore_g S hd hn rfl hp k
theorem aw_astoreN_12 (S : aw_C p s m args meth c E cc nL own ret)  {a0 a1 a2 a3 a4 a5 a6 a7 a8 a9 a10 a11 o : Option Value} {r : List (Option Value)} (hd : decode cc pc = .ok (.astore 12, 2)) (k : AW p l e R s m args below meth c E nL Q mc ms g n (pc + 2) (a0 :: a1 :: a2 :: a3 :: a4 :: a5 :: a6 :: a7 :: a8 :: a9 :: a10 :: a11 :: some (.null) :: r) st) (hn : 12 < nL := by decide) (hp : aw_nl (a0 :: a1 :: a2 :: a3 :: a4 :: a5 :: a6 :: a7 :: a8 :: a9 :: a10 :: a11 :: o :: r) 12 = true := by rfl) : AW p l e R s m args below meth c E nL Q mc ms g n pc (a0 :: a1 :: a2 :: a3 :: a4 :: a5 :: a6 :: a7 :: a8 :: a9 :: a10 :: a11 :: o :: r) (.null :: st) := aw_astoreN_g S hd hn rfl hp k
theorem aw_astoreQ_12 (S : aw_C p s m args meth c E cc nL own ret) {x : Option Nat} {a0 a1 a2 a3 a4 a5 a6 a7 a8 a9 a10 a11 o : Option Value} {r : List (Option Value)} (hd : decode cc pc = .ok (.astore 12, 2)) (k : AW p l e R s m args below meth c E nL Q mc ms g n (pc + 2) (a0 :: a1 :: a2 :: a3 :: a4 :: a5 :: a6 :: a7 :: a8 :: a9 :: a10 :: a11 :: some (va_rf x) :: r) st) (hn : 12 < nL := by decide) (hp : aw_nl (a0 :: a1 :: a2 :: a3 :: a4 :: a5 :: a6 :: a7 :: a8 :: a9 :: a10 :: a11 :: o :: r) 12 = true := by rfl) : AW p l e R s m args below meth c E nL Q mc ms g n pc (a0 :: a1 :: a2 :: a3 :: a4 :: a5 :: a6 :: a7 :: a8 :: a9 :: a10 :: a11 :: o :: r) (va_rf x :: st) := by
  cases x with
  | none => exact aw_astoreN_12 S hd k hn hp
  | some x => exact aw_astore_12 S hd k hn hp
theorem aw_lstore_12 (S : aw_C p s m args meth c E cc nL own ret) {x : Int64} {a0 a1 a2 a3 a4 a5 a6 a7 a8 a9 a10 a11 o o2 : Option Value} {r : List (Option Value)} (hd : decode cc pc = .ok (.lstore 12, 2)) (k : AW p l e R s m args below meth c E nL Q mc ms g n (pc + 2) (a0 :: a1 :: a2 :: a3 :: a4 :: a5 :: a6 :: a7 :: a8 :: a9 :: a10 :: a11 :: some (.long x) :: none :: r) st) (hn : 12 + 1 < nL := by decide) (hp : aw_nl (a0 :: a1 :: a2 :: a3 :: a4 :: a5 :: a6 :: a7 :: a8 :: a9 :: a10 :: a11 :: o :: o2 :: r) 12 = true := by rfl) : AW p l e R s m args below meth c E nL Q mc ms g n pc (a0 :: a1 :: a2 :: a3 :: a4 :: a5 :: a6 :: a7 :: a8 :: a9 :: a10 :: a11 :: o :: o2 :: r) (.long x :: st) := aw_lstore_g S hd hn rfl hp k
theorem aw_iinc_12 (S : aw_C p s m args meth c E cc nL own ret) {j : Int} {x v : Int32} {a0 a1 a2 a3 a4 a5 a6 a7 a8 a9 a10 a11 : Option Value} {r : List (Option Value)} (hd : decode cc pc = .ok (.iinc 12 j, 3)) (hv : x + Int32.ofInt j = v) (k : AW p l e R s m args below meth c E nL Q mc ms g n (pc + 3) (a0 :: a1 :: a2 :: a3 :: a4 :: a5 :: a6 :: a7 :: a8 :: a9 :: a10 :: a11 :: some (.int v) :: r) st) (hn : 12 < nL := by decide) (hp : aw_nl (a0 :: a1 :: a2 :: a3 :: a4 :: a5 :: a6 :: a7 :: a8 :: a9 :: a10 :: a11 :: some (.int x) :: r) 12 = true := by rfl) : AW p l e R s m args below meth c E nL Q mc ms g n pc (a0 :: a1 :: a2 :: a3 :: a4 :: a5 :: a6 :: a7 :: a8 :: a9 :: a10 :: a11 :: some (.int x) :: r) st := aw_iinc_g S hd rfl hv hn rfl hp k
theorem aw_iload_13 (S : aw_C p s m args meth c E cc nL own ret) {x : Int32} {a0 a1 a2 a3 a4 a5 a6 a7 a8 a9 a10 a11 a12 : Option Value} {r : List (Option Value)} (hd : decode cc pc = .ok (.iload 13, 2)) (k : AW p l e R s m args below meth c E nL Q mc ms g n (pc + 2) (a0 :: a1 :: a2 :: a3 :: a4 :: a5 :: a6 :: a7 :: a8 :: a9 :: a10 :: a11 :: a12 :: some (.int x) :: r) (.int x :: st)) : AW p l e R s m args below meth c E nL Q mc ms g n pc (a0 :: a1 :: a2 :: a3 :: a4 :: a5 :: a6 :: a7 :: a8 :: a9 :: a10 :: a11 :: a12 :: some (.int x) :: r) st := aw_iload S hd rfl k
theorem aw_lload_13 (S : aw_C p s m args meth c E cc nL own ret) {x : Int64} {a0 a1 a2 a3 a4 a5 a6 a7 a8 a9 a10 a11 a12 : Option Value} {r : List (Option Value)} (hd : decode cc pc = .ok (.lload 13, 2)) (k : AW p l e R s m args below meth c E nL Q mc ms g n (pc + 2) (a0 :: a1 :: a2 :: a3 :: a4 :: a5 :: a6 :: a7 :: a8 :: a9 :: a10 :: a11 :: a12 :: some (.long x) :: r) (.long x :: st)) : AW p l e R s m args below meth c E nL Q mc ms g n pc (a0 :: a1 :: a2 :: a3 :: a4 :: a5 :: a6 :: a7 :: a8 :: a9 :: a10 :: a11 :: a12 :: some (.long x) :: r) st := aw_lload S hd rfl k
theorem aw_aload_13 (S : aw_C p s m args meth c E cc nL own ret) {x : Nat} {a0 a1 a2 a3 a4 a5 a6 a7 a8 a9 a10 a11 a12 : Option Value} {r : List (Option Value)} (hd : decode cc pc = .ok (.aload 13, 2)) (k : AW p l e R s m args below meth c E nL Q mc ms g n (pc + 2) (a0 :: a1 :: a2 :: a3 :: a4 :: a5 :: a6 :: a7 :: a8 :: a9 :: a10 :: a11 :: a12 :: some (.ref x) :: r) (.ref x :: st)) : AW p l e R s m args below meth c E nL Q mc ms g n pc (a0 :: a1 :: a2 :: a3 :: a4 :: a5 :: a6 :: a7 :: a8 :: a9 :: a10 :: a11 :: a12 :: some (.ref x) :: r) st := aw_aload S hd rfl k
theorem aw_aloadQ_13 (S : aw_C p s m args meth c E cc nL own ret) {x : Option Nat} {a0 a1 a2 a3 a4 a5 a6 a7 a8 a9 a10 a11 a12 : Option Value} {r : List (Option Value)} (hd : decode cc pc = .ok (.aload 13, 2)) (k : AW p l e R s m args below meth c E nL Q mc ms g n (pc + 2) (a0 :: a1 :: a2 :: a3 :: a4 :: a5 :: a6 :: a7 :: a8 :: a9 :: a10 :: a11 :: a12 :: some (va_rf x) :: r) (va_rf x :: st)) : AW p l e R s m args below meth c E nL Q mc ms g n pc (a0 :: a1 :: a2 :: a3 :: a4 :: a5 :: a6 :: a7 :: a8 :: a9 :: a10 :: a11 :: a12 :: some (va_rf x) :: r) st := aw_aloadQ S hd rfl k
theorem aw_aloadN_13 (S : aw_C p s m args meth c E cc nL own ret)  {a0 a1 a2 a3 a4 a5 a6 a7 a8 a9 a10 a11 a12 : Option Value} {r : List (Option Value)} (hd : decode cc pc = .ok (.aload 13, 2)) (k : AW p l e R s m args below meth c E nL Q mc ms g n (pc + 2) (a0 :: a1 :: a2 :: a3 :: a4 :: a5 :: a6 :: a7 :: a8 :: a9 :: a10 :: a11 :: a12 :: some (.null) :: r) (.null :: st)) : AW p l e R s m args below meth c E nL Q mc ms g n pc (a0 :: a1 :: a2 :: a3 :: a4 :: a5 :: a6 :: a7 :: a8 :: a9 :: a10 :: a11 :: a12 :: some (.null) :: r) st := aw_aloadN S hd rfl k
theorem aw_istore_13 (S : aw_C p s m args meth c E cc nL own ret) {x : Int32} {a0 a1 a2 a3 a4 a5 a6 a7 a8 a9 a10 a11 a12 o : Option Value} {r : List (Option Value)} (hd : decode cc pc = .ok (.istore 13, 2)) (k : AW p l e R s m args below meth c E nL Q mc ms g n (pc + 2) (a0 :: a1 :: a2 :: a3 :: a4 :: a5 :: a6 :: a7 :: a8 :: a9 :: a10 :: a11 :: a12 :: some (.int x) :: r) st) (hn : 13 < nL := by decide) (hp : aw_nl (a0 :: a1 :: a2 :: a3 :: a4 :: a5 :: a6 :: a7 :: a8 :: a9 :: a10 :: a11 :: a12 :: o :: r) 13 = true := by rfl) : AW p l e R s m args below meth c E nL Q mc ms g n pc (a0 :: a1 :: a2 :: a3 :: a4 :: a5 :: a6 :: a7 :: a8 :: a9 :: a10 :: a11 :: a12 :: o :: r) (.int x :: st) := aw_istore_g S hd hn rfl hp k
theorem aw_astore_13 (S : aw_C p s m args meth c E cc nL own ret) {x : Nat} {a0 a1 a2 a3 a4 a5 a6 a7 a8 a9 a10 a11 a12 o : Option Value} {r : List (Option Value)} (hd : decode cc pc = .ok (.astore 13, 2)) (k : AW p l e R s m args below meth c E nL Q mc ms g n (pc + 2) (a0 :: a1 :: a2 :: a3 :: a4 :: a5 :: a6 :: a7 :: a8 :: a9 :: a10 :: a11 :: a12 :: some (.ref x) :: r) st) (hn : 13 < nL := by decide) (hp : aw_nl (a0 :: a1 :: a2 :: a3 :: a4 :: a5 :: a6 :: a7 :: a8 :: a9 :: a10 :: a11 :: a12 :: o :: r) 13 = true := by rfl) : AW p l e R s m args below meth c E nL Q mc ms g n pc (a0 :: a1 :: a2 :: a3 :: a4 :: a5 :: a6 :: a7 :: a8 :: a9 :: a10 :: a11 :: a12 :: o :: r) (.ref x :: st) := aw_astore_g S hd hn rfl hp k
theorem aw_astoreN_13 (S : aw_C p s m args meth c E cc nL own ret)  {a0 a1 a2 a3 a4 a5 a6 a7 a8 a9 a10 a11 a12 o : Option Value} {r : List (Option Value)} (hd : decode cc pc = .ok (.astore 13, 2)) (k : AW p l e R s m args below meth c E nL Q mc ms g n (pc + 2) (a0 :: a1 :: a2 :: a3 :: a4 :: a5 :: a6 :: a7 :: a8 :: a9 :: a10 :: a11 :: a12 :: some (.null) :: r) st) (hn : 13 < nL := by decide) (hp : aw_nl (a0 :: a1 :: a2 :: a3 :: a4 :: a5 :: a6 :: a7 :: a8 :: a9 :: a10 :: a11 :: a12 :: o :: r) 13 = true := by rfl) : AW p l e R s m args below meth c E nL Q mc ms g n pc (a0 :: a1 :: a2 :: a3 :: a4 :: a5 :: a6 :: a7 :: a8 :: a9 :: a10 :: a11 :: a12 :: o :: r) (.null :: st) := aw_astoreN_g S hd hn rfl hp k
theorem aw_astoreQ_13 (S : aw_C p s m args meth c E cc nL own ret) {x : Option Nat} {a0 a1 a2 a3 a4 a5 a6 a7 a8 a9 a10 a11 a12 o : Option Value} {r : List (Option Value)} (hd : decode cc pc = .ok (.astore 13, 2)) (k : AW p l e R s m args below meth c E nL Q mc ms g n (pc + 2) (a0 :: a1 :: a2 :: a3 :: a4 :: a5 :: a6 :: a7 :: a8 :: a9 :: a10 :: a11 :: a12 :: some (va_rf x) :: r) st) (hn : 13 < nL := by decide) (hp : aw_nl (a0 :: a1 :: a2 :: a3 :: a4 :: a5 :: a6 :: a7 :: a8 :: a9 :: a10 :: a11 :: a12 :: o :: r) 13 = true := by rfl) : AW p l e R s m args below meth c E nL Q mc ms g n pc (a0 :: a1 :: a2 :: a3 :: a4 :: a5 :: a6 :: a7 :: a8 :: a9 :: a10 :: a11 :: a12 :: o :: r) (va_rf x :: st) := by
  cases x with
  | none => exact aw_astoreN_13 S hd k hn hp
  | some x => exact aw_astore_13 S hd k hn hp
theorem aw_lstore_13 (S : aw_C p s m args meth c E cc nL own ret) {x : Int64} {a0 a1 a2 a3 a4 a5 a6 a7 a8 a9 a10 a11 a12 o o2 : Option Value} {r : List (Option Value)} (hd : decode cc pc = .ok (.lstore 13, 2)) (k : AW p l e R s m args below meth c E nL Q mc ms g n (pc + 2) (a0 :: a1 :: a2 :: a3 :: a4 :: a5 :: a6 :: a7 :: a8 :: a9 :: a10 :: a11 :: a12 :: some (.long x) :: none :: r) st) (hn : 13 + 1 < nL := by decide) (hp : aw_nl (a0 :: a1 :: a2 :: a3 :: a4 :: a5 :: a6 :: a7 :: a8 :: a9 :: a10 :: a11 :: a12 :: o :: o2 :: r) 13 = true := by rfl) : AW p l e R s m args below meth c E nL Q mc ms g n pc (a0 :: a1 :: a2 :: a3 :: a4 :: a5 :: a6 :: a7 :: a8 :: a9 :: a10 :: a11 :: a12 :: o :: o2 :: r) (.long x :: st) := aw_lstore_g S hd hn rfl hp k
theorem aw_iinc_13 (S : aw_C p s m args meth c E cc nL own ret) {j : Int} {x v : Int32} {a0 a1 a2 a3 a4 a5 a6 a7 a8 a9 a10 a11 a12 : Option Value} {r : List (Option Value)} (hd : decode cc pc = .ok (.iinc 13 j, 3)) (hv : x + Int32.ofInt j = v) (k : AW p l e R s m args below meth c E nL Q mc ms g n (pc + 3) (a0 :: a1 :: a2 :: a3 :: a4 :: a5 :: a6 :: a7 :: a8 :: a9 :: a10 :: a11 :: a12 :: some (.int v) :: r) st) (hn : 13 < nL := by decide) (hp : aw_nl (a0 :: a1 :: a2 :: a3 :: a4 :: a5 :: a6 :: a7 :: a8 :: a9 :: a10 :: a11 :: a12 :: some (.int x) :: r) 13 = true := by rfl) : AW p l e R s m args below meth c E nL Q mc ms g n pc (a0 :: a1 :: a2 :: a3 :: a4 :: a5 :: a6 :: a7 :: a8 :: a9 :: a10 :: a11 :: a12 :: some (.int x) :: r) st := aw_iinc_g S hd rfl hv hn rfl hp k
theorem aw_iadd (S : aw_C p s m args meth c E cc nL own ret) {x y : Int32} (hd : decode cc pc = .ok (.iadd, 1)) (k : AW p l e R s m args below meth c E nL Q mc ms g n (pc + 1) lv (.int (x + y) :: st)) : AW p l e R s m args below meth c E nL Q mc ms g n pc lv (.int y :: .int x :: st) := fun H locs ls hR hS hl => lv_iadd S.1.1 S.1.2.1 hd (k H locs ls hR hS hl)
theorem aw_isub (S : aw_C p s m args meth c E cc nL own ret) {x y : Int32} (hd : decode cc pc = .ok (.isub, 1)) (k : AW p l e R s m args below meth c E nL Q mc ms g n (pc + 1) lv (.int (x - y) :: st)) : AW p l e R s m args below meth c E nL Q mc ms g n pc lv (.int y :: .int x :: st) := fun H locs ls hR hS hl => lv_isub S.1.1 S.1.2.1 hd (k H locs ls hR hS hl)
theorem aw_imul (S : aw_C p s m args meth c E cc nL own ret) {x y : Int32} (hd : decode cc pc = .ok (.imul, 1)) (k : AW p l e R s m args below meth c E nL Q mc ms g n (pc + 1) lv (.int (x * y) :: st)) : AW p l e R s m args below meth c E nL Q mc ms g n pc lv (.int y :: .int x :: st) := fun H locs ls hR hS hl => lv_imul S.1.1 S.1.2.1 hd (k H locs ls hR hS hl)
theorem aw_iand (S : aw_C p s m args meth c E cc nL own ret) {x y : Int32} (hd : decode cc pc = .ok (.iand, 1)) (k : AW p l e R s m args below meth c E nL Q mc ms g n (pc + 1) lv (.int (x &&& y) :: st)) : AW p l e R s m args below meth c E nL Q mc ms g n pc lv (.int y :: .int x :: st) := fun H locs ls hR hS hl => lv_iand S.1.1 S.1.2.1 hd (k H locs ls hR hS hl)
theorem aw_ior (S : aw_C p s m args meth c E cc nL own ret) {x y : Int32} (hd : decode cc pc = .ok (.ior, 1)) (k : AW p l e R s m args below meth c E nL Q mc ms g n (pc + 1) lv (.int (x ||| y) :: st)) : AW p l e R s m args below meth c E nL Q mc ms g n pc lv (.int y :: .int x :: st) := fun H locs ls hR hS hl => lv_ior S.1.1 S.1.2.1 hd (k H locs ls hR hS hl)
theorem aw_ishl (S : aw_C p s m args meth c E cc nL own ret) {x y : Int32} (hd : decode cc pc = .ok (.ishl, 1)) (k : AW p l e R s m args below meth c E nL Q mc ms g n (pc + 1) lv (.int (x <<< (y &&& 31)) :: st)) : AW p l e R s m args below meth c E nL Q mc ms g n pc lv (.int y :: .int x :: st) := fun H locs ls hR hS hl => lv_ishl S.1.1 S.1.2.1 hd (k H locs ls hR hS hl)
theorem aw_ishr (S : aw_C p s m args meth c E cc nL own ret) {x y : Int32} (hd : decode cc pc = .ok (.ishr, 1)) (k : AW p l e R s m args below meth c E nL Q mc ms g n (pc + 1) lv (.int (x >>> (y &&& 31)) :: st)) : AW p l e R s m args below meth c E nL Q mc ms g n pc lv (.int y :: .int x :: st) := fun H locs ls hR hS hl => lv_ishr S.1.1 S.1.2.1 hd (k H locs ls hR hS hl)
theorem aw_idiv (S : aw_C p s m args meth c E cc nL own ret) {x y : Int32} (hd : decode cc pc = .ok (.idiv, 1)) (hne : ¬ y = 0) (k : AW p l e R s m args below meth c E nL Q mc ms g n (pc + 1) lv (.int (x / y) :: st)) : AW p l e R s m args below meth c E nL Q mc ms g n pc lv (.int y :: .int x :: st) := fun H locs ls hR hS hl => lv_idiv S.1.1 S.1.2.1 hd hne (k H locs ls hR hS hl)
theorem aw_irem (S : aw_C p s m args meth c E cc nL own ret) {x y : Int32} (hd : decode cc pc = .ok (.irem, 1)) (hne : ¬ y = 0) (k : AW p l e R s m args below meth c E nL Q mc ms g n (pc + 1) lv (.int (x - x / y * y) :: st)) : AW p l e R s m args below meth c E nL Q mc ms g n pc lv (.int y :: .int x :: st) := fun H locs ls hR hS hl => lv_irem S.1.1 S.1.2.1 hd hne (k H locs ls hR hS hl)
theorem aw_ineg (S : aw_C p s m args meth c E cc nL own ret) {x : Int32} (hd : decode cc pc = .ok (.ineg, 1)) (k : AW p l e R s m args below meth c E nL Q mc ms g n (pc + 1) lv (.int (-x) :: st)) : AW p l e R s m args below meth c E nL Q mc ms g n pc lv (.int x :: st) := fun H locs ls hR hS hl => lv_ineg S.1.1 S.1.2.1 hd (k H locs ls hR hS hl)
theorem aw_ladd (S : aw_C p s m args meth c E cc nL own ret) {x y : Int64} (hd : decode cc pc = .ok (.ladd, 1)) (k : AW p l e R s m args below meth c E nL Q mc ms g n (pc + 1) lv (.long (x + y) :: st)) : AW p l e R s m args below meth c E nL Q mc ms g n pc lv (.long y :: .long x :: st) := fun H locs ls hR hS hl => lv_ladd S.1.1 S.1.2.1 hd (k H locs ls hR hS hl)
theorem aw_lsub (S : aw_C p s m args meth c E cc nL own ret) {x y : Int64} (hd : decode cc pc = .ok (.lsub, 1)) (k : AW p l e R s m args below meth c E nL Q mc ms g n (pc + 1) lv (.long (x - y) :: st)) : AW p l e R s m args below meth c E nL Q mc ms g n pc lv (.long y :: .long x :: st) := fun H locs ls hR hS hl => lv_lsub S.1.1 S.1.2.1 hd (k H locs ls hR hS hl)
theorem aw_lmul (S : aw_C p s m args meth c E cc nL own ret) {x y : Int64} (hd : decode cc pc = .ok (.lmul, 1)) (k : AW p l e R s m args below meth c E nL Q mc ms g n (pc + 1) lv (.long (x * y) :: st)) : AW p l e R s m args below meth c E nL Q mc ms g n pc lv (.long y :: .long x :: st) := fun H locs ls hR hS hl => lv_lmul S.1.1 S.1.2.1 hd (k H locs ls hR hS hl)
theorem aw_land (S : aw_C p s m args meth c E cc nL own ret) {x y : Int64} (hd : decode cc pc = .ok (.land, 1)) (k : AW p l e R s m args below meth c E nL Q mc ms g n (pc + 1) lv (.long (x &&& y) :: st)) : AW p l e R s m args below meth c E nL Q mc ms g n pc lv (.long y :: .long x :: st) := fun H locs ls hR hS hl => lv_land S.1.1 S.1.2.1 hd (k H locs ls hR hS hl)
theorem aw_lor (S : aw_C p s m args meth c E cc nL own ret) {x y : Int64} (hd : decode cc pc = .ok (.lor, 1)) (k : AW p l e R s m args below meth c E nL Q mc ms g n (pc + 1) lv (.long (x ||| y) :: st)) : AW p l e R s m args below meth c E nL Q mc ms g n pc lv (.long y :: .long x :: st) := fun H locs ls hR hS hl => lv_lor S.1.1 S.1.2.1 hd (k H locs ls hR hS hl)
theorem aw_lneg (S : aw_C p s m args meth c E cc nL own ret) {x : Int64} (hd : decode cc pc = .ok (.lneg, 1)) (k : AW p l e R s m args below meth c E nL Q mc ms g n (pc + 1) lv (.long (-x) :: st)) : AW p l e R s m args below meth c E nL Q mc ms g n pc lv (.long x :: st) := fun H locs ls hR hS hl => lv_lneg S.1.1 S.1.2.1 hd (k H locs ls hR hS hl)
theorem aw_i2l (S : aw_C p s m args meth c E cc nL own ret) {x : Int32} (hd : decode cc pc = .ok (.i2l, 1)) (k : AW p l e R s m args below meth c E nL Q mc ms g n (pc + 1) lv (.long (x.toInt64) :: st)) : AW p l e R s m args below meth c E nL Q mc ms g n pc lv (.int x :: st) := fun H locs ls hR hS hl => lv_i2l S.1.1 S.1.2.1 hd rfl (k H locs ls hR hS hl)
theorem aw_l2i (S : aw_C p s m args meth c E cc nL own ret) {x : Int64} (hd : decode cc pc = .ok (.l2i, 1)) (k : AW p l e R s m args below meth c E nL Q mc ms g n (pc + 1) lv (.int (x.toInt32) :: st)) : AW p l e R s m args below meth c E nL Q mc ms g n pc lv (.long x :: st) := fun H locs ls hR hS hl => lv_l2i S.1.1 S.1.2.1 hd rfl (k H locs ls hR hS hl)
theorem aw_i2b (S : aw_C p s m args meth c E cc nL own ret) {x : Int32} (hd : decode cc pc = .ok (.i2b, 1)) (k : AW p l e R s m args below meth c E nL Q mc ms g n (pc + 1) lv (.int (x.toInt8.toInt32) :: st)) : AW p l e R s m args below meth c E nL Q mc ms g n pc lv (.int x :: st) := fun H locs ls hR hS hl => lv_i2b S.1.1 S.1.2.1 hd rfl (k H locs ls hR hS hl)
theorem aw_i2c (S : aw_C p s m args meth c E cc nL own ret) {x : Int32} (hd : decode cc pc = .ok (.i2c, 1)) (k : AW p l e R s m args below meth c E nL Q mc ms g n (pc + 1) lv (.int ((x.toUInt32 % 65536).toInt32) :: st)) : AW p l e R s m args below meth c E nL Q mc ms g n pc lv (.int x :: st) := fun H locs ls hR hS hl => lv_i2c S.1.1 S.1.2.1 hd rfl (k H locs ls hR hS hl)
theorem aw_lushr (S : aw_C p s m args meth c E cc nL own ret) {x : Int64} {y : Int32} (hd : decode cc pc = .ok (.lushr, 1)) (k : AW p l e R s m args below meth c E nL Q mc ms g n (pc + 1) lv (.long ((x.toUInt64 >>> (y.toInt64.toUInt64 &&& Int64.toUInt64 63)).toInt64) :: st)) : AW p l e R s m args below meth c E nL Q mc ms g n pc lv (.int y :: .long x :: st) := fun H locs ls hR hS hl => lv_lushr S.1.1 S.1.2.1 hd rfl (k H locs ls hR hS hl)
theorem aw_lshl (S : aw_C p s m args meth c E cc nL own ret) {x : Int64} {y : Int32} (hd : decode cc pc = .ok (.lshl, 1)) (k : AW p l e R s m args below meth c E nL Q mc ms g n (pc + 1) lv (.long (x <<< (y.toInt64 &&& 63)) :: st)) : AW p l e R s m args below meth c E nL Q mc ms g n pc lv (.int y :: .long x :: st) := fun H locs ls hR hS hl => lv_lshl S.1.1 S.1.2.1 hd rfl (k H locs ls hR hS hl)
theorem aw_lshr (S : aw_C p s m args meth c E cc nL own ret) {x : Int64} {y : Int32} (hd : decode cc pc = .ok (.lshr, 1)) (k : AW p l e R s m args below meth c E nL Q mc ms g n (pc + 1) lv (.long (x >>> (y.toInt64 &&& 63)) :: st)) : AW p l e R s m args below meth c E nL Q mc ms g n pc lv (.int y :: .long x :: st) := fun H locs ls hR hS hl => lv_lshr S.1.1 S.1.2.1 hd rfl (k H locs ls hR hS hl)
theorem aw_lcmp (S : aw_C p s m args meth c E cc nL own ret) {x y : Int64} (hd : decode cc pc = .ok (.lcmp, 1)) (k : AW p l e R s m args below meth c E nL Q mc ms g n (pc + 1) lv (.int (lg_cmp x y) :: st)) : AW p l e R s m args below meth c E nL Q mc ms g n pc lv (.long y :: .long x :: st) := fun H locs ls hR hS hl => W.lcmp S.1.1 S.1.2.1 hd (k H locs ls hR hS hl)
theorem aw_dup (S : aw_C p s m args meth c E cc nL own ret) {u : Value} (hd : decode cc pc = .ok (.dup, 1)) (h1 : u.category = 1) (k : AW p l e R s m args below meth c E nL Q mc ms g n (pc + 1) lv (u :: u :: st)) : AW p l e R s m args below meth c E nL Q mc ms g n pc lv (u :: st) := fun H locs ls hR hS hl => lv_dup S.1.1 S.1.2.1 hd h1 (k H locs ls hR hS hl)
theorem aw_pop (S : aw_C p s m args meth c E cc nL own ret) {u : Value} (hd : decode cc pc = .ok (.pop, 1)) (h1 : u.category = 1) (k : AW p l e R s m args below meth c E nL Q mc ms g n (pc + 1) lv st) : AW p l e R s m args below meth c E nL Q mc ms g n pc lv (u :: st) := fun H locs ls hR hS hl => lv_pop S.1.1 S.1.2.1 hd h1 (k H locs ls hR hS hl)
theorem aw_dup_x1 (S : aw_C p s m args meth c E cc nL own ret) {u v : Value} (hd : decode cc pc = .ok (.dup_x1, 1)) (h1 : u.category = 1) (h2 : v.category = 1) (k : AW p l e R s m args below meth c E nL Q mc ms g n (pc + 1) lv (u :: v :: u :: st)) : AW p l e R s m args below meth c E nL Q mc ms g n pc lv (u :: v :: st) := fun H locs ls hR hS hl => lv_dup_x1 S.1.1 S.1.2.1 hd h1 h2 (k H locs ls hR hS hl)
theorem aw_if_eq (S : aw_C p s m args meth c E cc nL own ret) {x : Int32} {off : Int} (tgt : Nat) (hd : decode cc pc = .ok (.ifCond .eq off, 3)) (ht : (pc : Int) + off = (tgt : Int)) (kt : x = 0 → AW p l e R s m args below meth c E nL Q mc ms g n tgt lv st) (kf : ¬ x = 0 → AW p l e R s m args below meth c E nL Q mc ms g n (pc + 3) lv st) : AW p l e R s m args below meth c E nL Q mc ms g n pc lv (.int x :: st) := fun H locs ls hR hS hl => lv_if_eq S.1.1 S.1.2.1 hd ht (fun h => kt h H locs ls hR hS hl) (fun h => kf h H locs ls hR hS hl)
theorem aw_icmp_eq (S : aw_C p s m args meth c E cc nL own ret) {x y : Int32} {off : Int} (tgt : Nat) (hd : decode cc pc = .ok (.if_icmp .eq off, 3)) (ht : (pc : Int) + off = (tgt : Int)) (kt : x = y → AW p l e R s m args below meth c E nL Q mc ms g n tgt lv st) (kf : ¬ x = y → AW p l e R s m args below meth c E nL Q mc ms g n (pc + 3) lv st) : AW p l e R s m args below meth c E nL Q mc ms g n pc lv (.int y :: .int x :: st) := fun H locs ls hR hS hl => lv_icmp_eq S.1.1 S.1.2.1 hd ht (fun h => kt h H locs ls hR hS hl) (fun h => kf h H locs ls hR hS hl)
theorem aw_if_ne (S : aw_C p s m args meth c E cc nL own ret) {x : Int32} {off : Int} (tgt : Nat) (hd : decode cc pc = .ok (.ifCond .ne off, 3)) (ht : (pc : Int) + off = (tgt : Int)) (kt : ¬ x = 0 → AW p l e R s m args below meth c E nL Q mc ms g n tgt lv st) (kf : x = 0 → AW p l e R s m args below meth c E nL Q mc ms g n (pc + 3) lv st) : AW p l e R s m args below meth c E nL Q mc ms g n pc lv (.int x :: st) := fun H locs ls hR hS hl => lv_if_ne S.1.1 S.1.2.1 hd ht (fun h => kt h H locs ls hR hS hl) (fun h => kf h H locs ls hR hS hl)
theorem aw_icmp_ne (S : aw_C p s m args meth c E cc nL own ret) {x y : Int32} {off : Int} (tgt : Nat) (hd : decode cc pc = .ok (.if_icmp .ne off, 3)) (ht : (pc : Int) + off = (tgt : Int)) (kt : ¬ x = y → AW p l e R s m args below meth c E nL Q mc ms g n tgt lv st) (kf : x = y → AW p l e R s m args below meth c E nL Q mc ms g n (pc + 3) lv st) : AW p l e R s m args below meth c E nL Q mc ms g n pc lv (.int y :: .int x :: st) := fun H locs ls hR hS hl => lv_icmp_ne S.1.1 S.1.2.1 hd ht (fun h => kt h H locs ls hR hS hl) (fun h => kf h H locs ls hR hS hl)
theorem aw_if_lt (S : aw_C p s m args meth c E cc nL own ret) {x : Int32} {off : Int} (tgt : Nat) (hd : decode cc pc = .ok (.ifCond .lt off, 3)) (ht : (pc : Int) + off = (tgt : Int)) (kt : x < 0 → AW p l e R s m args below meth c E nL Q mc ms g n tgt lv st) (kf : ¬ x < 0 → AW p l e R s m args below meth c E nL Q mc ms g n (pc + 3) lv st) : AW p l e R s m args below meth c E nL Q mc ms g n pc lv (.int x :: st) := fun H locs ls hR hS hl => lv_if_lt S.1.1 S.1.2.1 hd ht (fun h => kt h H locs ls hR hS hl) (fun h => kf h H locs ls hR hS hl)
theorem aw_icmp_lt (S : aw_C p s m args meth c E cc nL own ret) {x y : Int32} {off : Int} (tgt : Nat) (hd : decode cc pc = .ok (.if_icmp .lt off, 3)) (ht : (pc : Int) + off = (tgt : Int)) (kt : x < y → AW p l e R s m args below meth c E nL Q mc ms g n tgt lv st) (kf : ¬ x < y → AW p l e R s m args below meth c E nL Q mc ms g n (pc + 3) lv st) : AW p l e R s m args below meth c E nL Q mc ms g n pc lv (.int y :: .int x :: st) := fun H locs ls hR hS hl => lv_icmp_lt S.1.1 S.1.2.1 hd ht (fun h => kt h H locs ls hR hS hl) (fun h => kf h H locs ls hR hS hl)
theorem aw_if_ge (S : aw_C p s m args meth c E cc nL own ret) {x : Int32} {off : Int} (tgt : Nat) (hd : decode cc pc = .ok (.ifCond .ge off, 3)) (ht : (pc : Int) + off = (tgt : Int)) (kt : 0 ≤ x → AW p l e R s m args below meth c E nL Q mc ms g n tgt lv st) (kf : ¬ 0 ≤ x → AW p l e R s m args below meth c E nL Q mc ms g n (pc + 3) lv st) : AW p l e R s m args below meth c E nL Q mc ms g n pc lv (.int x :: st) := fun H locs ls hR hS hl => lv_if_ge S.1.1 S.1.2.1 hd ht (fun h => kt h H locs ls hR hS hl) (fun h => kf h H locs ls hR hS hl)
theorem aw_icmp_ge (S : aw_C p s m args meth c E cc nL own ret) {x y : Int32} {off : Int} (tgt : Nat) (hd : decode cc pc = .ok (.if_icmp .ge off, 3)) (ht : (pc : Int) + off = (tgt : Int)) (kt : y ≤ x → AW p l e R s m args below meth c E nL Q mc ms g n tgt lv st) (kf : ¬ y ≤ x → AW p l e R s m args below meth c E nL Q mc ms g n (pc + 3) lv st) : AW p l e R s m args below meth c E nL Q mc ms g n pc lv (.int y :: .int x :: st) := fun H locs ls hR hS hl => lv_icmp_ge S.1.1 S.1.2.1 hd ht (fun h => kt h H locs ls hR hS hl) (fun h => kf h H locs ls hR hS hl)
theorem aw_if_gt (S : aw_C p s m args meth c E cc nL own ret) {x : Int32} {off : Int} (tgt : Nat) (hd : decode cc pc = .ok (.ifCond .gt off, 3)) (ht : (pc : Int) + off = (tgt : Int)) (kt : 0 < x → AW p l e R s m args below meth c E nL Q mc ms g n tgt lv st) (kf : ¬ 0 < x → AW p l e R s m args below meth c E nL Q mc ms g n (pc + 3) lv st) : AW p l e R s m args below meth c E nL Q mc ms g n pc lv (.int x :: st) := fun H locs ls hR hS hl => lv_if_gt S.1.1 S.1.2.1 hd ht (fun h => kt h H locs ls hR hS hl) (fun h => kf h H locs ls hR hS hl)
theorem aw_icmp_gt (S : aw_C p s m args meth c E cc nL own ret) {x y : Int32} {off : Int} (tgt : Nat) (hd : decode cc pc = .ok (.if_icmp .gt off, 3)) (ht : (pc : Int) + off = (tgt : Int)) (kt : y < x → AW p l e R s m args below meth c E nL Q mc ms g n tgt lv st) (kf : ¬ y < x → AW p l e R s m args below meth c E nL Q mc ms g n (pc + 3) lv st) : AW p l e R s m args below meth c E nL Q mc ms g n pc lv (.int y :: .int x :: st) := fun H locs ls hR hS hl => lv_icmp_gt S.1.1 S.1.2.1 hd ht (fun h => kt h H locs ls hR hS hl) (fun h => kf h H locs ls hR hS hl)
theorem aw_if_le (S : aw_C p s m args meth c E cc nL own ret) {x : Int32} {off : Int} (tgt : Nat) (hd : decode cc pc = .ok (.ifCond .le off, 3)) (ht : (pc : Int) + off = (tgt : Int)) (kt : x ≤ 0 → AW p l e R s m args below meth c E nL Q mc ms g n tgt lv st) (kf : ¬ x ≤ 0 → AW p l e R s m args below meth c E nL Q mc ms g n (pc + 3) lv st) : AW p l e R s m args below meth c E nL Q mc ms g n pc lv (.int x :: st) := fun H locs ls hR hS hl => lv_if_le S.1.1 S.1.2.1 hd ht (fun h => kt h H locs ls hR hS hl) (fun h => kf h H locs ls hR hS hl)
theorem aw_icmp_le (S : aw_C p s m args meth c E cc nL own ret) {x y : Int32} {off : Int} (tgt : Nat) (hd : decode cc pc = .ok (.if_icmp .le off, 3)) (ht : (pc : Int) + off = (tgt : Int)) (kt : x ≤ y → AW p l e R s m args below meth c E nL Q mc ms g n tgt lv st) (kf : ¬ x ≤ y → AW p l e R s m args below meth c E nL Q mc ms g n (pc + 3) lv st) : AW p l e R s m args below meth c E nL Q mc ms g n pc lv (.int y :: .int x :: st) := fun H locs ls hR hS hl => lv_icmp_le S.1.1 S.1.2.1 hd ht (fun h => kt h H locs ls hR hS hl) (fun h => kf h H locs ls hR hS hl)
theorem aw_goto (S : aw_C p s m args meth c E cc nL own ret) {off : Int} (tgt : Nat) (hd : decode cc pc = .ok (.goto off, 3)) (ht : (pc : Int) + off = (tgt : Int)) (k : AW p l e R s m args below meth c E nL Q mc ms g n tgt lv st) : AW p l e R s m args below meth c E nL Q mc ms g n pc lv st := fun H locs ls hR hS hl => lv_goto S.1.1 S.1.2.1 hd ht (k H locs ls hR hS hl)
theorem aw_ifnull (S : aw_C p s m args meth c E cc nL own ret) {x : Option Nat} {off : Int} (tgt : Nat) (hd : decode cc pc = .ok (.ifnull off, 3)) (ht : (pc : Int) + off = (tgt : Int)) (kt : x = none → AW p l e R s m args below meth c E nL Q mc ms g n tgt lv st) (kf : ∀ y, x = some y → AW p l e R s m args below meth c E nL Q mc ms g n (pc + 3) lv st) : AW p l e R s m args below meth c E nL Q mc ms g n pc lv (va_rf x :: st) := by
  cases x with
  | none => exact fun H locs ls hR hS hl => lv_ifnullN S.1.1 S.1.2.1 hd ht (kt rfl H locs ls hR hS hl)
  | some y => exact fun H locs ls hR hS hl => lv_ifnull S.1.1 S.1.2.1 hd (kf y rfl H locs ls hR hS hl)
theorem aw_ifnonnull (S : aw_C p s m args meth c E cc nL own ret) {x : Option Nat} {off : Int} (tgt : Nat) (hd : decode cc pc = .ok (.ifnonnull off, 3)) (ht : (pc : Int) + off = (tgt : Int)) (kt : ∀ y, x = some y → AW p l e R s m args below meth c E nL Q mc ms g n tgt lv st) (kf : x = none → AW p l e R s m args below meth c E nL Q mc ms g n (pc + 3) lv st) : AW p l e R s m args below meth c E nL Q mc ms g n pc lv (va_rf x :: st) := by
  cases x with
  | none => exact fun H locs ls hR hS hl => lv_ifnonnullN S.1.1 S.1.2.1 hd (kf rfl H locs ls hR hS hl)
  | some y => exact fun H locs ls hR hS hl => lv_ifnonnull S.1.1 S.1.2.1 hd ht (kt y rfl H locs ls hR hS hl)
theorem aw_lookup (S : aw_C p s m args meth c E cc nL own ret) {dflt : Int} {ps : Array (Int × Int)} {len : Nat} {x : Int32} {off : Int} (tgt : Nat) (hd : decode cc pc = .ok (.lookupswitch dflt ps, len)) (hp : (ps.toList.zip (ps.toList.drop 1)).all (fun (a, next) => a.1 < next.1) = true) (ho : Op.lookupswitch.offset ps.toList dflt x.toInt = off) (ht : (pc : Int) + off = (tgt : Int)) (k : AW p l e R s m args below meth c E nL Q mc ms g n tgt lv st) : AW p l e R s m args below meth c E nL Q mc ms g n pc lv (.int x :: st) := fun H locs ls hR hS hl => lv_lookup S.1.1 S.1.2.1 hd hp ho ht (k H locs ls hR hS hl)
theorem aw_tableOut (S : aw_C p s m args meth c E cc nL own ret) {dflt lo hi : Int} {offs : Array Int} {len : Nat} {x : Int32} (tgt : Nat) (hd : decode cc pc = .ok (.tableswitch dflt lo hi offs, len)) (h : x.toInt < lo ∨ hi < x.toInt) (ht : (pc : Int) + dflt = (tgt : Int)) (k : AW p l e R s m args below meth c E nL Q mc ms g n tgt lv st) : AW p l e R s m args below meth c E nL Q mc ms g n pc lv (.int x :: st) := fun H locs ls hR hS hl => lv_tableOut S.1.1 S.1.2.1 hd h ht (k H locs ls hR hS hl)
theorem aw_tableIn (S : aw_C p s m args meth c E cc nL own ret) {dflt lo hi : Int} {offs : Array Int} {len : Nat} {x : Int32} {off : Int} (tgt : Nat) (hd : decode cc pc = .ok (.tableswitch dflt lo hi offs, len)) (h1 : ¬ x.toInt < lo) (h2 : ¬ hi < x.toInt) (ho : offs[(x.toInt - lo).toNat]? = some off) (ht : (pc : Int) + off = (tgt : Int)) (k : AW p l e R s m args below meth c E nL Q mc ms g n tgt lv st) : AW p l e R s m args below meth c E nL Q mc ms g n pc lv (.int x :: st) := fun H locs ls hR hS hl => lv_tableIn S.1.1 S.1.2.1 hd h1 h2 ho ht (k H locs ls hR hS hl)
end AWRows
end
section
/-! CALLS -/
theorem aw_good {y : MethodName} {cc : ByteArray} {nL : Nat} {ret : Option FieldType} (h : Cond.code y cc nL ret ∈ aw_tw) : GoodIn aw_tw (Cond.code y cc nL ret :: aw_tw) := by
  intro w hw
  rcases List.mem_cons.mp hw with rfl | hw
  · exact ⟨h, Or.inl rfl⟩
  · exact ⟨hw, good_of_word (List.all_eq_true.mp aw_tw_good w hw)⟩
/-- a method's words: its code, its class made ready, how many parameters -/
def aw_MB (y : MethodName) (cc : ByteArray) (nL : Nat) (ret : Option FieldType) (k : Nat) : Prop := Cond.code y cc nL ret ∈ aw_tw ∧ Cond.initialized y.cls ∈ aw_tw ∧ (y.cls ≠ "java/lang/invoke/MethodHandle" ∧ y.cls ≠ "java/lang/invoke/VarHandle" ∧ (parseMethodDescriptor y.desc).map (fun d => d.parameters.length) = some k)
theorem aw_blind {E : aw_E} {g : AH} {n : Nat} {av : List Value} : FrameBlind (va_Pc av (fun U => aw_R E g n U.heap ∧ aw_K E U)) := by
  intro a U g2 mk q
  obtain ⟨q0, qR, qK, qS, qb⟩ := q
  exact ⟨q0, qR, va_K.moved (u := U) (U := U.calling g2 mk a) (Vm.Alike.refl U.vm) qK, aw_St.same rfl qS, qb⟩
section AWCall
variable {p : Program} {l : Launch} {e : Env} {R : Room} {s : State} {m : MethodId} {args : Array Value} {below : List Frame} {meth : Method} {c : Code} {E : aw_E} {cc : ByteArray} {nL : Nat} {own : String} {ret : Option FieldType} {Q : State → Prop} {mc ms : Nat} {g : AH} {n pc : Nat} {lv : List (Option Value)} {st st0 : List Value}
theorem aw_ready (S : aw_C p s m args meth c E cc nL own ret) {H : Heap} {locs : List Loc} (hR : aw_R E g n H) (hS : va_S (aw_A E) s.heap H locs) (av : List Value) (U : State) (hU : U.heap = H) (hW : s.WarmedH U.vm) : va_Pc av (fun U => aw_R E g n U.heap ∧ aw_K E U) av.toArray U := by
  refine ⟨rfl, by rw [hU]; exact hR, va_K.moved hW.alike S.2.1, ?_, ?_⟩
  · rw [hU]
    exact aw_St.kept hS (aw_St.moved hW S.2.2.1)
  · rw [hU]
    exact Nat.le_trans S.2.2.2.1 hS.1
/-- behind a call -/
theorem aw_back {mc2 ms2 : Nat} {Post : Option Value → AH → Nat → Prop} {a : Array Value} {H : Heap} {locs : List Loc} {ls : Array Slot} (hS : va_S (aw_A E) s.heap H locs) (hl : lv_has ls nL (aw_pos 0 lv)) (hr : va_Run p l e R s m args below meth c H locs mc ms mc2 ms2 (F0 m pc ls st0) st (aw_Q E Post a) (aw_A E))
    (kk : ∀ (r : Option Value) (g2 : AH) (n2 : Nat), Post r g2 n2 → AW p l e R s m args below meth c E nL Q (mc + mc2) (ms + ms2) g2 n2 (pc + 3) lv (r.toList ++ st)) : W p l e R s m args below meth c H locs mc ms Q (F0 m pc ls st0) := by
  intro T hT X
  obtain ⟨v, st₀, t, T', L, h0, X', hL, e1, e2, ⟨⟨r, g2, n2, hv, hp, hR2⟩, hz, hk⟩, stp⟩ := hr T hT X
  cases hv
  rw [h0] at hz hk
  obtain ⟨t2, a1, b1⟩ := kk v g2 n2 hp T'.heap (locs ++ L) ls (by rw [e1]; exact hR2) ⟨Nat.le_trans hS.1 (by rw [e1]; exact hz), fun q h1 h2 => by rw [e1, hk q (Nat.lt_of_lt_of_le h1 hS.1) h2]; exact hS.2.1 q h1 h2, fun q hq => by
      rcases List.mem_append.mp hq with h | h
      · exact hS.2.2 q h
      · exact hL q h⟩ hl T' rfl X'
  exact ⟨t2, stp t2 a1, b1⟩
theorem aw_callV (S : aw_C p s m args meth c E cc nL own ret) {y : MethodName} {cc2 : ByteArray} {nL2 d2 mc2 ms2 a k : Nat} {ret2 : Option FieldType} {As : List Value} {Post : Option Value → AH → Nat → Prop} (hM : EV l E d2 mc2 ms2 y cc2 nL2 ret2 g n (.ref a :: As) Post) (hB : aw_MB y cc2 nL2 ret2 k) (hI : Cond.instanceMethod y ∈ aw_tw ∧ Cond.selects y.cls y y ∈ aw_tw) {i : Nat} (hw : Cond.methodLink own i y ∈ aw_tw) (hd : decode cc pc = .ok (.invokevirtual i, 3))
    {ci N : Nat} {C : String} {T : u_T} {ty : Nat → FieldType} (I : aw_CI ci C T N ty) {fs : List Value} (ha : g a = some (.inr (ci, fs))) (hC : C = y.cls) (hk : As.length = k) (hst : st0 = As.reverse ++ .ref a :: st) (hf : d2 + 1 ≤ R.frames ∧ 8 + (nL2 + 11) + 40 * d2 ≤ R.locals) (hroom : (st.map fun v => v.category).sum ≤ 8) (hc : mc + mc2 ≤ R.cells ∧ ms + ms2 ≤ R.slots)
    (kk : ∀ (r : Option Value) (g2 : AH) (n2 : Nat), Post r g2 n2 → AW p l e R s m args below meth c E nL Q (mc + mc2) (ms + ms2) g2 n2 (pc + 3) lv (r.toList ++ st)) : AW p l e R s m args below meth c E nL Q mc ms g n pc lv st0 := by
  intro H locs ls hR hS hl
  subst hC
  have hts := S.1.2.2.2.2
  have cw : CallW R s args own y.cls i y cc2 nL2 ret2 (Cond.code y cc2 nL2 ret2 :: aw_tw) { frames := d2, cells := mc2, slots := ms2, locals := 40 * d2 } mc2 ms2 k :=
    ⟨callB_of k hts (aw_good hB.1) rfl rfl rfl (hts _ hB.2.1) (hts _ hw) hB.2.2 hf, hts _ hI.1, hts _ hI.2⟩
  have hrecv : ∃ cellB : Cell, H[a]? = some cellB ∧ cellB.vm.isStatics = false ∧ s.vm.findClass y.cls = some cellB.cls := va_recv (q0 := 0) S.2.1 (aw_one (hR.2 a _ ha)) I.1 rfl
  exact aw_back hS hl (va_runV (g := F0 m pc ls st0) (rest := st) (As := As) S.1 hM cw ⟨aw_blind, hrecv, aw_ready S hR hS _⟩ rfl hk hl.1 hst (lv_room hroom) hd hc) kk
theorem aw_callS (S : aw_C p s m args meth c E cc nL own ret) {y : MethodName} {cc2 : ByteArray} {nL2 d2 mc2 ms2 k : Nat} {ret2 : Option FieldType} {As : List Value} {Post : Option Value → AH → Nat → Prop} (hM : EV l E d2 mc2 ms2 y cc2 nL2 ret2 g n As Post) (hB : aw_MB y cc2 nL2 ret2 k) (hI : Cond.static y ∈ aw_tw) {i : Nat} (hw : Cond.methodLink own i y ∈ aw_tw) (hd : decode cc pc = .ok (.invokestatic i, 3))
    (hk : As.length = k) (hst : st0 = As.reverse ++ st) (hf : d2 + 1 ≤ R.frames ∧ 8 + (nL2 + 11) + 40 * d2 ≤ R.locals) (hroom : (st.map fun v => v.category).sum ≤ 8) (hc : mc + mc2 ≤ R.cells ∧ ms + ms2 ≤ R.slots)
    (kk : ∀ (r : Option Value) (g2 : AH) (n2 : Nat), Post r g2 n2 → AW p l e R s m args below meth c E nL Q (mc + mc2) (ms + ms2) g2 n2 (pc + 3) lv (r.toList ++ st)) : AW p l e R s m args below meth c E nL Q mc ms g n pc lv st0 := by
  intro H locs ls hR hS hl
  have hts := S.1.2.2.2.2
  have cw : CallB R s args own i y cc2 nL2 ret2 (Cond.code y cc2 nL2 ret2 :: aw_tw) { frames := d2, cells := mc2, slots := ms2, locals := 40 * d2 } mc2 ms2 k ∧ (Cond.static y).before args s = true :=
    ⟨callB_of k hts (aw_good hB.1) rfl rfl rfl (hts _ hB.2.1) (hts _ hw) hB.2.2 hf, hts _ hI⟩
  exact aw_back hS hl (va_runS (g := F0 m pc ls st0) (rest := st) (As := As) S.1 hM cw ⟨aw_blind, aw_ready S hR hS _⟩ rfl hk hl.1 hst (lv_room hroom) hd hc) kk
theorem aw_callI (S : aw_C p s m args meth c E cc nL own ret) {y : MethodName} {cc2 : ByteArray} {nL2 d2 mc2 ms2 a k : Nat} {As : List Value} {Post : Option Value → AH → Nat → Prop} (hM : EV l E d2 mc2 ms2 y cc2 nL2 none g n (.ref a :: As) Post) (hB : aw_MB y cc2 nL2 none k) (hI : Cond.instanceMethod y ∈ aw_tw) (hy1 : y.name = "<init>") {i : Nat} (hw : Cond.methodLink own i y ∈ aw_tw) (hd : decode cc pc = .ok (.invokespecial i, 3))
    (hk : As.length = k) (hst : st0 = As.reverse ++ .ref a :: st) (hf : d2 + 1 ≤ R.frames ∧ 8 + (nL2 + 11) + 40 * d2 ≤ R.locals) (hroom : (st.map fun v => v.category).sum ≤ 8) (hc : mc + mc2 ≤ R.cells ∧ ms + ms2 ≤ R.slots)
    (kk : ∀ (r : Option Value) (g2 : AH) (n2 : Nat), Post r g2 n2 → AW p l e R s m args below meth c E nL Q (mc + mc2) (ms + ms2) g2 n2 (pc + 3) lv (r.toList ++ st)) : AW p l e R s m args below meth c E nL Q mc ms g n pc lv st0 := by
  intro H locs ls hR hS hl
  have hts := S.1.2.2.2.2
  have cw : CallB R s args own i y cc2 nL2 none (Cond.code y cc2 nL2 none :: aw_tw) { frames := d2, cells := mc2, slots := ms2, locals := 40 * d2 } mc2 ms2 k ∧ y.name = "<init>" ∧ (Cond.instanceMethod y).before args s = true :=
    ⟨callB_of k hts (aw_good hB.1) rfl rfl rfl (hts _ hB.2.1) (hts _ hw) hB.2.2 hf, hy1, hts _ hI⟩
  exact aw_back hS hl (va_runI (g := F0 m pc ls st0) (rest := st) (As := As) S.1 hM cw ⟨aw_blind, aw_ready S hR hS _⟩ rfl hk hl.1 hst (lv_room hroom) hd hc) kk
theorem aw_callSN (S : aw_C p s m args meth c E cc nL own ret) {y : MethodName} {host : String} {cc2 : ByteArray} {nL2 d2 mc2 ms2 k : Nat} {ret2 : Option FieldType} {As : List Value} {Post : Option Value → AH → Nat → Prop} (hM : EV l E d2 mc2 ms2 y cc2 nL2 ret2 g n As Post) (hB : aw_MB y cc2 nL2 ret2 k) (hI : Cond.static y ∈ aw_tw) {i : Nat} (hw : va_Nw (.methodLinkNest own i y host) s) (hd : decode cc pc = .ok (.invokestatic i, 3))
    (hk : As.length = k) (hst : st0 = As.reverse ++ st) (hf : d2 + 1 ≤ R.frames ∧ 8 + (nL2 + 11) + 40 * d2 ≤ R.locals) (hroom : (st.map fun v => v.category).sum ≤ 8) (hc : mc + mc2 ≤ R.cells ∧ ms + ms2 ≤ R.slots)
    (kk : ∀ (r : Option Value) (g2 : AH) (n2 : Nat), Post r g2 n2 → AW p l e R s m args below meth c E nL Q (mc + mc2) (ms + ms2) g2 n2 (pc + 3) lv (r.toList ++ st)) : AW p l e R s m args below meth c E nL Q mc ms g n pc lv st0 := by
  intro H locs ls hR hS hl
  have hts := S.1.2.2.2.2
  have cw := va_cnB (R := R) (s := s) (args := args) (own := own) (host := host) (index := i) (maxL := nL2) (mc := mc2) (ms := ms2) (y := y) (bytes := cc2) (ret := ret2) (rm := { frames := d2, cells := mc2, slots := ms2, locals := 40 * d2 }) k hts (aw_good hB.1) rfl rfl rfl hw (hts _ hB.2.1) hB.2.2 hf
  exact aw_back hS hl (va_runSN (g := F0 m pc ls st0) (rest := st) (As := As) S.1 hM ⟨cw, hts _ hI, trivial⟩ ⟨aw_blind, aw_ready S hR hS _⟩ rfl hk hl.1 hst (lv_room hroom) hd hc) kk
theorem aw_mmax (S : aw_C p s m args meth c E cc nL own ret) {i : Nat} (hw : Cond.methodLink own i Lib.Math.max.name ∈ aw_tw) (hw2 : Cond.static Lib.Math.max.name ∈ aw_tw) (hw3 : Cond.initialized "java/lang/Math" ∈ aw_tw) (hw4 : Cond.code Lib.Math.max.name Lib.Math.max.code 2 (some .int) ∈ aw_tw) (hf : 1 ≤ R.frames) (hlo : (st.map fun v => v.category).sum + 13 ≤ R.locals) (hc : mc ≤ R.cells) (hs : ms ≤ R.slots) {x y : Int32} (hd : decode cc pc = .ok (.invokestatic i, 3)) (kk : AW p l e R s m args below meth c E nL Q mc ms g n (pc + 3) lv (.int (if x < y then y else x) :: st)) : AW p l e R s m args below meth c E nL Q mc ms g n pc lv (.int y :: .int x :: st) := by
  intro H locs ls hR hS hl
  have hts := S.1.2.2.2.2
  exact va_mmax S.1.1 S.1.2.1 (S.1.2.2.1.trans hl.1.symm) S.1.2.2.2.1 (hts _ hw) (hts _ hw2) (hts _ hw3) (hts _ hw4) hf hlo hc hs hd (kk H locs ls hR hS hl)
theorem aw_mmin (S : aw_C p s m args meth c E cc nL own ret) {i : Nat} (hw : Cond.methodLink own i Lib.Math.min.name ∈ aw_tw) (hw2 : Cond.static Lib.Math.min.name ∈ aw_tw) (hw3 : Cond.initialized "java/lang/Math" ∈ aw_tw) (hw4 : Cond.code Lib.Math.min.name Lib.Math.min.code 2 (some .int) ∈ aw_tw) (hf : 1 ≤ R.frames) (hlo : (st.map fun v => v.category).sum + 13 ≤ R.locals) (hc : mc ≤ R.cells) (hs : ms ≤ R.slots) {x y : Int32} (hd : decode cc pc = .ok (.invokestatic i, 3)) (kk : AW p l e R s m args below meth c E nL Q mc ms g n (pc + 3) lv (.int (if y < x then y else x) :: st)) : AW p l e R s m args below meth c E nL Q mc ms g n pc lv (.int y :: .int x :: st) := by
  intro H locs ls hR hS hl
  have hts := S.1.2.2.2.2
  exact va_mmin S.1.1 S.1.2.1 (S.1.2.2.1.trans hl.1.symm) S.1.2.2.2.1 (hts _ hw) (hts _ hw2) (hts _ hw3) (hts _ hw4) hf hlo hc hs hd (kk H locs ls hR hS hl)
end AWCall
end
section
section AWCallT
variable {p : Program} {l : Launch} {e : Env} {R : Room} {s : State} {m : MethodId} {args : Array Value} {below : List Frame} {meth : Method} {c : Code} {E : aw_E} {cc : ByteArray} {nL : Nat} {own : String} {ret : Option FieldType} {Q : State → Prop} {mc ms : Nat} {g : AH} {n pc : Nat} {lv : List (Option Value)} {st st0 : List Value}
theorem aw_callViA (S : aw_C p s m args meth c E cc nL own ret) {y : MethodName} {cc2 : ByteArray} {nL2 d2 a k : Nat} {ret2 : Option FieldType} {As : List Value} {mc2 ms2 : Nat} (mc3 ms3 : Nat) {P : Int32 → AH → Nat → Prop} (hM : EV l E d2 mc2 ms2 y cc2 nL2 ret2 g n (.ref a :: As) (aw_Pi P)) (hB : aw_MB y cc2 nL2 ret2 k) (hI : Cond.instanceMethod y ∈ aw_tw ∧ Cond.selects y.cls y y ∈ aw_tw) {i : Nat} (hw : Cond.methodLink own i y ∈ aw_tw) (hd : decode cc pc = .ok (.invokevirtual i, 3)) {ci N : Nat} {C : String} {T : u_T} {ty : Nat → FieldType} (I : aw_CI ci C T N ty) {fs : List Value} (ha : g a = some (.inr (ci, fs))) (hC : C = y.cls) (hk : As.length = k) (hst : st0 = As.reverse ++ .ref a :: st) (kk : ∀ (v : Int32) (g2 : AH) (n2 : Nat), P v g2 n2 → AW p l e R s m args below meth c E nL Q mc3 ms3 g2 n2 (pc + 3) lv (.int v :: st)) (hm : mc + mc2 ≤ mc3 ∧ ms + ms2 ≤ ms3 ∧ mc3 ≤ R.cells ∧ ms3 ≤ R.slots := by decide) (hf : d2 + 1 ≤ R.frames ∧ 8 + (nL2 + 11) + 40 * d2 ≤ R.locals := by decide) (hroom : (st.map fun v => v.category).sum ≤ 8 := by exact Nat.le_of_ble_eq_true rfl) : AW p l e R s m args below meth c E nL Q mc ms g n pc lv st0 :=
  aw_callV S hM hB hI hw hd I ha hC hk hst hf hroom ⟨Nat.le_trans hm.1 hm.2.2.1, Nat.le_trans hm.2.1 hm.2.2.2⟩ (fun r g2 n2 h => by obtain ⟨v, rfl, h⟩ := h; exact aw_wide hm.1 hm.2.1 (kk v g2 n2 h))
theorem aw_callVi0 (S : aw_C p s m args meth c E cc nL own ret) {y : MethodName} {cc2 : ByteArray} {nL2 d2 a k : Nat} {ret2 : Option FieldType} {As : List Value} {P : Int32 → AH → Nat → Prop} (hM : EV l E d2 0 0 y cc2 nL2 ret2 g n (.ref a :: As) (aw_Pi P)) (hB : aw_MB y cc2 nL2 ret2 k) (hI : Cond.instanceMethod y ∈ aw_tw ∧ Cond.selects y.cls y y ∈ aw_tw) {i : Nat} (hw : Cond.methodLink own i y ∈ aw_tw) (hd : decode cc pc = .ok (.invokevirtual i, 3)) {ci N : Nat} {C : String} {T : u_T} {ty : Nat → FieldType} (I : aw_CI ci C T N ty) {fs : List Value} (ha : g a = some (.inr (ci, fs))) (hC : C = y.cls) (hk : As.length = k) (hst : st0 = As.reverse ++ .ref a :: st) (kk : ∀ (v : Int32) (g2 : AH) (n2 : Nat), P v g2 n2 → AW p l e R s m args below meth c E nL Q mc ms g2 n2 (pc + 3) lv (.int v :: st)) (hc : mc ≤ R.cells ∧ ms ≤ R.slots := by decide) (hf : d2 + 1 ≤ R.frames ∧ 8 + (nL2 + 11) + 40 * d2 ≤ R.locals := by decide) (hroom : (st.map fun v => v.category).sum ≤ 8 := by exact Nat.le_of_ble_eq_true rfl) : AW p l e R s m args below meth c E nL Q mc ms g n pc lv st0 :=
  aw_callV S hM hB hI hw hd I ha hC hk hst hf hroom hc (fun r g2 n2 h => by obtain ⟨v, rfl, h⟩ := h; exact kk v g2 n2 h)
theorem aw_callViR (S : aw_C p s m args meth c E cc nL own ret) {y : MethodName} {cc2 : ByteArray} {nL2 d2 a k : Nat} {ret2 : Option FieldType} {As : List Value} {V : Int32} (hM : EV l E d2 0 0 y cc2 nL2 ret2 g n (.ref a :: As) (aw_Pi (fun v g2 n2 => v = V ∧ g2 = g ∧ n2 = n))) (hB : aw_MB y cc2 nL2 ret2 k) (hI : Cond.instanceMethod y ∈ aw_tw ∧ Cond.selects y.cls y y ∈ aw_tw) {i : Nat} (hw : Cond.methodLink own i y ∈ aw_tw) (hd : decode cc pc = .ok (.invokevirtual i, 3)) {ci N : Nat} {C : String} {T : u_T} {ty : Nat → FieldType} (I : aw_CI ci C T N ty) {fs : List Value} (ha : g a = some (.inr (ci, fs))) (hC : C = y.cls) (hk : As.length = k) (hst : st0 = As.reverse ++ .ref a :: st) (kk : AW p l e R s m args below meth c E nL Q mc ms g n (pc + 3) lv (.int V :: st)) (hc : mc ≤ R.cells ∧ ms ≤ R.slots := by decide) (hf : d2 + 1 ≤ R.frames ∧ 8 + (nL2 + 11) + 40 * d2 ≤ R.locals := by decide) (hroom : (st.map fun v => v.category).sum ≤ 8 := by exact Nat.le_of_ble_eq_true rfl) : AW p l e R s m args below meth c E nL Q mc ms g n pc lv st0 :=
  aw_callVi0 S hM hB hI hw hd I ha hC hk hst (fun v g2 n2 h => by obtain ⟨rfl, rfl, rfl⟩ := h; exact kk) hc hf hroom
theorem aw_callVlA (S : aw_C p s m args meth c E cc nL own ret) {y : MethodName} {cc2 : ByteArray} {nL2 d2 a k : Nat} {ret2 : Option FieldType} {As : List Value} {mc2 ms2 : Nat} (mc3 ms3 : Nat) {P : Int64 → AH → Nat → Prop} (hM : EV l E d2 mc2 ms2 y cc2 nL2 ret2 g n (.ref a :: As) (aw_Pl P)) (hB : aw_MB y cc2 nL2 ret2 k) (hI : Cond.instanceMethod y ∈ aw_tw ∧ Cond.selects y.cls y y ∈ aw_tw) {i : Nat} (hw : Cond.methodLink own i y ∈ aw_tw) (hd : decode cc pc = .ok (.invokevirtual i, 3)) {ci N : Nat} {C : String} {T : u_T} {ty : Nat → FieldType} (I : aw_CI ci C T N ty) {fs : List Value} (ha : g a = some (.inr (ci, fs))) (hC : C = y.cls) (hk : As.length = k) (hst : st0 = As.reverse ++ .ref a :: st) (kk : ∀ (v : Int64) (g2 : AH) (n2 : Nat), P v g2 n2 → AW p l e R s m args below meth c E nL Q mc3 ms3 g2 n2 (pc + 3) lv (.long v :: st)) (hm : mc + mc2 ≤ mc3 ∧ ms + ms2 ≤ ms3 ∧ mc3 ≤ R.cells ∧ ms3 ≤ R.slots := by decide) (hf : d2 + 1 ≤ R.frames ∧ 8 + (nL2 + 11) + 40 * d2 ≤ R.locals := by decide) (hroom : (st.map fun v => v.category).sum ≤ 8 := by exact Nat.le_of_ble_eq_true rfl) : AW p l e R s m args below meth c E nL Q mc ms g n pc lv st0 :=
  aw_callV S hM hB hI hw hd I ha hC hk hst hf hroom ⟨Nat.le_trans hm.1 hm.2.2.1, Nat.le_trans hm.2.1 hm.2.2.2⟩ (fun r g2 n2 h => by obtain ⟨v, rfl, h⟩ := h; exact aw_wide hm.1 hm.2.1 (kk v g2 n2 h))
theorem aw_callVl0 (S : aw_C p s m args meth c E cc nL own ret) {y : MethodName} {cc2 : ByteArray} {nL2 d2 a k : Nat} {ret2 : Option FieldType} {As : List Value} {P : Int64 → AH → Nat → Prop} (hM : EV l E d2 0 0 y cc2 nL2 ret2 g n (.ref a :: As) (aw_Pl P)) (hB : aw_MB y cc2 nL2 ret2 k) (hI : Cond.instanceMethod y ∈ aw_tw ∧ Cond.selects y.cls y y ∈ aw_tw) {i : Nat} (hw : Cond.methodLink own i y ∈ aw_tw) (hd : decode cc pc = .ok (.invokevirtual i, 3)) {ci N : Nat} {C : String} {T : u_T} {ty : Nat → FieldType} (I : aw_CI ci C T N ty) {fs : List Value} (ha : g a = some (.inr (ci, fs))) (hC : C = y.cls) (hk : As.length = k) (hst : st0 = As.reverse ++ .ref a :: st) (kk : ∀ (v : Int64) (g2 : AH) (n2 : Nat), P v g2 n2 → AW p l e R s m args below meth c E nL Q mc ms g2 n2 (pc + 3) lv (.long v :: st)) (hc : mc ≤ R.cells ∧ ms ≤ R.slots := by decide) (hf : d2 + 1 ≤ R.frames ∧ 8 + (nL2 + 11) + 40 * d2 ≤ R.locals := by decide) (hroom : (st.map fun v => v.category).sum ≤ 8 := by exact Nat.le_of_ble_eq_true rfl) : AW p l e R s m args below meth c E nL Q mc ms g n pc lv st0 :=
  aw_callV S hM hB hI hw hd I ha hC hk hst hf hroom hc (fun r g2 n2 h => by obtain ⟨v, rfl, h⟩ := h; exact kk v g2 n2 h)
theorem aw_callVlR (S : aw_C p s m args meth c E cc nL own ret) {y : MethodName} {cc2 : ByteArray} {nL2 d2 a k : Nat} {ret2 : Option FieldType} {As : List Value} {V : Int64} (hM : EV l E d2 0 0 y cc2 nL2 ret2 g n (.ref a :: As) (aw_Pl (fun v g2 n2 => v = V ∧ g2 = g ∧ n2 = n))) (hB : aw_MB y cc2 nL2 ret2 k) (hI : Cond.instanceMethod y ∈ aw_tw ∧ Cond.selects y.cls y y ∈ aw_tw) {i : Nat} (hw : Cond.methodLink own i y ∈ aw_tw) (hd : decode cc pc = .ok (.invokevirtual i, 3)) {ci N : Nat} {C : String} {T : u_T} {ty : Nat → FieldType} (I : aw_CI ci C T N ty) {fs : List Value} (ha : g a = some (.inr (ci, fs))) (hC : C = y.cls) (hk : As.length = k) (hst : st0 = As.reverse ++ .ref a :: st) (kk : AW p l e R s m args below meth c E nL Q mc ms g n (pc + 3) lv (.long V :: st)) (hc : mc ≤ R.cells ∧ ms ≤ R.slots := by decide) (hf : d2 + 1 ≤ R.frames ∧ 8 + (nL2 + 11) + 40 * d2 ≤ R.locals := by decide) (hroom : (st.map fun v => v.category).sum ≤ 8 := by exact Nat.le_of_ble_eq_true rfl) : AW p l e R s m args below meth c E nL Q mc ms g n pc lv st0 :=
  aw_callVl0 S hM hB hI hw hd I ha hC hk hst (fun v g2 n2 h => by obtain ⟨rfl, rfl, rfl⟩ := h; exact kk) hc hf hroom
theorem aw_callVqA (S : aw_C p s m args meth c E cc nL own ret) {y : MethodName} {cc2 : ByteArray} {nL2 d2 a k : Nat} {ret2 : Option FieldType} {As : List Value} {mc2 ms2 : Nat} (mc3 ms3 : Nat) {P : Option Nat → AH → Nat → Prop} (hM : EV l E d2 mc2 ms2 y cc2 nL2 ret2 g n (.ref a :: As) (aw_Pq P)) (hB : aw_MB y cc2 nL2 ret2 k) (hI : Cond.instanceMethod y ∈ aw_tw ∧ Cond.selects y.cls y y ∈ aw_tw) {i : Nat} (hw : Cond.methodLink own i y ∈ aw_tw) (hd : decode cc pc = .ok (.invokevirtual i, 3)) {ci N : Nat} {C : String} {T : u_T} {ty : Nat → FieldType} (I : aw_CI ci C T N ty) {fs : List Value} (ha : g a = some (.inr (ci, fs))) (hC : C = y.cls) (hk : As.length = k) (hst : st0 = As.reverse ++ .ref a :: st) (kk : ∀ (v : Option Nat) (g2 : AH) (n2 : Nat), P v g2 n2 → AW p l e R s m args below meth c E nL Q mc3 ms3 g2 n2 (pc + 3) lv (va_rf v :: st)) (hm : mc + mc2 ≤ mc3 ∧ ms + ms2 ≤ ms3 ∧ mc3 ≤ R.cells ∧ ms3 ≤ R.slots := by decide) (hf : d2 + 1 ≤ R.frames ∧ 8 + (nL2 + 11) + 40 * d2 ≤ R.locals := by decide) (hroom : (st.map fun v => v.category).sum ≤ 8 := by exact Nat.le_of_ble_eq_true rfl) : AW p l e R s m args below meth c E nL Q mc ms g n pc lv st0 :=
  aw_callV S hM hB hI hw hd I ha hC hk hst hf hroom ⟨Nat.le_trans hm.1 hm.2.2.1, Nat.le_trans hm.2.1 hm.2.2.2⟩ (fun r g2 n2 h => by obtain ⟨v, rfl, h⟩ := h; exact aw_wide hm.1 hm.2.1 (kk v g2 n2 h))
theorem aw_callVq0 (S : aw_C p s m args meth c E cc nL own ret) {y : MethodName} {cc2 : ByteArray} {nL2 d2 a k : Nat} {ret2 : Option FieldType} {As : List Value} {P : Option Nat → AH → Nat → Prop} (hM : EV l E d2 0 0 y cc2 nL2 ret2 g n (.ref a :: As) (aw_Pq P)) (hB : aw_MB y cc2 nL2 ret2 k) (hI : Cond.instanceMethod y ∈ aw_tw ∧ Cond.selects y.cls y y ∈ aw_tw) {i : Nat} (hw : Cond.methodLink own i y ∈ aw_tw) (hd : decode cc pc = .ok (.invokevirtual i, 3)) {ci N : Nat} {C : String} {T : u_T} {ty : Nat → FieldType} (I : aw_CI ci C T N ty) {fs : List Value} (ha : g a = some (.inr (ci, fs))) (hC : C = y.cls) (hk : As.length = k) (hst : st0 = As.reverse ++ .ref a :: st) (kk : ∀ (v : Option Nat) (g2 : AH) (n2 : Nat), P v g2 n2 → AW p l e R s m args below meth c E nL Q mc ms g2 n2 (pc + 3) lv (va_rf v :: st)) (hc : mc ≤ R.cells ∧ ms ≤ R.slots := by decide) (hf : d2 + 1 ≤ R.frames ∧ 8 + (nL2 + 11) + 40 * d2 ≤ R.locals := by decide) (hroom : (st.map fun v => v.category).sum ≤ 8 := by exact Nat.le_of_ble_eq_true rfl) : AW p l e R s m args below meth c E nL Q mc ms g n pc lv st0 :=
  aw_callV S hM hB hI hw hd I ha hC hk hst hf hroom hc (fun r g2 n2 h => by obtain ⟨v, rfl, h⟩ := h; exact kk v g2 n2 h)
theorem aw_callVqR (S : aw_C p s m args meth c E cc nL own ret) {y : MethodName} {cc2 : ByteArray} {nL2 d2 a k : Nat} {ret2 : Option FieldType} {As : List Value} {V : Option Nat} (hM : EV l E d2 0 0 y cc2 nL2 ret2 g n (.ref a :: As) (aw_Pq (fun v g2 n2 => v = V ∧ g2 = g ∧ n2 = n))) (hB : aw_MB y cc2 nL2 ret2 k) (hI : Cond.instanceMethod y ∈ aw_tw ∧ Cond.selects y.cls y y ∈ aw_tw) {i : Nat} (hw : Cond.methodLink own i y ∈ aw_tw) (hd : decode cc pc = .ok (.invokevirtual i, 3)) {ci N : Nat} {C : String} {T : u_T} {ty : Nat → FieldType} (I : aw_CI ci C T N ty) {fs : List Value} (ha : g a = some (.inr (ci, fs))) (hC : C = y.cls) (hk : As.length = k) (hst : st0 = As.reverse ++ .ref a :: st) (kk : AW p l e R s m args below meth c E nL Q mc ms g n (pc + 3) lv (va_rf V :: st)) (hc : mc ≤ R.cells ∧ ms ≤ R.slots := by decide) (hf : d2 + 1 ≤ R.frames ∧ 8 + (nL2 + 11) + 40 * d2 ≤ R.locals := by decide) (hroom : (st.map fun v => v.category).sum ≤ 8 := by exact Nat.le_of_ble_eq_true rfl) : AW p l e R s m args below meth c E nL Q mc ms g n pc lv st0 :=
  aw_callVq0 S hM hB hI hw hd I ha hC hk hst (fun v g2 n2 h => by obtain ⟨rfl, rfl, rfl⟩ := h; exact kk) hc hf hroom
theorem aw_callVvA (S : aw_C p s m args meth c E cc nL own ret) {y : MethodName} {cc2 : ByteArray} {nL2 d2 a k : Nat} {ret2 : Option FieldType} {As : List Value} {mc2 ms2 : Nat} (mc3 ms3 : Nat) {P : AH → Nat → Prop} (hM : EV l E d2 mc2 ms2 y cc2 nL2 ret2 g n (.ref a :: As) (aw_Pv P)) (hB : aw_MB y cc2 nL2 ret2 k) (hI : Cond.instanceMethod y ∈ aw_tw ∧ Cond.selects y.cls y y ∈ aw_tw) {i : Nat} (hw : Cond.methodLink own i y ∈ aw_tw) (hd : decode cc pc = .ok (.invokevirtual i, 3)) {ci N : Nat} {C : String} {T : u_T} {ty : Nat → FieldType} (I : aw_CI ci C T N ty) {fs : List Value} (ha : g a = some (.inr (ci, fs))) (hC : C = y.cls) (hk : As.length = k) (hst : st0 = As.reverse ++ .ref a :: st) (kk : ∀ (g2 : AH) (n2 : Nat), P g2 n2 → AW p l e R s m args below meth c E nL Q mc3 ms3 g2 n2 (pc + 3) lv st) (hm : mc + mc2 ≤ mc3 ∧ ms + ms2 ≤ ms3 ∧ mc3 ≤ R.cells ∧ ms3 ≤ R.slots := by decide) (hf : d2 + 1 ≤ R.frames ∧ 8 + (nL2 + 11) + 40 * d2 ≤ R.locals := by decide) (hroom : (st.map fun v => v.category).sum ≤ 8 := by exact Nat.le_of_ble_eq_true rfl) : AW p l e R s m args below meth c E nL Q mc ms g n pc lv st0 :=
  aw_callV S hM hB hI hw hd I ha hC hk hst hf hroom ⟨Nat.le_trans hm.1 hm.2.2.1, Nat.le_trans hm.2.1 hm.2.2.2⟩ (fun r g2 n2 h => by obtain ⟨rfl, h⟩ := h; exact aw_wide hm.1 hm.2.1 (kk g2 n2 h))
theorem aw_callVv0 (S : aw_C p s m args meth c E cc nL own ret) {y : MethodName} {cc2 : ByteArray} {nL2 d2 a k : Nat} {ret2 : Option FieldType} {As : List Value} {P : AH → Nat → Prop} (hM : EV l E d2 0 0 y cc2 nL2 ret2 g n (.ref a :: As) (aw_Pv P)) (hB : aw_MB y cc2 nL2 ret2 k) (hI : Cond.instanceMethod y ∈ aw_tw ∧ Cond.selects y.cls y y ∈ aw_tw) {i : Nat} (hw : Cond.methodLink own i y ∈ aw_tw) (hd : decode cc pc = .ok (.invokevirtual i, 3)) {ci N : Nat} {C : String} {T : u_T} {ty : Nat → FieldType} (I : aw_CI ci C T N ty) {fs : List Value} (ha : g a = some (.inr (ci, fs))) (hC : C = y.cls) (hk : As.length = k) (hst : st0 = As.reverse ++ .ref a :: st) (kk : ∀ (g2 : AH) (n2 : Nat), P g2 n2 → AW p l e R s m args below meth c E nL Q mc ms g2 n2 (pc + 3) lv st) (hc : mc ≤ R.cells ∧ ms ≤ R.slots := by decide) (hf : d2 + 1 ≤ R.frames ∧ 8 + (nL2 + 11) + 40 * d2 ≤ R.locals := by decide) (hroom : (st.map fun v => v.category).sum ≤ 8 := by exact Nat.le_of_ble_eq_true rfl) : AW p l e R s m args below meth c E nL Q mc ms g n pc lv st0 :=
  aw_callV S hM hB hI hw hd I ha hC hk hst hf hroom hc (fun r g2 n2 h => by obtain ⟨rfl, h⟩ := h; exact kk g2 n2 h)
theorem aw_callSiA (S : aw_C p s m args meth c E cc nL own ret) {y : MethodName} {cc2 : ByteArray} {nL2 d2 k : Nat} {ret2 : Option FieldType} {As : List Value} {mc2 ms2 : Nat} (mc3 ms3 : Nat) {P : Int32 → AH → Nat → Prop} (hM : EV l E d2 mc2 ms2 y cc2 nL2 ret2 g n As (aw_Pi P)) (hB : aw_MB y cc2 nL2 ret2 k) (hI : Cond.static y ∈ aw_tw) {i : Nat} (hw : Cond.methodLink own i y ∈ aw_tw) (hd : decode cc pc = .ok (.invokestatic i, 3)) (hk : As.length = k) (hst : st0 = As.reverse ++ st) (kk : ∀ (v : Int32) (g2 : AH) (n2 : Nat), P v g2 n2 → AW p l e R s m args below meth c E nL Q mc3 ms3 g2 n2 (pc + 3) lv (.int v :: st)) (hm : mc + mc2 ≤ mc3 ∧ ms + ms2 ≤ ms3 ∧ mc3 ≤ R.cells ∧ ms3 ≤ R.slots := by decide) (hf : d2 + 1 ≤ R.frames ∧ 8 + (nL2 + 11) + 40 * d2 ≤ R.locals := by decide) (hroom : (st.map fun v => v.category).sum ≤ 8 := by exact Nat.le_of_ble_eq_true rfl) : AW p l e R s m args below meth c E nL Q mc ms g n pc lv st0 :=
  aw_callS S hM hB hI hw hd hk hst hf hroom ⟨Nat.le_trans hm.1 hm.2.2.1, Nat.le_trans hm.2.1 hm.2.2.2⟩ (fun r g2 n2 h => by obtain ⟨v, rfl, h⟩ := h; exact aw_wide hm.1 hm.2.1 (kk v g2 n2 h))
theorem aw_callSi0 (S : aw_C p s m args meth c E cc nL own ret) {y : MethodName} {cc2 : ByteArray} {nL2 d2 k : Nat} {ret2 : Option FieldType} {As : List Value} {P : Int32 → AH → Nat → Prop} (hM : EV l E d2 0 0 y cc2 nL2 ret2 g n As (aw_Pi P)) (hB : aw_MB y cc2 nL2 ret2 k) (hI : Cond.static y ∈ aw_tw) {i : Nat} (hw : Cond.methodLink own i y ∈ aw_tw) (hd : decode cc pc = .ok (.invokestatic i, 3)) (hk : As.length = k) (hst : st0 = As.reverse ++ st) (kk : ∀ (v : Int32) (g2 : AH) (n2 : Nat), P v g2 n2 → AW p l e R s m args below meth c E nL Q mc ms g2 n2 (pc + 3) lv (.int v :: st)) (hc : mc ≤ R.cells ∧ ms ≤ R.slots := by decide) (hf : d2 + 1 ≤ R.frames ∧ 8 + (nL2 + 11) + 40 * d2 ≤ R.locals := by decide) (hroom : (st.map fun v => v.category).sum ≤ 8 := by exact Nat.le_of_ble_eq_true rfl) : AW p l e R s m args below meth c E nL Q mc ms g n pc lv st0 :=
  aw_callS S hM hB hI hw hd hk hst hf hroom hc (fun r g2 n2 h => by obtain ⟨v, rfl, h⟩ := h; exact kk v g2 n2 h)
theorem aw_callSiR (S : aw_C p s m args meth c E cc nL own ret) {y : MethodName} {cc2 : ByteArray} {nL2 d2 k : Nat} {ret2 : Option FieldType} {As : List Value} {V : Int32} (hM : EV l E d2 0 0 y cc2 nL2 ret2 g n As (aw_Pi (fun v g2 n2 => v = V ∧ g2 = g ∧ n2 = n))) (hB : aw_MB y cc2 nL2 ret2 k) (hI : Cond.static y ∈ aw_tw) {i : Nat} (hw : Cond.methodLink own i y ∈ aw_tw) (hd : decode cc pc = .ok (.invokestatic i, 3)) (hk : As.length = k) (hst : st0 = As.reverse ++ st) (kk : AW p l e R s m args below meth c E nL Q mc ms g n (pc + 3) lv (.int V :: st)) (hc : mc ≤ R.cells ∧ ms ≤ R.slots := by decide) (hf : d2 + 1 ≤ R.frames ∧ 8 + (nL2 + 11) + 40 * d2 ≤ R.locals := by decide) (hroom : (st.map fun v => v.category).sum ≤ 8 := by exact Nat.le_of_ble_eq_true rfl) : AW p l e R s m args below meth c E nL Q mc ms g n pc lv st0 :=
  aw_callSi0 S hM hB hI hw hd hk hst (fun v g2 n2 h => by obtain ⟨rfl, rfl, rfl⟩ := h; exact kk) hc hf hroom
theorem aw_callSlA (S : aw_C p s m args meth c E cc nL own ret) {y : MethodName} {cc2 : ByteArray} {nL2 d2 k : Nat} {ret2 : Option FieldType} {As : List Value} {mc2 ms2 : Nat} (mc3 ms3 : Nat) {P : Int64 → AH → Nat → Prop} (hM : EV l E d2 mc2 ms2 y cc2 nL2 ret2 g n As (aw_Pl P)) (hB : aw_MB y cc2 nL2 ret2 k) (hI : Cond.static y ∈ aw_tw) {i : Nat} (hw : Cond.methodLink own i y ∈ aw_tw) (hd : decode cc pc = .ok (.invokestatic i, 3)) (hk : As.length = k) (hst : st0 = As.reverse ++ st) (kk : ∀ (v : Int64) (g2 : AH) (n2 : Nat), P v g2 n2 → AW p l e R s m args below meth c E nL Q mc3 ms3 g2 n2 (pc + 3) lv (.long v :: st)) (hm : mc + mc2 ≤ mc3 ∧ ms + ms2 ≤ ms3 ∧ mc3 ≤ R.cells ∧ ms3 ≤ R.slots := by decide) (hf : d2 + 1 ≤ R.frames ∧ 8 + (nL2 + 11) + 40 * d2 ≤ R.locals := by decide) (hroom : (st.map fun v => v.category).sum ≤ 8 := by exact Nat.le_of_ble_eq_true rfl) : AW p l e R s m args below meth c E nL Q mc ms g n pc lv st0 :=
  aw_callS S hM hB hI hw hd hk hst hf hroom ⟨Nat.le_trans hm.1 hm.2.2.1, Nat.le_trans hm.2.1 hm.2.2.2⟩ (fun r g2 n2 h => by obtain ⟨v, rfl, h⟩ := h; exact aw_wide hm.1 hm.2.1 (kk v g2 n2 h))
theorem aw_callSl0 (S : aw_C p s m args meth c E cc nL own ret) {y : MethodName} {cc2 : ByteArray} {nL2 d2 k : Nat} {ret2 : Option FieldType} {As : List Value} {P : Int64 → AH → Nat → Prop} (hM : EV l E d2 0 0 y cc2 nL2 ret2 g n As (aw_Pl P)) (hB : aw_MB y cc2 nL2 ret2 k) (hI : Cond.static y ∈ aw_tw) {i : Nat} (hw : Cond.methodLink own i y ∈ aw_tw) (hd : decode cc pc = .ok (.invokestatic i, 3)) (hk : As.length = k) (hst : st0 = As.reverse ++ st) (kk : ∀ (v : Int64) (g2 : AH) (n2 : Nat), P v g2 n2 → AW p l e R s m args below meth c E nL Q mc ms g2 n2 (pc + 3) lv (.long v :: st)) (hc : mc ≤ R.cells ∧ ms ≤ R.slots := by decide) (hf : d2 + 1 ≤ R.frames ∧ 8 + (nL2 + 11) + 40 * d2 ≤ R.locals := by decide) (hroom : (st.map fun v => v.category).sum ≤ 8 := by exact Nat.le_of_ble_eq_true rfl) : AW p l e R s m args below meth c E nL Q mc ms g n pc lv st0 :=
  aw_callS S hM hB hI hw hd hk hst hf hroom hc (fun r g2 n2 h => by obtain ⟨v, rfl, h⟩ := h; exact kk v g2 n2 h)
theorem aw_callSlR (S : aw_C p s m args meth c E cc nL own ret) {y : MethodName} {cc2 : ByteArray} {nL2 d2 k : Nat} {ret2 : Option FieldType} {As : List Value} {V : Int64} (hM : EV l E d2 0 0 y cc2 nL2 ret2 g n As (aw_Pl (fun v g2 n2 => v = V ∧ g2 = g ∧ n2 = n))) (hB : aw_MB y cc2 nL2 ret2 k) (hI : Cond.static y ∈ aw_tw) {i : Nat} (hw : Cond.methodLink own i y ∈ aw_tw) (hd : decode cc pc = .ok (.invokestatic i, 3)) (hk : As.length = k) (hst : st0 = As.reverse ++ st) (kk : AW p l e R s m args below meth c E nL Q mc ms g n (pc + 3) lv (.long V :: st)) (hc : mc ≤ R.cells ∧ ms ≤ R.slots := by decide) (hf : d2 + 1 ≤ R.frames ∧ 8 + (nL2 + 11) + 40 * d2 ≤ R.locals := by decide) (hroom : (st.map fun v => v.category).sum ≤ 8 := by exact Nat.le_of_ble_eq_true rfl) : AW p l e R s m args below meth c E nL Q mc ms g n pc lv st0 :=
  aw_callSl0 S hM hB hI hw hd hk hst (fun v g2 n2 h => by obtain ⟨rfl, rfl, rfl⟩ := h; exact kk) hc hf hroom
theorem aw_callSqA (S : aw_C p s m args meth c E cc nL own ret) {y : MethodName} {cc2 : ByteArray} {nL2 d2 k : Nat} {ret2 : Option FieldType} {As : List Value} {mc2 ms2 : Nat} (mc3 ms3 : Nat) {P : Option Nat → AH → Nat → Prop} (hM : EV l E d2 mc2 ms2 y cc2 nL2 ret2 g n As (aw_Pq P)) (hB : aw_MB y cc2 nL2 ret2 k) (hI : Cond.static y ∈ aw_tw) {i : Nat} (hw : Cond.methodLink own i y ∈ aw_tw) (hd : decode cc pc = .ok (.invokestatic i, 3)) (hk : As.length = k) (hst : st0 = As.reverse ++ st) (kk : ∀ (v : Option Nat) (g2 : AH) (n2 : Nat), P v g2 n2 → AW p l e R s m args below meth c E nL Q mc3 ms3 g2 n2 (pc + 3) lv (va_rf v :: st)) (hm : mc + mc2 ≤ mc3 ∧ ms + ms2 ≤ ms3 ∧ mc3 ≤ R.cells ∧ ms3 ≤ R.slots := by decide) (hf : d2 + 1 ≤ R.frames ∧ 8 + (nL2 + 11) + 40 * d2 ≤ R.locals := by decide) (hroom : (st.map fun v => v.category).sum ≤ 8 := by exact Nat.le_of_ble_eq_true rfl) : AW p l e R s m args below meth c E nL Q mc ms g n pc lv st0 :=
  aw_callS S hM hB hI hw hd hk hst hf hroom ⟨Nat.le_trans hm.1 hm.2.2.1, Nat.le_trans hm.2.1 hm.2.2.2⟩ (fun r g2 n2 h => by obtain ⟨v, rfl, h⟩ := h; exact aw_wide hm.1 hm.2.1 (kk v g2 n2 h))
theorem aw_callSq0 (S : aw_C p s m args meth c E cc nL own ret) {y : MethodName} {cc2 : ByteArray} {nL2 d2 k : Nat} {ret2 : Option FieldType} {As : List Value} {P : Option Nat → AH → Nat → Prop} (hM : EV l E d2 0 0 y cc2 nL2 ret2 g n As (aw_Pq P)) (hB : aw_MB y cc2 nL2 ret2 k) (hI : Cond.static y ∈ aw_tw) {i : Nat} (hw : Cond.methodLink own i y ∈ aw_tw) (hd : decode cc pc = .ok (.invokestatic i, 3)) (hk : As.length = k) (hst : st0 = As.reverse ++ st) (kk : ∀ (v : Option Nat) (g2 : AH) (n2 : Nat), P v g2 n2 → AW p l e R s m args below meth c E nL Q mc ms g2 n2 (pc + 3) lv (va_rf v :: st)) (hc : mc ≤ R.cells ∧ ms ≤ R.slots := by decide) (hf : d2 + 1 ≤ R.frames ∧ 8 + (nL2 + 11) + 40 * d2 ≤ R.locals := by decide) (hroom : (st.map fun v => v.category).sum ≤ 8 := by exact Nat.le_of_ble_eq_true rfl) : AW p l e R s m args below meth c E nL Q mc ms g n pc lv st0 :=
  aw_callS S hM hB hI hw hd hk hst hf hroom hc (fun r g2 n2 h => by obtain ⟨v, rfl, h⟩ := h; exact kk v g2 n2 h)
theorem aw_callSqR (S : aw_C p s m args meth c E cc nL own ret) {y : MethodName} {cc2 : ByteArray} {nL2 d2 k : Nat} {ret2 : Option FieldType} {As : List Value} {V : Option Nat} (hM : EV l E d2 0 0 y cc2 nL2 ret2 g n As (aw_Pq (fun v g2 n2 => v = V ∧ g2 = g ∧ n2 = n))) (hB : aw_MB y cc2 nL2 ret2 k) (hI : Cond.static y ∈ aw_tw) {i : Nat} (hw : Cond.methodLink own i y ∈ aw_tw) (hd : decode cc pc = .ok (.invokestatic i, 3)) (hk : As.length = k) (hst : st0 = As.reverse ++ st) (kk : AW p l e R s m args below meth c E nL Q mc ms g n (pc + 3) lv (va_rf V :: st)) (hc : mc ≤ R.cells ∧ ms ≤ R.slots := by decide) (hf : d2 + 1 ≤ R.frames ∧ 8 + (nL2 + 11) + 40 * d2 ≤ R.locals := by decide) (hroom : (st.map fun v => v.category).sum ≤ 8 := by exact Nat.le_of_ble_eq_true rfl) : AW p l e R s m args below meth c E nL Q mc ms g n pc lv st0 :=
  aw_callSq0 S hM hB hI hw hd hk hst (fun v g2 n2 h => by obtain ⟨rfl, rfl, rfl⟩ := h; exact kk) hc hf hroom
theorem aw_callSvA (S : aw_C p s m args meth c E cc nL own ret) {y : MethodName} {cc2 : ByteArray} {nL2 d2 k : Nat} {ret2 : Option FieldType} {As : List Value} {mc2 ms2 : Nat} (mc3 ms3 : Nat) {P : AH → Nat → Prop} (hM : EV l E d2 mc2 ms2 y cc2 nL2 ret2 g n As (aw_Pv P)) (hB : aw_MB y cc2 nL2 ret2 k) (hI : Cond.static y ∈ aw_tw) {i : Nat} (hw : Cond.methodLink own i y ∈ aw_tw) (hd : decode cc pc = .ok (.invokestatic i, 3)) (hk : As.length = k) (hst : st0 = As.reverse ++ st) (kk : ∀ (g2 : AH) (n2 : Nat), P g2 n2 → AW p l e R s m args below meth c E nL Q mc3 ms3 g2 n2 (pc + 3) lv st) (hm : mc + mc2 ≤ mc3 ∧ ms + ms2 ≤ ms3 ∧ mc3 ≤ R.cells ∧ ms3 ≤ R.slots := by decide) (hf : d2 + 1 ≤ R.frames ∧ 8 + (nL2 + 11) + 40 * d2 ≤ R.locals := by decide) (hroom : (st.map fun v => v.category).sum ≤ 8 := by exact Nat.le_of_ble_eq_true rfl) : AW p l e R s m args below meth c E nL Q mc ms g n pc lv st0 :=
  aw_callS S hM hB hI hw hd hk hst hf hroom ⟨Nat.le_trans hm.1 hm.2.2.1, Nat.le_trans hm.2.1 hm.2.2.2⟩ (fun r g2 n2 h => by obtain ⟨rfl, h⟩ := h; exact aw_wide hm.1 hm.2.1 (kk g2 n2 h))
theorem aw_callSv0 (S : aw_C p s m args meth c E cc nL own ret) {y : MethodName} {cc2 : ByteArray} {nL2 d2 k : Nat} {ret2 : Option FieldType} {As : List Value} {P : AH → Nat → Prop} (hM : EV l E d2 0 0 y cc2 nL2 ret2 g n As (aw_Pv P)) (hB : aw_MB y cc2 nL2 ret2 k) (hI : Cond.static y ∈ aw_tw) {i : Nat} (hw : Cond.methodLink own i y ∈ aw_tw) (hd : decode cc pc = .ok (.invokestatic i, 3)) (hk : As.length = k) (hst : st0 = As.reverse ++ st) (kk : ∀ (g2 : AH) (n2 : Nat), P g2 n2 → AW p l e R s m args below meth c E nL Q mc ms g2 n2 (pc + 3) lv st) (hc : mc ≤ R.cells ∧ ms ≤ R.slots := by decide) (hf : d2 + 1 ≤ R.frames ∧ 8 + (nL2 + 11) + 40 * d2 ≤ R.locals := by decide) (hroom : (st.map fun v => v.category).sum ≤ 8 := by exact Nat.le_of_ble_eq_true rfl) : AW p l e R s m args below meth c E nL Q mc ms g n pc lv st0 :=
  aw_callS S hM hB hI hw hd hk hst hf hroom hc (fun r g2 n2 h => by obtain ⟨rfl, h⟩ := h; exact kk g2 n2 h)
theorem aw_callSNiA (S : aw_C p s m args meth c E cc nL own ret) {y : MethodName} {host : String} {cc2 : ByteArray} {nL2 d2 k : Nat} {ret2 : Option FieldType} {As : List Value} {mc2 ms2 : Nat} (mc3 ms3 : Nat) {P : Int32 → AH → Nat → Prop} (hM : EV l E d2 mc2 ms2 y cc2 nL2 ret2 g n As (aw_Pi P)) (hB : aw_MB y cc2 nL2 ret2 k) (hI : Cond.static y ∈ aw_tw) {i : Nat} (hw : va_Nw (.methodLinkNest own i y host) s) (hd : decode cc pc = .ok (.invokestatic i, 3)) (hk : As.length = k) (hst : st0 = As.reverse ++ st) (kk : ∀ (v : Int32) (g2 : AH) (n2 : Nat), P v g2 n2 → AW p l e R s m args below meth c E nL Q mc3 ms3 g2 n2 (pc + 3) lv (.int v :: st)) (hm : mc + mc2 ≤ mc3 ∧ ms + ms2 ≤ ms3 ∧ mc3 ≤ R.cells ∧ ms3 ≤ R.slots := by decide) (hf : d2 + 1 ≤ R.frames ∧ 8 + (nL2 + 11) + 40 * d2 ≤ R.locals := by decide) (hroom : (st.map fun v => v.category).sum ≤ 8 := by exact Nat.le_of_ble_eq_true rfl) : AW p l e R s m args below meth c E nL Q mc ms g n pc lv st0 :=
  aw_callSN S hM hB hI hw hd hk hst hf hroom ⟨Nat.le_trans hm.1 hm.2.2.1, Nat.le_trans hm.2.1 hm.2.2.2⟩ (fun r g2 n2 h => by obtain ⟨v, rfl, h⟩ := h; exact aw_wide hm.1 hm.2.1 (kk v g2 n2 h))
theorem aw_callSNi0 (S : aw_C p s m args meth c E cc nL own ret) {y : MethodName} {host : String} {cc2 : ByteArray} {nL2 d2 k : Nat} {ret2 : Option FieldType} {As : List Value} {P : Int32 → AH → Nat → Prop} (hM : EV l E d2 0 0 y cc2 nL2 ret2 g n As (aw_Pi P)) (hB : aw_MB y cc2 nL2 ret2 k) (hI : Cond.static y ∈ aw_tw) {i : Nat} (hw : va_Nw (.methodLinkNest own i y host) s) (hd : decode cc pc = .ok (.invokestatic i, 3)) (hk : As.length = k) (hst : st0 = As.reverse ++ st) (kk : ∀ (v : Int32) (g2 : AH) (n2 : Nat), P v g2 n2 → AW p l e R s m args below meth c E nL Q mc ms g2 n2 (pc + 3) lv (.int v :: st)) (hc : mc ≤ R.cells ∧ ms ≤ R.slots := by decide) (hf : d2 + 1 ≤ R.frames ∧ 8 + (nL2 + 11) + 40 * d2 ≤ R.locals := by decide) (hroom : (st.map fun v => v.category).sum ≤ 8 := by exact Nat.le_of_ble_eq_true rfl) : AW p l e R s m args below meth c E nL Q mc ms g n pc lv st0 :=
  aw_callSN S hM hB hI hw hd hk hst hf hroom hc (fun r g2 n2 h => by obtain ⟨v, rfl, h⟩ := h; exact kk v g2 n2 h)
theorem aw_callSNiR (S : aw_C p s m args meth c E cc nL own ret) {y : MethodName} {host : String} {cc2 : ByteArray} {nL2 d2 k : Nat} {ret2 : Option FieldType} {As : List Value} {V : Int32} (hM : EV l E d2 0 0 y cc2 nL2 ret2 g n As (aw_Pi (fun v g2 n2 => v = V ∧ g2 = g ∧ n2 = n))) (hB : aw_MB y cc2 nL2 ret2 k) (hI : Cond.static y ∈ aw_tw) {i : Nat} (hw : va_Nw (.methodLinkNest own i y host) s) (hd : decode cc pc = .ok (.invokestatic i, 3)) (hk : As.length = k) (hst : st0 = As.reverse ++ st) (kk : AW p l e R s m args below meth c E nL Q mc ms g n (pc + 3) lv (.int V :: st)) (hc : mc ≤ R.cells ∧ ms ≤ R.slots := by decide) (hf : d2 + 1 ≤ R.frames ∧ 8 + (nL2 + 11) + 40 * d2 ≤ R.locals := by decide) (hroom : (st.map fun v => v.category).sum ≤ 8 := by exact Nat.le_of_ble_eq_true rfl) : AW p l e R s m args below meth c E nL Q mc ms g n pc lv st0 :=
  aw_callSNi0 S hM hB hI hw hd hk hst (fun v g2 n2 h => by obtain ⟨rfl, rfl, rfl⟩ := h; exact kk) hc hf hroom
theorem aw_callSNlA (S : aw_C p s m args meth c E cc nL own ret) {y : MethodName} {host : String} {cc2 : ByteArray} {nL2 d2 k : Nat} {ret2 : Option FieldType} {As : List Value} {mc2 ms2 : Nat} (mc3 ms3 : Nat) {P : Int64 → AH → Nat → Prop} (hM : EV l E d2 mc2 ms2 y cc2 nL2 ret2 g n As (aw_Pl P)) (hB : aw_MB y cc2 nL2 ret2 k) (hI : Cond.static y ∈ aw_tw) {i : Nat} (hw : va_Nw (.methodLinkNest own i y host) s) (hd : decode cc pc = .ok (.invokestatic i, 3)) (hk : As.length = k) (hst : st0 = As.reverse ++ st) (kk : ∀ (v : Int64) (g2 : AH) (n2 : Nat), P v g2 n2 → AW p l e R s m args below meth c E nL Q mc3 ms3 g2 n2 (pc + 3) lv (.long v :: st)) (hm : mc + mc2 ≤ mc3 ∧ ms + ms2 ≤ ms3 ∧ mc3 ≤ R.cells ∧ ms3 ≤ R.slots := by decide) (hf : d2 + 1 ≤ R.frames ∧ 8 + (nL2 + 11) + 40 * d2 ≤ R.locals := by decide) (hroom : (st.map fun v => v.category).sum ≤ 8 := by exact Nat.le_of_ble_eq_true rfl) : AW p l e R s m args below meth c E nL Q mc ms g n pc lv st0 :=
  aw_callSN S hM hB hI hw hd hk hst hf hroom ⟨Nat.le_trans hm.1 hm.2.2.1, Nat.le_trans hm.2.1 hm.2.2.2⟩ (fun r g2 n2 h => by obtain ⟨v, rfl, h⟩ := h; exact aw_wide hm.1 hm.2.1 (kk v g2 n2 h))
theorem aw_callSNl0 (S : aw_C p s m args meth c E cc nL own ret) {y : MethodName} {host : String} {cc2 : ByteArray} {nL2 d2 k : Nat} {ret2 : Option FieldType} {As : List Value} {P : Int64 → AH → Nat → Prop} (hM : EV l E d2 0 0 y cc2 nL2 ret2 g n As (aw_Pl P)) (hB : aw_MB y cc2 nL2 ret2 k) (hI : Cond.static y ∈ aw_tw) {i : Nat} (hw : va_Nw (.methodLinkNest own i y host) s) (hd : decode cc pc = .ok (.invokestatic i, 3)) (hk : As.length = k) (hst : st0 = As.reverse ++ st) (kk : ∀ (v : Int64) (g2 : AH) (n2 : Nat), P v g2 n2 → AW p l e R s m args below meth c E nL Q mc ms g2 n2 (pc + 3) lv (.long v :: st)) (hc : mc ≤ R.cells ∧ ms ≤ R.slots := by decide) (hf : d2 + 1 ≤ R.frames ∧ 8 + (nL2 + 11) + 40 * d2 ≤ R.locals := by decide) (hroom : (st.map fun v => v.category).sum ≤ 8 := by exact Nat.le_of_ble_eq_true rfl) : AW p l e R s m args below meth c E nL Q mc ms g n pc lv st0 :=
  aw_callSN S hM hB hI hw hd hk hst hf hroom hc (fun r g2 n2 h => by obtain ⟨v, rfl, h⟩ := h; exact kk v g2 n2 h)
theorem aw_callSNlR (S : aw_C p s m args meth c E cc nL own ret) {y : MethodName} {host : String} {cc2 : ByteArray} {nL2 d2 k : Nat} {ret2 : Option FieldType} {As : List Value} {V : Int64} (hM : EV l E d2 0 0 y cc2 nL2 ret2 g n As (aw_Pl (fun v g2 n2 => v = V ∧ g2 = g ∧ n2 = n))) (hB : aw_MB y cc2 nL2 ret2 k) (hI : Cond.static y ∈ aw_tw) {i : Nat} (hw : va_Nw (.methodLinkNest own i y host) s) (hd : decode cc pc = .ok (.invokestatic i, 3)) (hk : As.length = k) (hst : st0 = As.reverse ++ st) (kk : AW p l e R s m args below meth c E nL Q mc ms g n (pc + 3) lv (.long V :: st)) (hc : mc ≤ R.cells ∧ ms ≤ R.slots := by decide) (hf : d2 + 1 ≤ R.frames ∧ 8 + (nL2 + 11) + 40 * d2 ≤ R.locals := by decide) (hroom : (st.map fun v => v.category).sum ≤ 8 := by exact Nat.le_of_ble_eq_true rfl) : AW p l e R s m args below meth c E nL Q mc ms g n pc lv st0 :=
  aw_callSNl0 S hM hB hI hw hd hk hst (fun v g2 n2 h => by obtain ⟨rfl, rfl, rfl⟩ := h; exact kk) hc hf hroom
theorem aw_callSNqA (S : aw_C p s m args meth c E cc nL own ret) {y : MethodName} {host : String} {cc2 : ByteArray} {nL2 d2 k : Nat} {ret2 : Option FieldType} {As : List Value} {mc2 ms2 : Nat} (mc3 ms3 : Nat) {P : Option Nat → AH → Nat → Prop} (hM : EV l E d2 mc2 ms2 y cc2 nL2 ret2 g n As (aw_Pq P)) (hB : aw_MB y cc2 nL2 ret2 k) (hI : Cond.static y ∈ aw_tw) {i : Nat} (hw : va_Nw (.methodLinkNest own i y host) s) (hd : decode cc pc = .ok (.invokestatic i, 3)) (hk : As.length = k) (hst : st0 = As.reverse ++ st) (kk : ∀ (v : Option Nat) (g2 : AH) (n2 : Nat), P v g2 n2 → AW p l e R s m args below meth c E nL Q mc3 ms3 g2 n2 (pc + 3) lv (va_rf v :: st)) (hm : mc + mc2 ≤ mc3 ∧ ms + ms2 ≤ ms3 ∧ mc3 ≤ R.cells ∧ ms3 ≤ R.slots := by decide) (hf : d2 + 1 ≤ R.frames ∧ 8 + (nL2 + 11) + 40 * d2 ≤ R.locals := by decide) (hroom : (st.map fun v => v.category).sum ≤ 8 := by exact Nat.le_of_ble_eq_true rfl) : AW p l e R s m args below meth c E nL Q mc ms g n pc lv st0 :=
  aw_callSN S hM hB hI hw hd hk hst hf hroom ⟨Nat.le_trans hm.1 hm.2.2.1, Nat.le_trans hm.2.1 hm.2.2.2⟩ (fun r g2 n2 h => by obtain ⟨v, rfl, h⟩ := h; exact aw_wide hm.1 hm.2.1 (kk v g2 n2 h))
theorem aw_callSNq0 (S : aw_C p s m args meth c E cc nL own ret) {y : MethodName} {host : String} {cc2 : ByteArray} {nL2 d2 k : Nat} {ret2 : Option FieldType} {As : List Value} {P : Option Nat → AH → Nat → Prop} (hM : EV l E d2 0 0 y cc2 nL2 ret2 g n As (aw_Pq P)) (hB : aw_MB y cc2 nL2 ret2 k) (hI : Cond.static y ∈ aw_tw) {i : Nat} (hw : va_Nw (.methodLinkNest own i y host) s) (hd : decode cc pc = .ok (.invokestatic i, 3)) (hk : As.length = k) (hst : st0 = As.reverse ++ st) (kk : ∀ (v : Option Nat) (g2 : AH) (n2 : Nat), P v g2 n2 → AW p l e R s m args below meth c E nL Q mc ms g2 n2 (pc + 3) lv (va_rf v :: st)) (hc : mc ≤ R.cells ∧ ms ≤ R.slots := by decide) (hf : d2 + 1 ≤ R.frames ∧ 8 + (nL2 + 11) + 40 * d2 ≤ R.locals := by decide) (hroom : (st.map fun v => v.category).sum ≤ 8 := by exact Nat.le_of_ble_eq_true rfl) : AW p l e R s m args below meth c E nL Q mc ms g n pc lv st0 :=
  aw_callSN S hM hB hI hw hd hk hst hf hroom hc (fun r g2 n2 h => by obtain ⟨v, rfl, h⟩ := h; exact kk v g2 n2 h)
theorem aw_callSNqR (S : aw_C p s m args meth c E cc nL own ret) {y : MethodName} {host : String} {cc2 : ByteArray} {nL2 d2 k : Nat} {ret2 : Option FieldType} {As : List Value} {V : Option Nat} (hM : EV l E d2 0 0 y cc2 nL2 ret2 g n As (aw_Pq (fun v g2 n2 => v = V ∧ g2 = g ∧ n2 = n))) (hB : aw_MB y cc2 nL2 ret2 k) (hI : Cond.static y ∈ aw_tw) {i : Nat} (hw : va_Nw (.methodLinkNest own i y host) s) (hd : decode cc pc = .ok (.invokestatic i, 3)) (hk : As.length = k) (hst : st0 = As.reverse ++ st) (kk : AW p l e R s m args below meth c E nL Q mc ms g n (pc + 3) lv (va_rf V :: st)) (hc : mc ≤ R.cells ∧ ms ≤ R.slots := by decide) (hf : d2 + 1 ≤ R.frames ∧ 8 + (nL2 + 11) + 40 * d2 ≤ R.locals := by decide) (hroom : (st.map fun v => v.category).sum ≤ 8 := by exact Nat.le_of_ble_eq_true rfl) : AW p l e R s m args below meth c E nL Q mc ms g n pc lv st0 :=
  aw_callSNq0 S hM hB hI hw hd hk hst (fun v g2 n2 h => by obtain ⟨rfl, rfl, rfl⟩ := h; exact kk) hc hf hroom
theorem aw_callSNvA (S : aw_C p s m args meth c E cc nL own ret) {y : MethodName} {host : String} {cc2 : ByteArray} {nL2 d2 k : Nat} {ret2 : Option FieldType} {As : List Value} {mc2 ms2 : Nat} (mc3 ms3 : Nat) {P : AH → Nat → Prop} (hM : EV l E d2 mc2 ms2 y cc2 nL2 ret2 g n As (aw_Pv P)) (hB : aw_MB y cc2 nL2 ret2 k) (hI : Cond.static y ∈ aw_tw) {i : Nat} (hw : va_Nw (.methodLinkNest own i y host) s) (hd : decode cc pc = .ok (.invokestatic i, 3)) (hk : As.length = k) (hst : st0 = As.reverse ++ st) (kk : ∀ (g2 : AH) (n2 : Nat), P g2 n2 → AW p l e R s m args below meth c E nL Q mc3 ms3 g2 n2 (pc + 3) lv st) (hm : mc + mc2 ≤ mc3 ∧ ms + ms2 ≤ ms3 ∧ mc3 ≤ R.cells ∧ ms3 ≤ R.slots := by decide) (hf : d2 + 1 ≤ R.frames ∧ 8 + (nL2 + 11) + 40 * d2 ≤ R.locals := by decide) (hroom : (st.map fun v => v.category).sum ≤ 8 := by exact Nat.le_of_ble_eq_true rfl) : AW p l e R s m args below meth c E nL Q mc ms g n pc lv st0 :=
  aw_callSN S hM hB hI hw hd hk hst hf hroom ⟨Nat.le_trans hm.1 hm.2.2.1, Nat.le_trans hm.2.1 hm.2.2.2⟩ (fun r g2 n2 h => by obtain ⟨rfl, h⟩ := h; exact aw_wide hm.1 hm.2.1 (kk g2 n2 h))
theorem aw_callSNv0 (S : aw_C p s m args meth c E cc nL own ret) {y : MethodName} {host : String} {cc2 : ByteArray} {nL2 d2 k : Nat} {ret2 : Option FieldType} {As : List Value} {P : AH → Nat → Prop} (hM : EV l E d2 0 0 y cc2 nL2 ret2 g n As (aw_Pv P)) (hB : aw_MB y cc2 nL2 ret2 k) (hI : Cond.static y ∈ aw_tw) {i : Nat} (hw : va_Nw (.methodLinkNest own i y host) s) (hd : decode cc pc = .ok (.invokestatic i, 3)) (hk : As.length = k) (hst : st0 = As.reverse ++ st) (kk : ∀ (g2 : AH) (n2 : Nat), P g2 n2 → AW p l e R s m args below meth c E nL Q mc ms g2 n2 (pc + 3) lv st) (hc : mc ≤ R.cells ∧ ms ≤ R.slots := by decide) (hf : d2 + 1 ≤ R.frames ∧ 8 + (nL2 + 11) + 40 * d2 ≤ R.locals := by decide) (hroom : (st.map fun v => v.category).sum ≤ 8 := by exact Nat.le_of_ble_eq_true rfl) : AW p l e R s m args below meth c E nL Q mc ms g n pc lv st0 :=
  aw_callSN S hM hB hI hw hd hk hst hf hroom hc (fun r g2 n2 h => by obtain ⟨rfl, h⟩ := h; exact kk g2 n2 h)
theorem aw_callIvA (S : aw_C p s m args meth c E cc nL own ret) {y : MethodName} {cc2 : ByteArray} {nL2 d2 a k : Nat} {As : List Value} {mc2 ms2 : Nat} (mc3 ms3 : Nat) {P : AH → Nat → Prop} (hM : EV l E d2 mc2 ms2 y cc2 nL2 none g n (.ref a :: As) (aw_Pv P)) (hB : aw_MB y cc2 nL2 none k) (hI : Cond.instanceMethod y ∈ aw_tw) (hy1 : y.name = "<init>") {i : Nat} (hw : Cond.methodLink own i y ∈ aw_tw) (hd : decode cc pc = .ok (.invokespecial i, 3)) (hk : As.length = k) (hst : st0 = As.reverse ++ .ref a :: st) (kk : ∀ (g2 : AH) (n2 : Nat), P g2 n2 → AW p l e R s m args below meth c E nL Q mc3 ms3 g2 n2 (pc + 3) lv st) (hm : mc + mc2 ≤ mc3 ∧ ms + ms2 ≤ ms3 ∧ mc3 ≤ R.cells ∧ ms3 ≤ R.slots := by decide) (hf : d2 + 1 ≤ R.frames ∧ 8 + (nL2 + 11) + 40 * d2 ≤ R.locals := by decide) (hroom : (st.map fun v => v.category).sum ≤ 8 := by exact Nat.le_of_ble_eq_true rfl) : AW p l e R s m args below meth c E nL Q mc ms g n pc lv st0 :=
  aw_callI S hM hB hI hy1 hw hd hk hst hf hroom ⟨Nat.le_trans hm.1 hm.2.2.1, Nat.le_trans hm.2.1 hm.2.2.2⟩ (fun r g2 n2 h => by obtain ⟨rfl, h⟩ := h; exact aw_wide hm.1 hm.2.1 (kk g2 n2 h))
theorem aw_callIv0 (S : aw_C p s m args meth c E cc nL own ret) {y : MethodName} {cc2 : ByteArray} {nL2 d2 a k : Nat} {As : List Value} {P : AH → Nat → Prop} (hM : EV l E d2 0 0 y cc2 nL2 none g n (.ref a :: As) (aw_Pv P)) (hB : aw_MB y cc2 nL2 none k) (hI : Cond.instanceMethod y ∈ aw_tw) (hy1 : y.name = "<init>") {i : Nat} (hw : Cond.methodLink own i y ∈ aw_tw) (hd : decode cc pc = .ok (.invokespecial i, 3)) (hk : As.length = k) (hst : st0 = As.reverse ++ .ref a :: st) (kk : ∀ (g2 : AH) (n2 : Nat), P g2 n2 → AW p l e R s m args below meth c E nL Q mc ms g2 n2 (pc + 3) lv st) (hc : mc ≤ R.cells ∧ ms ≤ R.slots := by decide) (hf : d2 + 1 ≤ R.frames ∧ 8 + (nL2 + 11) + 40 * d2 ≤ R.locals := by decide) (hroom : (st.map fun v => v.category).sum ≤ 8 := by exact Nat.le_of_ble_eq_true rfl) : AW p l e R s m args below meth c E nL Q mc ms g n pc lv st0 :=
  aw_callI S hM hB hI hy1 hw hd hk hst hf hroom hc (fun r g2 n2 h => by obtain ⟨rfl, h⟩ := h; exact kk g2 n2 h)
end AWCallT
end
section
/-! the methods' words together -/
theorem mb_At_init : aw_MB y_At_init c_At_init 1 none 0 := ⟨n_co_At_init, n_ini_At, by decide +kernel⟩
theorem mb_Rw_init : aw_MB y_Rw_init c_Rw_init 2 none 1 := ⟨n_co_Rw_init, n_ini_Rw, by decide +kernel⟩
theorem mb_Tm_init : aw_MB y_Tm_init c_Tm_init 3 none 2 := ⟨n_co_Tm_init, n_ini_Tm, by decide +kernel⟩
theorem mb_Rf_init : aw_MB y_Rf_init c_Rf_init 1 none 0 := ⟨n_co_Rf_init, n_ini_Rf, by decide +kernel⟩
theorem mb_Rs_init : aw_MB y_Rs_init c_Rs_init 1 none 0 := ⟨n_co_Rs_init, n_ini_Rs, by decide +kernel⟩
theorem mb_At_type : aw_MB y_At_type c_At_type 5 (some .int) 2 := ⟨n_co_At_type, n_ini_At, by decide +kernel⟩
theorem mi_At_type : Cond.instanceMethod y_At_type ∈ aw_tw ∧ Cond.selects (y_At_type).cls y_At_type y_At_type ∈ aw_tw := ⟨n_im_At_type, n_se_At_type⟩
theorem mb_At_byteOf : aw_MB y_At_byteOf c_At_byteOf 3 (some .int) 2 := ⟨n_co_At_byteOf, n_ini_At, by decide +kernel⟩
theorem mb_At_isTapeByte : aw_MB y_At_isTapeByte c_At_isTapeByte 1 (some .boolean) 1 := ⟨n_co_At_isTapeByte, n_ini_At, by decide +kernel⟩
theorem mb_Rw_size : aw_MB y_Rw_size c_Rw_size 1 (some .int) 0 := ⟨n_co_Rw_size, n_ini_Rw, by decide +kernel⟩
theorem mi_Rw_size : Cond.instanceMethod y_Rw_size ∈ aw_tw ∧ Cond.selects (y_Rw_size).cls y_Rw_size y_Rw_size ∈ aw_tw := ⟨n_im_Rw_size, n_se_Rw_size⟩
theorem mb_Rw_add : aw_MB y_Rw_add c_Rw_add 2 none 1 := ⟨n_co_Rw_add, n_ini_Rw, by decide +kernel⟩
theorem mi_Rw_add : Cond.instanceMethod y_Rw_add ∈ aw_tw ∧ Cond.selects (y_Rw_add).cls y_Rw_add y_Rw_add ∈ aw_tw := ⟨n_im_Rw_add, n_se_Rw_add⟩
theorem mb_At_resolve : aw_MB y_At_resolve c_At_resolve 2 (some .int) 0 := ⟨n_co_At_resolve, n_ini_At, by decide +kernel⟩
theorem mi_At_resolve : Cond.instanceMethod y_At_resolve ∈ aw_tw ∧ Cond.selects (y_At_resolve).cls y_At_resolve y_At_resolve ∈ aw_tw := ⟨n_im_At_resolve, n_se_At_resolve⟩
theorem mb_At_addressOnTape : aw_MB y_At_addressOnTape c_At_addressOnTape 3 (some .int) 0 := ⟨n_co_At_addressOnTape, n_ini_At, by decide +kernel⟩
theorem mi_At_addressOnTape : Cond.instanceMethod y_At_addressOnTape ∈ aw_tw ∧ Cond.selects (y_At_addressOnTape).cls y_At_addressOnTape y_At_addressOnTape ∈ aw_tw := ⟨n_im_At_addressOnTape, n_se_At_addressOnTape⟩
theorem mb_At_wrongInReference : aw_MB y_At_wrongInReference c_At_wrongInReference 3 (some .int) 1 := ⟨n_co_At_wrongInReference, n_ini_At, by decide +kernel⟩
theorem mb_Rw_byteAt : aw_MB y_Rw_byteAt c_Rw_byteAt 2 (some .int) 1 := ⟨n_co_Rw_byteAt, n_ini_Rw, by decide +kernel⟩
theorem mi_Rw_byteAt : Cond.instanceMethod y_Rw_byteAt ∈ aw_tw ∧ Cond.selects (y_Rw_byteAt).cls y_Rw_byteAt y_Rw_byteAt ∈ aw_tw := ⟨n_im_Rw_byteAt, n_se_Rw_byteAt⟩
theorem mb_At_isReferenceByte : aw_MB y_At_isReferenceByte c_At_isReferenceByte 1 (some .boolean) 1 := ⟨n_co_At_isReferenceByte, n_ini_At, by decide +kernel⟩
theorem mb_Js_indexOf1 : aw_MB y_Js_indexOf1 c_Js_indexOf1 2 (some .int) 1 := ⟨n_co_Js_indexOf1, n_ini_Js, by decide +kernel⟩
theorem mi_Js_indexOf1 : Cond.instanceMethod y_Js_indexOf1 ∈ aw_tw ∧ Cond.selects (y_Js_indexOf1).cls y_Js_indexOf1 y_Js_indexOf1 ∈ aw_tw := ⟨n_im_Js_indexOf1, n_se_Js_indexOf1⟩
theorem mb_Js_indexOf2 : aw_MB y_Js_indexOf2 c_Js_indexOf2 3 (some .int) 2 := ⟨n_co_Js_indexOf2, n_ini_Js, by decide +kernel⟩
theorem mi_Js_indexOf2 : Cond.instanceMethod y_Js_indexOf2 ∈ aw_tw ∧ Cond.selects (y_Js_indexOf2).cls y_Js_indexOf2 y_Js_indexOf2 ∈ aw_tw := ⟨n_im_Js_indexOf2, n_se_Js_indexOf2⟩
theorem mb_Js_isLatin1 : aw_MB y_Js_isLatin1 c_Js_isLatin1 1 (some .boolean) 0 := ⟨n_co_Js_isLatin1, n_ini_Js, by decide +kernel⟩
theorem mi_Js_isLatin1 : Cond.instanceMethod y_Js_isLatin1 ∈ aw_tw ∧ Cond.selects (y_Js_isLatin1).cls y_Js_isLatin1 y_Js_isLatin1 ∈ aw_tw := ⟨n_im_Js_isLatin1, n_se_Js_isLatin1⟩
theorem mb_Js_length : aw_MB y_Js_length c_Js_length 1 (some .int) 0 := ⟨n_co_Js_length, n_ini_Js, by decide +kernel⟩
theorem mi_Js_length : Cond.instanceMethod y_Js_length ∈ aw_tw ∧ Cond.selects (y_Js_length).cls y_Js_length y_Js_length ∈ aw_tw := ⟨n_im_Js_length, n_se_Js_length⟩
theorem mb_Js_coder : aw_MB y_Js_coder c_Js_coder 1 (some .byte) 0 := ⟨n_co_Js_coder, n_ini_Js, by decide +kernel⟩
theorem mi_Js_coder : Cond.instanceMethod y_Js_coder ∈ aw_tw ∧ Cond.selects (y_Js_coder).cls y_Js_coder y_Js_coder ∈ aw_tw := ⟨n_im_Js_coder, n_se_Js_coder⟩
theorem mb_Jl_indexOf : aw_MB y_Jl_indexOf c_Jl_indexOf 4 (some .int) 4 := ⟨n_co_Jl_indexOf, n_ini_Jl, by decide +kernel⟩
theorem mb_Jl_canEncode : aw_MB y_Jl_canEncode c_Jl_canEncode 1 (some .boolean) 1 := ⟨n_co_Jl_canEncode, n_ini_Jl, by decide +kernel⟩
theorem mb_Jl_indexOfChar : aw_MB y_Jl_indexOfChar c_Jl_indexOfChar 6 (some .int) 4 := ⟨n_co_Jl_indexOfChar, n_ini_Jl, by decide +kernel⟩
theorem mb_Js_checkBoundsBeginEnd : aw_MB y_Js_checkBoundsBeginEnd c_Js_checkBoundsBeginEnd 3 none 3 := ⟨n_co_Js_checkBoundsBeginEnd, n_ini_Js, by decide +kernel⟩
theorem mb_At_hexValue : aw_MB y_At_hexValue c_At_hexValue 1 (some .int) 1 := ⟨n_co_At_hexValue, n_ini_At, by decide +kernel⟩
theorem mb_At_isDigit : aw_MB y_At_isDigit c_At_isDigit 1 (some .boolean) 1 := ⟨n_co_At_isDigit, n_ini_At, by decide +kernel⟩
theorem mb_Rf_read : aw_MB y_Rf_read c_Rf_read 6 none 1 := ⟨n_co_Rf_read, n_ini_Rf, by decide +kernel⟩
theorem mi_Rf_read : Cond.instanceMethod y_Rf_read ∈ aw_tw ∧ Cond.selects (y_Rf_read).cls y_Rf_read y_Rf_read ∈ aw_tw := ⟨n_im_Rf_read, n_se_Rf_read⟩
theorem mb_Rf_note : aw_MB y_Rf_note c_Rf_note 4 none 3 := ⟨n_co_Rf_note, n_ini_Rf, by decide +kernel⟩
theorem mi_Rf_note : Cond.instanceMethod y_Rf_note ∈ aw_tw ∧ Cond.selects (y_Rf_note).cls y_Rf_note y_Rf_note ∈ aw_tw := ⟨n_im_Rf_note, n_se_Rf_note⟩
theorem mb_Rf_colonOfScheme : aw_MB y_Rf_colonOfScheme c_Rf_colonOfScheme 3 (some .int) 0 := ⟨n_co_Rf_colonOfScheme, n_ini_Rf, by decide +kernel⟩
theorem mi_Rf_colonOfScheme : Cond.instanceMethod y_Rf_colonOfScheme ∈ aw_tw ∧ Cond.selects (y_Rf_colonOfScheme).cls y_Rf_colonOfScheme y_Rf_colonOfScheme ∈ aw_tw := ⟨n_im_Rf_colonOfScheme, n_se_Rf_colonOfScheme⟩
theorem mb_At_isLetter : aw_MB y_At_isLetter c_At_isLetter 1 (some .boolean) 1 := ⟨n_co_At_isLetter, n_ini_At, by decide +kernel⟩
theorem mb_At_isSmallLetter : aw_MB y_At_isSmallLetter c_At_isSmallLetter 1 (some .boolean) 1 := ⟨n_co_At_isSmallLetter, n_ini_At, by decide +kernel⟩
theorem mb_At_isGreatLetter : aw_MB y_At_isGreatLetter c_At_isGreatLetter 1 (some .boolean) 1 := ⟨n_co_At_isGreatLetter, n_ini_At, by decide +kernel⟩
theorem mb_At_isLetterOrDigit : aw_MB y_At_isLetterOrDigit c_At_isLetterOrDigit 1 (some .boolean) 1 := ⟨n_co_At_isLetterOrDigit, n_ini_At, by decide +kernel⟩
theorem mb_Rw_hasThere : aw_MB y_Rw_hasThere c_Rw_hasThere 4 (some .boolean) 2 := ⟨n_co_Rw_hasThere, n_ini_Rw, by decide +kernel⟩
theorem mi_Rw_hasThere : Cond.instanceMethod y_Rw_hasThere ∈ aw_tw ∧ Cond.selects (y_Rw_hasThere).cls y_Rw_hasThere y_Rw_hasThere ∈ aw_tw := ⟨n_im_Rw_hasThere, n_se_Rw_hasThere⟩
theorem mb_Js_charAt : aw_MB y_Js_charAt c_Js_charAt 2 (some .char) 1 := ⟨n_co_Js_charAt, n_ini_Js, by decide +kernel⟩
theorem mi_Js_charAt : Cond.instanceMethod y_Js_charAt ∈ aw_tw ∧ Cond.selects (y_Js_charAt).cls y_Js_charAt y_Js_charAt ∈ aw_tw := ⟨n_im_Js_charAt, n_se_Js_charAt⟩
theorem mb_Jl_charAt : aw_MB y_Jl_charAt c_Jl_charAt 2 (some .char) 2 := ⟨n_co_Jl_charAt, n_ini_Jl, by decide +kernel⟩
theorem mb_Js_checkIndex : aw_MB y_Js_checkIndex c_Js_checkIndex 2 none 2 := ⟨n_co_Js_checkIndex, n_ini_Js, by decide +kernel⟩
theorem mb_Rw_nextOf : aw_MB y_Rw_nextOf c_Rw_nextOf 4 (some .int) 2 := ⟨n_co_Rw_nextOf, n_ini_Rw, by decide +kernel⟩
theorem mi_Rw_nextOf : Cond.instanceMethod y_Rw_nextOf ∈ aw_tw ∧ Cond.selects (y_Rw_nextOf).cls y_Rw_nextOf y_Rw_nextOf ∈ aw_tw := ⟨n_im_Rw_nextOf, n_se_Rw_nextOf⟩
theorem mb_At_addressAt : aw_MB y_At_addressAt c_At_addressAt 3 (some (.object "AddressTerms$Term")) 1 := ⟨n_co_At_addressAt, n_ini_At, by decide +kernel⟩
theorem mi_At_addressAt : Cond.instanceMethod y_At_addressAt ∈ aw_tw ∧ Cond.selects (y_At_addressAt).cls y_At_addressAt y_At_addressAt ∈ aw_tw := ⟨n_im_At_addressAt, n_se_At_addressAt⟩
theorem mb_At_termAt : aw_MB y_At_termAt c_At_termAt 2 (some (.object "AddressTerms$Term")) 1 := ⟨n_co_At_termAt, n_ini_At, by decide +kernel⟩
theorem mi_At_termAt : Cond.instanceMethod y_At_termAt ∈ aw_tw ∧ Cond.selects (y_At_termAt).cls y_At_termAt y_At_termAt ∈ aw_tw := ⟨n_im_At_termAt, n_se_At_termAt⟩
theorem mb_Rf_has : aw_MB y_Rf_has c_Rf_has 2 (some .boolean) 1 := ⟨n_co_Rf_has, n_ini_Rf, by decide +kernel⟩
theorem mi_Rf_has : Cond.instanceMethod y_Rf_has ∈ aw_tw ∧ Cond.selects (y_Rf_has).cls y_Rf_has y_Rf_has ∈ aw_tw := ⟨n_im_Rf_has, n_se_Rf_has⟩
theorem mb_Rf_endOf : aw_MB y_Rf_endOf c_Rf_endOf 2 (some .int) 1 := ⟨n_co_Rf_endOf, n_ini_Rf, by decide +kernel⟩
theorem mi_Rf_endOf : Cond.instanceMethod y_Rf_endOf ∈ aw_tw ∧ Cond.selects (y_Rf_endOf).cls y_Rf_endOf y_Rf_endOf ∈ aw_tw := ⟨n_im_Rf_endOf, n_se_Rf_endOf⟩
theorem mb_Tm_begin : aw_MB y_Tm_begin c_Tm_begin 4 none 3 := ⟨n_co_Tm_begin, n_ini_Tm, by decide +kernel⟩
theorem mi_Tm_begin : Cond.instanceMethod y_Tm_begin ∈ aw_tw ∧ Cond.selects (y_Tm_begin).cls y_Tm_begin y_Tm_begin ∈ aw_tw := ⟨n_im_Tm_begin, n_se_Tm_begin⟩
theorem mb_Rw_cutTo : aw_MB y_Rw_cutTo c_Rw_cutTo 2 none 1 := ⟨n_co_Rw_cutTo, n_ini_Rw, by decide +kernel⟩
theorem mi_Rw_cutTo : Cond.instanceMethod y_Rw_cutTo ∈ aw_tw ∧ Cond.selects (y_Rw_cutTo).cls y_Rw_cutTo y_Rw_cutTo ∈ aw_tw := ⟨n_im_Rw_cutTo, n_se_Rw_cutTo⟩
theorem mb_Rw_addRange : aw_MB y_Rw_addRange c_Rw_addRange 6 none 3 := ⟨n_co_Rw_addRange, n_ini_Rw, by decide +kernel⟩
theorem mi_Rw_addRange : Cond.instanceMethod y_Rw_addRange ∈ aw_tw ∧ Cond.selects (y_Rw_addRange).cls y_Rw_addRange y_Rw_addRange ∈ aw_tw := ⟨n_im_Rw_addRange, n_se_Rw_addRange⟩
theorem mb_Rs_resolveTo : aw_MB y_Rs_resolveTo c_Rs_resolveTo 8 none 3 := ⟨n_co_Rs_resolveTo, n_ini_Rs, by decide +kernel⟩
theorem mi_Rs_resolveTo : Cond.instanceMethod y_Rs_resolveTo ∈ aw_tw ∧ Cond.selects (y_Rs_resolveTo).cls y_Rs_resolveTo y_Rs_resolveTo ∈ aw_tw := ⟨n_im_Rs_resolveTo, n_se_Rs_resolveTo⟩
theorem mb_Rf_lengthOf : aw_MB y_Rf_lengthOf c_Rf_lengthOf 2 (some .int) 1 := ⟨n_co_Rf_lengthOf, n_ini_Rf, by decide +kernel⟩
theorem mi_Rf_lengthOf : Cond.instanceMethod y_Rf_lengthOf ∈ aw_tw ∧ Cond.selects (y_Rf_lengthOf).cls y_Rf_lengthOf y_Rf_lengthOf ∈ aw_tw := ⟨n_im_Rf_lengthOf, n_se_Rf_lengthOf⟩
theorem mb_Rf_beginOf : aw_MB y_Rf_beginOf c_Rf_beginOf 2 (some .int) 1 := ⟨n_co_Rf_beginOf, n_ini_Rf, by decide +kernel⟩
theorem mi_Rf_beginOf : Cond.instanceMethod y_Rf_beginOf ∈ aw_tw ∧ Cond.selects (y_Rf_beginOf).cls y_Rf_beginOf y_Rf_beginOf ∈ aw_tw := ⟨n_im_Rf_beginOf, n_se_Rf_beginOf⟩
theorem mb_Rf_copyTo : aw_MB y_Rf_copyTo c_Rf_copyTo 3 none 2 := ⟨n_co_Rf_copyTo, n_ini_Rf, by decide +kernel⟩
theorem mi_Rf_copyTo : Cond.instanceMethod y_Rf_copyTo ∈ aw_tw ∧ Cond.selects (y_Rf_copyTo).cls y_Rf_copyTo y_Rf_copyTo ∈ aw_tw := ⟨n_im_Rf_copyTo, n_se_Rf_copyTo⟩
theorem mb_Rs_addBehind : aw_MB y_Rs_addBehind c_Rs_addBehind 4 none 4 := ⟨n_co_Rs_addBehind, n_ini_Rs, by decide +kernel⟩
theorem mb_Rw_addText : aw_MB y_Rw_addText c_Rw_addText 3 none 1 := ⟨n_co_Rw_addText, n_ini_Rw, by decide +kernel⟩
theorem mi_Rw_addText : Cond.instanceMethod y_Rw_addText ∈ aw_tw ∧ Cond.selects (y_Rw_addText).cls y_Rw_addText y_Rw_addText ∈ aw_tw := ⟨n_im_Rw_addText, n_se_Rw_addText⟩
theorem mb_Rs_gatherPath : aw_MB y_Rs_gatherPath c_Rs_gatherPath 4 none 3 := ⟨n_co_Rs_gatherPath, n_ini_Rs, by decide +kernel⟩
theorem mi_Rs_gatherPath : Cond.instanceMethod y_Rs_gatherPath ∈ aw_tw ∧ Cond.selects (y_Rs_gatherPath).cls y_Rs_gatherPath y_Rs_gatherPath ∈ aw_tw := ⟨n_im_Rs_gatherPath, n_se_Rs_gatherPath⟩
theorem mb_Rf_hasPathFromTop : aw_MB y_Rf_hasPathFromTop c_Rf_hasPathFromTop 1 (some .boolean) 0 := ⟨n_co_Rf_hasPathFromTop, n_ini_Rf, by decide +kernel⟩
theorem mi_Rf_hasPathFromTop : Cond.instanceMethod y_Rf_hasPathFromTop ∈ aw_tw ∧ Cond.selects (y_Rf_hasPathFromTop).cls y_Rf_hasPathFromTop y_Rf_hasPathFromTop ∈ aw_tw := ⟨n_im_Rf_hasPathFromTop, n_se_Rf_hasPathFromTop⟩
theorem mb_Rf_copyFolderTo : aw_MB y_Rf_copyFolderTo c_Rf_copyFolderTo 3 none 1 := ⟨n_co_Rf_copyFolderTo, n_ini_Rf, by decide +kernel⟩
theorem mi_Rf_copyFolderTo : Cond.instanceMethod y_Rf_copyFolderTo ∈ aw_tw ∧ Cond.selects (y_Rf_copyFolderTo).cls y_Rf_copyFolderTo y_Rf_copyFolderTo ∈ aw_tw := ⟨n_im_Rf_copyFolderTo, n_se_Rf_copyFolderTo⟩
theorem mb_Rw_lastSlash : aw_MB y_Rw_lastSlash c_Rw_lastSlash 4 (some .int) 2 := ⟨n_co_Rw_lastSlash, n_ini_Rw, by decide +kernel⟩
theorem mi_Rw_lastSlash : Cond.instanceMethod y_Rw_lastSlash ∈ aw_tw ∧ Cond.selects (y_Rw_lastSlash).cls y_Rw_lastSlash y_Rw_lastSlash ∈ aw_tw := ⟨n_im_Rw_lastSlash, n_se_Rw_lastSlash⟩
theorem mb_Rs_addPlainPath : aw_MB y_Rs_addPlainPath c_Rs_addPlainPath 7 none 1 := ⟨n_co_Rs_addPlainPath, n_ini_Rs, by decide +kernel⟩
theorem mi_Rs_addPlainPath : Cond.instanceMethod y_Rs_addPlainPath ∈ aw_tw ∧ Cond.selects (y_Rs_addPlainPath).cls y_Rs_addPlainPath y_Rs_addPlainPath ∈ aw_tw := ⟨n_im_Rs_addPlainPath, n_se_Rs_addPlainPath⟩
theorem mb_Rw_isRest : aw_MB y_Rw_isRest c_Rw_isRest 3 (some .boolean) 2 := ⟨n_co_Rw_isRest, n_ini_Rw, by decide +kernel⟩
theorem mi_Rw_isRest : Cond.instanceMethod y_Rw_isRest ∈ aw_tw ∧ Cond.selects (y_Rw_isRest).cls y_Rw_isRest y_Rw_isRest ∈ aw_tw := ⟨n_im_Rw_isRest, n_se_Rw_isRest⟩
theorem mb_Rw_set : aw_MB y_Rw_set c_Rw_set 3 none 2 := ⟨n_co_Rw_set, n_ini_Rw, by decide +kernel⟩
theorem mi_Rw_set : Cond.instanceMethod y_Rw_set ∈ aw_tw ∧ Cond.selects (y_Rw_set).cls y_Rw_set y_Rw_set ∈ aw_tw := ⟨n_im_Rw_set, n_se_Rw_set⟩
theorem mb_Rs_dropLast : aw_MB y_Rs_dropLast c_Rs_dropLast 3 none 2 := ⟨n_co_Rs_dropLast, n_ini_Rs, by decide +kernel⟩
theorem mb_At_placeOfWanted : aw_MB y_At_placeOfWanted c_At_placeOfWanted 3 (some .int) 0 := ⟨n_co_At_placeOfWanted, n_ini_At, by decide +kernel⟩
theorem mi_At_placeOfWanted : Cond.instanceMethod y_At_placeOfWanted ∈ aw_tw ∧ Cond.selects (y_At_placeOfWanted).cls y_At_placeOfWanted y_At_placeOfWanted ∈ aw_tw := ⟨n_im_At_placeOfWanted, n_se_At_placeOfWanted⟩
theorem mb_Tm_order : aw_MB y_Tm_order c_Tm_order 3 (some .int) 1 := ⟨n_co_Tm_order, n_ini_Tm, by decide +kernel⟩
theorem mi_Tm_order : Cond.instanceMethod y_Tm_order ∈ aw_tw ∧ Cond.selects (y_Tm_order).cls y_Tm_order y_Tm_order ∈ aw_tw := ⟨n_im_Tm_order, n_se_Tm_order⟩
theorem mb_Tm_rank : aw_MB y_Tm_rank c_Tm_rank 1 (some .int) 0 := ⟨n_co_Tm_rank, n_ini_Tm, by decide +kernel⟩
theorem mi_Tm_rank : Cond.instanceMethod y_Tm_rank ∈ aw_tw ∧ Cond.selects (y_Tm_rank).cls y_Tm_rank y_Tm_rank ∈ aw_tw := ⟨n_im_Tm_rank, n_se_Tm_rank⟩
theorem mb_At_orderOf : aw_MB y_At_orderOf c_At_orderOf 2 (some .int) 2 := ⟨n_co_At_orderOf, n_ini_At, by decide +kernel⟩
theorem mb_Rw_order : aw_MB y_Rw_order c_Rw_order 5 (some .int) 1 := ⟨n_co_Rw_order, n_ini_Rw, by decide +kernel⟩
theorem mi_Rw_order : Cond.instanceMethod y_Rw_order ∈ aw_tw ∧ Cond.selects (y_Rw_order).cls y_Rw_order y_Rw_order ∈ aw_tw := ⟨n_im_Rw_order, n_se_Rw_order⟩
theorem mb_Tm_copy : aw_MB y_Tm_copy c_Tm_copy 2 (some (.object "AddressTerms$Term")) 0 := ⟨n_co_Tm_copy, n_ini_Tm, by decide +kernel⟩
theorem mi_Tm_copy : Cond.instanceMethod y_Tm_copy ∈ aw_tw ∧ Cond.selects (y_Tm_copy).cls y_Tm_copy y_Tm_copy ∈ aw_tw := ⟨n_im_Tm_copy, n_se_Tm_copy⟩
theorem mb_At_base : aw_MB y_At_base c_At_base 2 (some .int) 1 := ⟨n_co_At_base, n_ini_At, by decide +kernel⟩
theorem mi_At_base : Cond.instanceMethod y_At_base ∈ aw_tw ∧ Cond.selects (y_At_base).cls y_At_base y_At_base ∈ aw_tw := ⟨n_im_At_base, n_se_At_base⟩
theorem mb_At_label : aw_MB y_At_label c_At_label 2 (some .int) 1 := ⟨n_co_At_label, n_ini_At, by decide +kernel⟩
theorem mi_At_label : Cond.instanceMethod y_At_label ∈ aw_tw ∧ Cond.selects (y_At_label).cls y_At_label y_At_label ∈ aw_tw := ⟨n_im_At_label, n_se_At_label⟩
theorem mb_At_literal : aw_MB y_At_literal c_At_literal 3 (some .int) 1 := ⟨n_co_At_literal, n_ini_At, by decide +kernel⟩
theorem mi_At_literal : Cond.instanceMethod y_At_literal ∈ aw_tw ∧ Cond.selects (y_At_literal).cls y_At_literal y_At_literal ∈ aw_tw := ⟨n_im_At_literal, n_se_At_literal⟩
theorem mb_At_literalOnTape : aw_MB y_At_literalOnTape c_At_literalOnTape 3 (some .int) 1 := ⟨n_co_At_literalOnTape, n_ini_At, by decide +kernel⟩
theorem mi_At_literalOnTape : Cond.instanceMethod y_At_literalOnTape ∈ aw_tw ∧ Cond.selects (y_At_literalOnTape).cls y_At_literalOnTape y_At_literalOnTape ∈ aw_tw := ⟨n_im_At_literalOnTape, n_se_At_literalOnTape⟩
theorem mb_At_readText : aw_MB y_At_readText c_At_readText 6 (some .int) 2 := ⟨n_co_At_readText, n_ini_At, by decide +kernel⟩
theorem mb_At_escapedByte : aw_MB y_At_escapedByte c_At_escapedByte 2 (some .int) 2 := ⟨n_co_At_escapedByte, n_ini_At, by decide +kernel⟩
theorem mb_At_hexByte : aw_MB y_At_hexByte c_At_hexByte 5 (some .int) 2 := ⟨n_co_At_hexByte, n_ini_At, by decide +kernel⟩
theorem mb_At_isTextByte : aw_MB y_At_isTextByte c_At_isTextByte 1 (some .boolean) 1 := ⟨n_co_At_isTextByte, n_ini_At, by decide +kernel⟩
theorem mb_At_tagged : aw_MB y_At_tagged c_At_tagged 3 (some .int) 1 := ⟨n_co_At_tagged, n_ini_At, by decide +kernel⟩
theorem mi_At_tagged : Cond.instanceMethod y_At_tagged ∈ aw_tw ∧ Cond.selects (y_At_tagged).cls y_At_tagged y_At_tagged ∈ aw_tw := ⟨n_im_At_tagged, n_se_At_tagged⟩
theorem mb_At_tagOnTape : aw_MB y_At_tagOnTape c_At_tagOnTape 5 (some .int) 1 := ⟨n_co_At_tagOnTape, n_ini_At, by decide +kernel⟩
theorem mi_At_tagOnTape : Cond.instanceMethod y_At_tagOnTape ∈ aw_tw ∧ Cond.selects (y_At_tagOnTape).cls y_At_tagOnTape y_At_tagOnTape ∈ aw_tw := ⟨n_im_At_tagOnTape, n_se_At_tagOnTape⟩
theorem mb_At_literalAt : aw_MB y_At_literalAt c_At_literalAt 3 (some (.object "AddressTerms$Term")) 1 := ⟨n_co_At_literalAt, n_ini_At, by decide +kernel⟩
theorem mi_At_literalAt : Cond.instanceMethod y_At_literalAt ∈ aw_tw ∧ Cond.selects (y_At_literalAt).cls y_At_literalAt y_At_literalAt ∈ aw_tw := ⟨n_im_At_literalAt, n_se_At_literalAt⟩
theorem mb_At_wrongInTag : aw_MB y_At_wrongInTag c_At_wrongInTag 7 (some .int) 1 := ⟨n_co_At_wrongInTag, n_ini_At, by decide +kernel⟩
theorem mb_At_smallOf : aw_MB y_At_smallOf c_At_smallOf 1 (some .int) 1 := ⟨n_co_At_smallOf, n_ini_At, by decide +kernel⟩
theorem mb_At_prefix : aw_MB y_At_prefix c_At_prefix 3 (some .int) 1 := ⟨n_co_At_prefix, n_ini_At, by decide +kernel⟩
theorem mi_At_prefix : Cond.instanceMethod y_At_prefix ∈ aw_tw ∧ Cond.selects (y_At_prefix).cls y_At_prefix y_At_prefix ∈ aw_tw := ⟨n_im_At_prefix, n_se_At_prefix⟩
theorem mb_At_nameOnTape : aw_MB y_At_nameOnTape c_At_nameOnTape 5 (some .int) 1 := ⟨n_co_At_nameOnTape, n_ini_At, by decide +kernel⟩
theorem mi_At_nameOnTape : Cond.instanceMethod y_At_nameOnTape ∈ aw_tw ∧ Cond.selects (y_At_nameOnTape).cls y_At_nameOnTape y_At_nameOnTape ∈ aw_tw := ⟨n_im_At_nameOnTape, n_se_At_nameOnTape⟩
theorem mb_At_isName : aw_MB y_At_isName c_At_isName 2 (some .boolean) 1 := ⟨n_co_At_isName, n_ini_At, by decide +kernel⟩
theorem mb_At_prefixAt : aw_MB y_At_prefixAt c_At_prefixAt 2 (some (.object "AddressTerms$Prefix")) 1 := ⟨n_co_At_prefixAt, n_ini_At, by decide +kernel⟩
theorem mi_At_prefixAt : Cond.instanceMethod y_At_prefixAt ∈ aw_tw ∧ Cond.selects (y_At_prefixAt).cls y_At_prefixAt y_At_prefixAt ∈ aw_tw := ⟨n_im_At_prefixAt, n_se_At_prefixAt⟩
theorem mb_Rw_copy : aw_MB y_Rw_copy c_Rw_copy 2 (some (.object "AddressTerms$Row")) 0 := ⟨n_co_Rw_copy, n_ini_Rw, by decide +kernel⟩
theorem mi_Rw_copy : Cond.instanceMethod y_Rw_copy ∈ aw_tw ∧ Cond.selects (y_Rw_copy).cls y_Rw_copy y_Rw_copy ∈ aw_tw := ⟨n_im_Rw_copy, n_se_Rw_copy⟩
theorem mb_Px_init : aw_MB y_Px_init c_Px_init 3 none 2 := ⟨n_co_Px_init, n_ini_Px, by decide +kernel⟩
theorem mb_At_part : aw_MB y_At_part c_At_part 4 (some .int) 2 := ⟨n_co_At_part, n_ini_At, by decide +kernel⟩
theorem mi_At_part : Cond.instanceMethod y_At_part ∈ aw_tw ∧ Cond.selects (y_At_part).cls y_At_part y_At_part ∈ aw_tw := ⟨n_im_At_part, n_se_At_part⟩
theorem mb_At_kind : aw_MB y_At_kind c_At_kind 3 (some .int) 1 := ⟨n_co_At_kind, n_ini_At, by decide +kernel⟩
theorem mi_At_kind : Cond.instanceMethod y_At_kind ∈ aw_tw ∧ Cond.selects (y_At_kind).cls y_At_kind y_At_kind ∈ aw_tw := ⟨n_im_At_kind, n_se_At_kind⟩
theorem mb_At_sort : aw_MB y_At_sort c_At_sort 3 (some .int) 1 := ⟨n_co_At_sort, n_ini_At, by decide +kernel⟩
theorem mi_At_sort : Cond.instanceMethod y_At_sort ∈ aw_tw ∧ Cond.selects (y_At_sort).cls y_At_sort y_At_sort ∈ aw_tw := ⟨n_im_At_sort, n_se_At_sort⟩
theorem mb_At_alike : aw_MB y_At_alike c_At_alike 5 (some .int) 2 := ⟨n_co_At_alike, n_ini_At, by decide +kernel⟩
theorem mi_At_alike : Cond.instanceMethod y_At_alike ∈ aw_tw ∧ Cond.selects (y_At_alike).cls y_At_alike y_At_alike ∈ aw_tw := ⟨n_im_At_alike, n_se_At_alike⟩
theorem mb_At_haveSameValue : aw_MB y_At_haveSameValue c_At_haveSameValue 2 (some .boolean) 2 := ⟨n_co_At_haveSameValue, n_ini_At, by decide +kernel⟩
theorem mb_At_isWhole : aw_MB y_At_isWhole c_At_isWhole 3 (some .boolean) 1 := ⟨n_co_At_isWhole, n_ini_At, by decide +kernel⟩
theorem mb_At_signLength : aw_MB y_At_signLength c_At_signLength 1 (some .int) 1 := ⟨n_co_At_signLength, n_ini_At, by decide +kernel⟩
theorem mb_At_wholeValue : aw_MB y_At_wholeValue c_At_wholeValue 4 (some .long) 1 := ⟨n_co_At_wholeValue, n_ini_At, by decide +kernel⟩
theorem mb_At_isTrue : aw_MB y_At_isTrue c_At_isTrue 1 (some .boolean) 1 := ⟨n_co_At_isTrue, n_ini_At, by decide +kernel⟩
theorem mb_At_isFalse : aw_MB y_At_isFalse c_At_isFalse 1 (some .boolean) 1 := ⟨n_co_At_isFalse, n_ini_At, by decide +kernel⟩
theorem mb_At_compare : aw_MB y_At_compare c_At_compare 5 (some .int) 2 := ⟨n_co_At_compare, n_ini_At, by decide +kernel⟩
theorem mi_At_compare : Cond.instanceMethod y_At_compare ∈ aw_tw ∧ Cond.selects (y_At_compare).cls y_At_compare y_At_compare ∈ aw_tw := ⟨n_im_At_compare, n_se_At_compare⟩
theorem mb_At_print : aw_MB y_At_print c_At_print 4 (some .int) 2 := ⟨n_co_At_print, n_ini_At, by decide +kernel⟩
theorem mi_At_print : Cond.instanceMethod y_At_print ∈ aw_tw ∧ Cond.selects (y_At_print).cls y_At_print y_At_print ∈ aw_tw := ⟨n_im_At_print, n_se_At_print⟩
theorem mb_Rw_addNumber : aw_MB y_Rw_addNumber c_Rw_addNumber 2 none 1 := ⟨n_co_Rw_addNumber, n_ini_Rw, by decide +kernel⟩
theorem mi_Rw_addNumber : Cond.instanceMethod y_Rw_addNumber ∈ aw_tw ∧ Cond.selects (y_Rw_addNumber).cls y_Rw_addNumber y_Rw_addNumber ∈ aw_tw := ⟨n_im_Rw_addNumber, n_se_Rw_addNumber⟩
theorem mb_At_printLiteral : aw_MB y_At_printLiteral c_At_printLiteral 3 none 1 := ⟨n_co_At_printLiteral, n_ini_At, by decide +kernel⟩
theorem mi_At_printLiteral : Cond.instanceMethod y_At_printLiteral ∈ aw_tw ∧ Cond.selects (y_At_printLiteral).cls y_At_printLiteral y_At_printLiteral ∈ aw_tw := ⟨n_im_At_printLiteral, n_se_At_printLiteral⟩
theorem mb_At_printTextByte : aw_MB y_At_printTextByte c_At_printTextByte 2 none 1 := ⟨n_co_At_printTextByte, n_ini_At, by decide +kernel⟩
theorem mi_At_printTextByte : Cond.instanceMethod y_At_printTextByte ∈ aw_tw ∧ Cond.selects (y_At_printTextByte).cls y_At_printTextByte y_At_printTextByte ∈ aw_tw := ⟨n_im_At_printTextByte, n_se_At_printTextByte⟩
theorem mb_At_printAddress : aw_MB y_At_printAddress c_At_printAddress 4 none 2 := ⟨n_co_At_printAddress, n_ini_At, by decide +kernel⟩
theorem mi_At_printAddress : Cond.instanceMethod y_At_printAddress ∈ aw_tw ∧ Cond.selects (y_At_printAddress).cls y_At_printAddress y_At_printAddress ∈ aw_tw := ⟨n_im_At_printAddress, n_se_At_printAddress⟩
theorem mb_At_bestPrefix : aw_MB y_At_bestPrefix c_At_bestPrefix 5 (some (.object "AddressTerms$Prefix")) 1 := ⟨n_co_At_bestPrefix, n_ini_At, by decide +kernel⟩
theorem mi_At_bestPrefix : Cond.instanceMethod y_At_bestPrefix ∈ aw_tw ∧ Cond.selects (y_At_bestPrefix).cls y_At_bestPrefix y_At_bestPrefix ∈ aw_tw := ⟨n_im_At_bestPrefix, n_se_At_bestPrefix⟩
theorem mb_Px_tells : aw_MB y_Px_tells c_Px_tells 4 (some .boolean) 1 := ⟨n_co_Px_tells, n_ini_Px, by decide +kernel⟩
theorem mi_Px_tells : Cond.instanceMethod y_Px_tells ∈ aw_tw ∧ Cond.selects (y_Px_tells).cls y_Px_tells y_Px_tells ∈ aw_tw := ⟨n_im_Px_tells, n_se_Px_tells⟩
theorem mb_Rw_beginsWith : aw_MB y_Rw_beginsWith c_Rw_beginsWith 3 (some .boolean) 1 := ⟨n_co_Rw_beginsWith, n_ini_Rw, by decide +kernel⟩
theorem mi_Rw_beginsWith : Cond.instanceMethod y_Rw_beginsWith ∈ aw_tw ∧ Cond.selects (y_Rw_beginsWith).cls y_Rw_beginsWith y_Rw_beginsWith ∈ aw_tw := ⟨n_im_Rw_beginsWith, n_se_Rw_beginsWith⟩
theorem mb_Px_isBetterThan : aw_MB y_Px_isBetterThan c_Px_isBetterThan 3 (some .boolean) 1 := ⟨n_co_Px_isBetterThan, n_ini_Px, by decide +kernel⟩
theorem mi_Px_isBetterThan : Cond.instanceMethod y_Px_isBetterThan ∈ aw_tw ∧ Cond.selects (y_Px_isBetterThan).cls y_Px_isBetterThan y_Px_isBetterThan ∈ aw_tw := ⟨n_im_Px_isBetterThan, n_se_Px_isBetterThan⟩
theorem mb_At_at : aw_MB y_At_at c_At_at 3 (some .int) 1 := ⟨n_co_At_at, n_ini_At, by decide +kernel⟩
theorem mi_At_at : Cond.instanceMethod y_At_at ∈ aw_tw ∧ Cond.selects (y_At_at).cls y_At_at y_At_at ∈ aw_tw := ⟨n_im_At_at, n_se_At_at⟩
theorem mb_At_count : aw_MB y_At_count c_At_count 2 (some .int) 1 := ⟨n_co_At_count, n_ini_At, by decide +kernel⟩
theorem mi_At_count : Cond.instanceMethod y_At_count ∈ aw_tw ∧ Cond.selects (y_At_count).cls y_At_count y_At_count ∈ aw_tw := ⟨n_im_At_count, n_se_At_count⟩
theorem mb_Md_init : aw_MB y_Md_init c_Md_init 1 none 0 := ⟨n_co_Md_init, n_ini_Md, by decide +kernel⟩
theorem mb_Md_type : aw_MB y_Md_type c_Md_type 6 (some .int) 2 := ⟨n_co_Md_type, n_ini_Md, by decide +kernel⟩
theorem mi_Md_type : Cond.instanceMethod y_Md_type ∈ aw_tw ∧ Cond.selects (y_Md_type).cls y_Md_type y_Md_type ∈ aw_tw := ⟨n_im_Md_type, n_se_Md_type⟩
theorem mb_Md_is : aw_MB y_Md_is c_Md_is 3 (some .boolean) 3 := ⟨n_co_Md_is, n_ini_Md, by decide +kernel⟩
theorem mb_Md_label : aw_MB y_Md_label c_Md_label 2 (some .int) 1 := ⟨n_co_Md_label, n_ini_Md, by decide +kernel⟩
theorem mi_Md_label : Cond.instanceMethod y_Md_label ∈ aw_tw ∧ Cond.selects (y_Md_label).cls y_Md_label y_Md_label ∈ aw_tw := ⟨n_im_Md_label, n_se_Md_label⟩
theorem mb_Md_note : aw_MB y_Md_note c_Md_note 5 (some .int) 2 := ⟨n_co_Md_note, n_ini_Md, by decide +kernel⟩
theorem mi_Md_note : Cond.instanceMethod y_Md_note ∈ aw_tw ∧ Cond.selects (y_Md_note).cls y_Md_note y_Md_note ∈ aw_tw := ⟨n_im_Md_note, n_se_Md_note⟩
theorem mb_Md_find : aw_MB y_Md_find c_Md_find 6 (some .int) 2 := ⟨n_co_Md_find, n_ini_Md, by decide +kernel⟩
theorem mi_Md_find : Cond.instanceMethod y_Md_find ∈ aw_tw ∧ Cond.selects (y_Md_find).cls y_Md_find y_Md_find ∈ aw_tw := ⟨n_im_Md_find, n_se_Md_find⟩
theorem mb_Md_resolve : aw_MB y_Md_resolve c_Md_resolve 4 (some .int) 0 := ⟨n_co_Md_resolve, n_ini_Md, by decide +kernel⟩
theorem mi_Md_resolve : Cond.instanceMethod y_Md_resolve ∈ aw_tw ∧ Cond.selects (y_Md_resolve).cls y_Md_resolve y_Md_resolve ∈ aw_tw := ⟨n_im_Md_resolve, n_se_Md_resolve⟩
theorem mb_Md_wrong : aw_MB y_Md_wrong c_Md_wrong 4 (some .int) 0 := ⟨n_co_Md_wrong, n_ini_Md, by decide +kernel⟩
theorem mi_Md_wrong : Cond.instanceMethod y_Md_wrong ∈ aw_tw ∧ Cond.selects (y_Md_wrong).cls y_Md_wrong y_Md_wrong ∈ aw_tw := ⟨n_im_Md_wrong, n_se_Md_wrong⟩
theorem mb_Md_hex : aw_MB y_Md_hex c_Md_hex 1 (some .int) 1 := ⟨n_co_Md_hex, n_ini_Md, by decide +kernel⟩
theorem mb_Md_isDigit : aw_MB y_Md_isDigit c_Md_isDigit 1 (some .boolean) 1 := ⟨n_co_Md_isDigit, n_ini_Md, by decide +kernel⟩
theorem mb_Md_resolveAgainst : aw_MB y_Md_resolveAgainst c_Md_resolveAgainst 5 none 0 := ⟨n_co_Md_resolveAgainst, n_ini_Md, by decide +kernel⟩
theorem mi_Md_resolveAgainst : Cond.instanceMethod y_Md_resolveAgainst ∈ aw_tw ∧ Cond.selects (y_Md_resolveAgainst).cls y_Md_resolveAgainst y_Md_resolveAgainst ∈ aw_tw := ⟨n_im_Md_resolveAgainst, n_se_Md_resolveAgainst⟩
theorem mb_Md_take : aw_MB y_Md_take c_Md_take 3 none 1 := ⟨n_co_Md_take, n_ini_Md, by decide +kernel⟩
theorem mi_Md_take : Cond.instanceMethod y_Md_take ∈ aw_tw ∧ Cond.selects (y_Md_take).cls y_Md_take y_Md_take ∈ aw_tw := ⟨n_im_Md_take, n_se_Md_take⟩
theorem mb_Md_split : aw_MB y_Md_split c_Md_split 3 none 0 := ⟨n_co_Md_split, n_ini_Md, by decide +kernel⟩
theorem mi_Md_split : Cond.instanceMethod y_Md_split ∈ aw_tw ∧ Cond.selects (y_Md_split).cls y_Md_split y_Md_split ∈ aw_tw := ⟨n_im_Md_split, n_se_Md_split⟩
theorem mb_Md_refAt : aw_MB y_Md_refAt c_Md_refAt 2 (some .int) 1 := ⟨n_co_Md_refAt, n_ini_Md, by decide +kernel⟩
theorem mi_Md_refAt : Cond.instanceMethod y_Md_refAt ∈ aw_tw ∧ Cond.selects (y_Md_refAt).cls y_Md_refAt y_Md_refAt ∈ aw_tw := ⟨n_im_Md_refAt, n_se_Md_refAt⟩
theorem mb_Md_isLetter : aw_MB y_Md_isLetter c_Md_isLetter 1 (some .boolean) 1 := ⟨n_co_Md_isLetter, n_ini_Md, by decide +kernel⟩
theorem mb_Md_isSmall : aw_MB y_Md_isSmall c_Md_isSmall 1 (some .boolean) 1 := ⟨n_co_Md_isSmall, n_ini_Md, by decide +kernel⟩
theorem mb_Md_stop : aw_MB y_Md_stop c_Md_stop 5 (some .int) 3 := ⟨n_co_Md_stop, n_ini_Md, by decide +kernel⟩
theorem mi_Md_stop : Cond.instanceMethod y_Md_stop ∈ aw_tw ∧ Cond.selects (y_Md_stop).cls y_Md_stop y_Md_stop ∈ aw_tw := ⟨n_im_Md_stop, n_se_Md_stop⟩
theorem mb_Md_addRef : aw_MB y_Md_addRef c_Md_addRef 4 none 2 := ⟨n_co_Md_addRef, n_ini_Md, by decide +kernel⟩
theorem mi_Md_addRef : Cond.instanceMethod y_Md_addRef ∈ aw_tw ∧ Cond.selects (y_Md_addRef).cls y_Md_addRef y_Md_addRef ∈ aw_tw := ⟨n_im_Md_addRef, n_se_Md_addRef⟩
theorem mb_Md_add : aw_MB y_Md_add c_Md_add 2 none 1 := ⟨n_co_Md_add, n_ini_Md, by decide +kernel⟩
theorem mi_Md_add : Cond.instanceMethod y_Md_add ∈ aw_tw ∧ Cond.selects (y_Md_add).cls y_Md_add y_Md_add ∈ aw_tw := ⟨n_im_Md_add, n_se_Md_add⟩
theorem mb_Md_addBase : aw_MB y_Md_addBase c_Md_addBase 4 none 2 := ⟨n_co_Md_addBase, n_ini_Md, by decide +kernel⟩
theorem mi_Md_addBase : Cond.instanceMethod y_Md_addBase ∈ aw_tw ∧ Cond.selects (y_Md_addBase).cls y_Md_addBase y_Md_addBase ∈ aw_tw := ⟨n_im_Md_addBase, n_se_Md_addBase⟩
theorem mb_Md_lead : aw_MB y_Md_lead c_Md_lead 3 none 2 := ⟨n_co_Md_lead, n_ini_Md, by decide +kernel⟩
theorem mi_Md_lead : Cond.instanceMethod y_Md_lead ∈ aw_tw ∧ Cond.selects (y_Md_lead).cls y_Md_lead y_Md_lead ∈ aw_tw := ⟨n_im_Md_lead, n_se_Md_lead⟩
theorem mb_Md_merge : aw_MB y_Md_merge c_Md_merge 3 none 0 := ⟨n_co_Md_merge, n_ini_Md, by decide +kernel⟩
theorem mi_Md_merge : Cond.instanceMethod y_Md_merge ∈ aw_tw ∧ Cond.selects (y_Md_merge).cls y_Md_merge y_Md_merge ∈ aw_tw := ⟨n_im_Md_merge, n_se_Md_merge⟩
theorem mb_Md_feed : aw_MB y_Md_feed c_Md_feed 4 none 2 := ⟨n_co_Md_feed, n_ini_Md, by decide +kernel⟩
theorem mi_Md_feed : Cond.instanceMethod y_Md_feed ∈ aw_tw ∧ Cond.selects (y_Md_feed).cls y_Md_feed y_Md_feed ∈ aw_tw := ⟨n_im_Md_feed, n_se_Md_feed⟩
theorem mb_Md_plain : aw_MB y_Md_plain c_Md_plain 3 none 0 := ⟨n_co_Md_plain, n_ini_Md, by decide +kernel⟩
theorem mi_Md_plain : Cond.instanceMethod y_Md_plain ∈ aw_tw ∧ Cond.selects (y_Md_plain).cls y_Md_plain y_Md_plain ∈ aw_tw := ⟨n_im_Md_plain, n_se_Md_plain⟩
theorem mb_Md_begins : aw_MB y_Md_begins c_Md_begins 5 (some .boolean) 4 := ⟨n_co_Md_begins, n_ini_Md, by decide +kernel⟩
theorem mi_Md_begins : Cond.instanceMethod y_Md_begins ∈ aw_tw ∧ Cond.selects (y_Md_begins).cls y_Md_begins y_Md_begins ∈ aw_tw := ⟨n_im_Md_begins, n_se_Md_begins⟩
theorem mb_Md_skip : aw_MB y_Md_skip c_Md_skip 3 none 1 := ⟨n_co_Md_skip, n_ini_Md, by decide +kernel⟩
theorem mi_Md_skip : Cond.instanceMethod y_Md_skip ∈ aw_tw ∧ Cond.selects (y_Md_skip).cls y_Md_skip y_Md_skip ∈ aw_tw := ⟨n_im_Md_skip, n_se_Md_skip⟩
theorem mb_Md_back : aw_MB y_Md_back c_Md_back 2 none 0 := ⟨n_co_Md_back, n_ini_Md, by decide +kernel⟩
theorem mi_Md_back : Cond.instanceMethod y_Md_back ∈ aw_tw ∧ Cond.selects (y_Md_back).cls y_Md_back y_Md_back ∈ aw_tw := ⟨n_im_Md_back, n_se_Md_back⟩
theorem mb_Md_base : aw_MB y_Md_base c_Md_base 2 (some .int) 1 := ⟨n_co_Md_base, n_ini_Md, by decide +kernel⟩
theorem mi_Md_base : Cond.instanceMethod y_Md_base ∈ aw_tw ∧ Cond.selects (y_Md_base).cls y_Md_base y_Md_base ∈ aw_tw := ⟨n_im_Md_base, n_se_Md_base⟩
theorem mb_Md_isAddress : aw_MB y_Md_isAddress c_Md_isAddress 2 (some .boolean) 1 := ⟨n_co_Md_isAddress, n_ini_Md, by decide +kernel⟩
theorem mi_Md_isAddress : Cond.instanceMethod y_Md_isAddress ∈ aw_tw ∧ Cond.selects (y_Md_isAddress).cls y_Md_isAddress y_Md_isAddress ∈ aw_tw := ⟨n_im_Md_isAddress, n_se_Md_isAddress⟩
theorem mb_Md_isTerm : aw_MB y_Md_isTerm c_Md_isTerm 2 (some .boolean) 1 := ⟨n_co_Md_isTerm, n_ini_Md, by decide +kernel⟩
theorem mi_Md_isTerm : Cond.instanceMethod y_Md_isTerm ∈ aw_tw ∧ Cond.selects (y_Md_isTerm).cls y_Md_isTerm y_Md_isTerm ∈ aw_tw := ⟨n_im_Md_isTerm, n_se_Md_isTerm⟩
theorem mb_Md_literal : aw_MB y_Md_literal c_Md_literal 6 (some .int) 1 := ⟨n_co_Md_literal, n_ini_Md, by decide +kernel⟩
theorem mi_Md_literal : Cond.instanceMethod y_Md_literal ∈ aw_tw ∧ Cond.selects (y_Md_literal).cls y_Md_literal y_Md_literal ∈ aw_tw := ⟨n_im_Md_literal, n_se_Md_literal⟩
theorem mb_Md_escaped : aw_MB y_Md_escaped c_Md_escaped 6 (some .int) 1 := ⟨n_co_Md_escaped, n_ini_Md, by decide +kernel⟩
theorem mi_Md_escaped : Cond.instanceMethod y_Md_escaped ∈ aw_tw ∧ Cond.selects (y_Md_escaped).cls y_Md_escaped y_Md_escaped ∈ aw_tw := ⟨n_im_Md_escaped, n_se_Md_escaped⟩
theorem mb_Md_isText : aw_MB y_Md_isText c_Md_isText 1 (some .boolean) 1 := ⟨n_co_Md_isText, n_ini_Md, by decide +kernel⟩
theorem mb_Md_tagged : aw_MB y_Md_tagged c_Md_tagged 9 (some .int) 1 := ⟨n_co_Md_tagged, n_ini_Md, by decide +kernel⟩
theorem mi_Md_tagged : Cond.instanceMethod y_Md_tagged ∈ aw_tw ∧ Cond.selects (y_Md_tagged).cls y_Md_tagged y_Md_tagged ∈ aw_tw := ⟨n_im_Md_tagged, n_se_Md_tagged⟩
theorem mb_Md_prefix : aw_MB y_Md_prefix c_Md_prefix 7 (some .int) 1 := ⟨n_co_Md_prefix, n_ini_Md, by decide +kernel⟩
theorem mi_Md_prefix : Cond.instanceMethod y_Md_prefix ∈ aw_tw ∧ Cond.selects (y_Md_prefix).cls y_Md_prefix y_Md_prefix ∈ aw_tw := ⟨n_im_Md_prefix, n_se_Md_prefix⟩
theorem mb_Md_part : aw_MB y_Md_part c_Md_part 3 (some .int) 2 := ⟨n_co_Md_part, n_ini_Md, by decide +kernel⟩
theorem mi_Md_part : Cond.instanceMethod y_Md_part ∈ aw_tw ∧ Cond.selects (y_Md_part).cls y_Md_part y_Md_part ∈ aw_tw := ⟨n_im_Md_part, n_se_Md_part⟩
theorem mb_Md_kind : aw_MB y_Md_kind c_Md_kind 2 (some .int) 1 := ⟨n_co_Md_kind, n_ini_Md, by decide +kernel⟩
theorem mi_Md_kind : Cond.instanceMethod y_Md_kind ∈ aw_tw ∧ Cond.selects (y_Md_kind).cls y_Md_kind y_Md_kind ∈ aw_tw := ⟨n_im_Md_kind, n_se_Md_kind⟩
theorem mb_Md_sort : aw_MB y_Md_sort c_Md_sort 2 (some .int) 1 := ⟨n_co_Md_sort, n_ini_Md, by decide +kernel⟩
theorem mi_Md_sort : Cond.instanceMethod y_Md_sort ∈ aw_tw ∧ Cond.selects (y_Md_sort).cls y_Md_sort y_Md_sort ∈ aw_tw := ⟨n_im_Md_sort, n_se_Md_sort⟩
theorem mb_Md_alike : aw_MB y_Md_alike c_Md_alike 3 (some .int) 2 := ⟨n_co_Md_alike, n_ini_Md, by decide +kernel⟩
theorem mi_Md_alike : Cond.instanceMethod y_Md_alike ∈ aw_tw ∧ Cond.selects (y_Md_alike).cls y_Md_alike y_Md_alike ∈ aw_tw := ⟨n_im_Md_alike, n_se_Md_alike⟩
theorem mb_Md_isWhole : aw_MB y_Md_isWhole c_Md_isWhole 5 (some .boolean) 1 := ⟨n_co_Md_isWhole, n_ini_Md, by decide +kernel⟩
theorem mi_Md_isWhole : Cond.instanceMethod y_Md_isWhole ∈ aw_tw ∧ Cond.selects (y_Md_isWhole).cls y_Md_isWhole y_Md_isWhole ∈ aw_tw := ⟨n_im_Md_isWhole, n_se_Md_isWhole⟩
theorem mb_Md_whole : aw_MB y_Md_whole c_Md_whole 5 (some .long) 1 := ⟨n_co_Md_whole, n_ini_Md, by decide +kernel⟩
theorem mi_Md_whole : Cond.instanceMethod y_Md_whole ∈ aw_tw ∧ Cond.selects (y_Md_whole).cls y_Md_whole y_Md_whole ∈ aw_tw := ⟨n_im_Md_whole, n_se_Md_whole⟩
theorem mb_Md_truth : aw_MB y_Md_truth c_Md_truth 2 (some .int) 1 := ⟨n_co_Md_truth, n_ini_Md, by decide +kernel⟩
theorem mi_Md_truth : Cond.instanceMethod y_Md_truth ∈ aw_tw ∧ Cond.selects (y_Md_truth).cls y_Md_truth y_Md_truth ∈ aw_tw := ⟨n_im_Md_truth, n_se_Md_truth⟩
theorem mb_Md_isBytes : aw_MB y_Md_isBytes c_Md_isBytes 7 (some .boolean) 3 := ⟨n_co_Md_isBytes, n_ini_Md, by decide +kernel⟩
theorem mi_Md_isBytes : Cond.instanceMethod y_Md_isBytes ∈ aw_tw ∧ Cond.selects (y_Md_isBytes).cls y_Md_isBytes y_Md_isBytes ∈ aw_tw := ⟨n_im_Md_isBytes, n_se_Md_isBytes⟩
theorem mb_Md_compare : aw_MB y_Md_compare c_Md_compare 4 (some .int) 2 := ⟨n_co_Md_compare, n_ini_Md, by decide +kernel⟩
theorem mi_Md_compare : Cond.instanceMethod y_Md_compare ∈ aw_tw ∧ Cond.selects (y_Md_compare).cls y_Md_compare y_Md_compare ∈ aw_tw := ⟨n_im_Md_compare, n_se_Md_compare⟩
theorem mb_Md_rank : aw_MB y_Md_rank c_Md_rank 1 (some .int) 1 := ⟨n_co_Md_rank, n_ini_Md, by decide +kernel⟩
theorem mb_Md_compareBytes : aw_MB y_Md_compareBytes c_Md_compareBytes 5 (some .int) 2 := ⟨n_co_Md_compareBytes, n_ini_Md, by decide +kernel⟩
theorem mi_Md_compareBytes : Cond.instanceMethod y_Md_compareBytes ∈ aw_tw ∧ Cond.selects (y_Md_compareBytes).cls y_Md_compareBytes y_Md_compareBytes ∈ aw_tw := ⟨n_im_Md_compareBytes, n_se_Md_compareBytes⟩
theorem mb_Md_compareTags : aw_MB y_Md_compareTags c_Md_compareTags 5 (some .int) 2 := ⟨n_co_Md_compareTags, n_ini_Md, by decide +kernel⟩
theorem mi_Md_compareTags : Cond.instanceMethod y_Md_compareTags ∈ aw_tw ∧ Cond.selects (y_Md_compareTags).cls y_Md_compareTags y_Md_compareTags ∈ aw_tw := ⟨n_im_Md_compareTags, n_se_Md_compareTags⟩
theorem mb_Md_sign : aw_MB y_Md_sign c_Md_sign 1 (some .int) 1 := ⟨n_co_Md_sign, n_ini_Md, by decide +kernel⟩
theorem mb_Md_print : aw_MB y_Md_print c_Md_print 3 (some .int) 2 := ⟨n_co_Md_print, n_ini_Md, by decide +kernel⟩
theorem mi_Md_print : Cond.instanceMethod y_Md_print ∈ aw_tw ∧ Cond.selects (y_Md_print).cls y_Md_print y_Md_print ∈ aw_tw := ⟨n_im_Md_print, n_se_Md_print⟩
theorem mb_Md_tellAddress : aw_MB y_Md_tellAddress c_Md_tellAddress 6 none 2 := ⟨n_co_Md_tellAddress, n_ini_Md, by decide +kernel⟩
theorem mi_Md_tellAddress : Cond.instanceMethod y_Md_tellAddress ∈ aw_tw ∧ Cond.selects (y_Md_tellAddress).cls y_Md_tellAddress y_Md_tellAddress ∈ aw_tw := ⟨n_im_Md_tellAddress, n_se_Md_tellAddress⟩
theorem mb_Md_isNameBefore : aw_MB y_Md_isNameBefore c_Md_isNameBefore 4 (some .boolean) 2 := ⟨n_co_Md_isNameBefore, n_ini_Md, by decide +kernel⟩
theorem mi_Md_isNameBefore : Cond.instanceMethod y_Md_isNameBefore ∈ aw_tw ∧ Cond.selects (y_Md_isNameBefore).cls y_Md_isNameBefore y_Md_isNameBefore ∈ aw_tw := ⟨n_im_Md_isNameBefore, n_se_Md_isNameBefore⟩
theorem mb_Md_shortens : aw_MB y_Md_shortens c_Md_shortens 7 (some .boolean) 2 := ⟨n_co_Md_shortens, n_ini_Md, by decide +kernel⟩
theorem mi_Md_shortens : Cond.instanceMethod y_Md_shortens ∈ aw_tw ∧ Cond.selects (y_Md_shortens).cls y_Md_shortens y_Md_shortens ∈ aw_tw := ⟨n_im_Md_shortens, n_se_Md_shortens⟩
theorem mb_Md_tell : aw_MB y_Md_tell c_Md_tell 2 none 1 := ⟨n_co_Md_tell, n_ini_Md, by decide +kernel⟩
theorem mi_Md_tell : Cond.instanceMethod y_Md_tell ∈ aw_tw ∧ Cond.selects (y_Md_tell).cls y_Md_tell y_Md_tell ∈ aw_tw := ⟨n_im_Md_tell, n_se_Md_tell⟩
theorem mb_Md_tellAll : aw_MB y_Md_tellAll c_Md_tellAll 5 none 2 := ⟨n_co_Md_tellAll, n_ini_Md, by decide +kernel⟩
theorem mi_Md_tellAll : Cond.instanceMethod y_Md_tellAll ∈ aw_tw ∧ Cond.selects (y_Md_tellAll).cls y_Md_tellAll y_Md_tellAll ∈ aw_tw := ⟨n_im_Md_tellAll, n_se_Md_tellAll⟩
theorem mb_Md_tellNumber : aw_MB y_Md_tellNumber c_Md_tellNumber 2 none 1 := ⟨n_co_Md_tellNumber, n_ini_Md, by decide +kernel⟩
theorem mi_Md_tellNumber : Cond.instanceMethod y_Md_tellNumber ∈ aw_tw ∧ Cond.selects (y_Md_tellNumber).cls y_Md_tellNumber y_Md_tellNumber ∈ aw_tw := ⟨n_im_Md_tellNumber, n_se_Md_tellNumber⟩
theorem mb_Md_tellLiteral : aw_MB y_Md_tellLiteral c_Md_tellLiteral 4 none 1 := ⟨n_co_Md_tellLiteral, n_ini_Md, by decide +kernel⟩
theorem mi_Md_tellLiteral : Cond.instanceMethod y_Md_tellLiteral ∈ aw_tw ∧ Cond.selects (y_Md_tellLiteral).cls y_Md_tellLiteral y_Md_tellLiteral ∈ aw_tw := ⟨n_im_Md_tellLiteral, n_se_Md_tellLiteral⟩
theorem mb_Md_at : aw_MB y_Md_at c_Md_at 2 (some .int) 1 := ⟨n_co_Md_at, n_ini_Md, by decide +kernel⟩
theorem mi_Md_at : Cond.instanceMethod y_Md_at ∈ aw_tw ∧ Cond.selects (y_Md_at).cls y_Md_at y_Md_at ∈ aw_tw := ⟨n_im_Md_at, n_se_Md_at⟩
theorem mb_Md_count : aw_MB y_Md_count c_Md_count 2 (some .int) 1 := ⟨n_co_Md_count, n_ini_Md, by decide +kernel⟩
theorem mi_Md_count : Cond.instanceMethod y_Md_count ∈ aw_tw ∧ Cond.selects (y_Md_count).cls y_Md_count y_Md_count ∈ aw_tw := ⟨n_im_Md_count, n_se_Md_count⟩
theorem I_Px : aw_CI 0 "AddressTerms$Prefix" T_Px 2 t_Px := by
  refine ⟨rfl, ?_, by decide +kernel, by decide +kernel⟩
  intro w hw
  obtain ⟨k, hk, rfl⟩ := List.mem_map.mp hw
  have hk := List.mem_range.mp hk
  rcases (show k = 0 ∨ k = 1 by omega) with rfl | rfl
  · exact n_la_Px_name
  · exact n_la_Px_address
theorem I_Rf : aw_CI 1 "AddressTerms$Reference" T_Rf 3 t_Rf := by
  refine ⟨rfl, ?_, by decide +kernel, by decide +kernel⟩
  intro w hw
  obtain ⟨k, hk, rfl⟩ := List.mem_map.mp hw
  have hk := List.mem_range.mp hk
  rcases (show k = 0 ∨ k = 1 ∨ k = 2 by omega) with rfl | rfl | rfl
  · exact n_la_Rf_begins
  · exact n_la_Rf_ends
  · exact n_la_Rf_row
theorem I_Rs : aw_CI 2 "AddressTerms$Resolver" T_Rs 1 t_Rs := by
  refine ⟨rfl, ?_, by decide +kernel, by decide +kernel⟩
  intro w hw
  obtain ⟨k, hk, rfl⟩ := List.mem_map.mp hw
  have hk := List.mem_range.mp hk
  rcases (show k = 0 by omega) with rfl
  · exact n_la_Rs_path
theorem I_Rw : aw_CI 3 "AddressTerms$Row" T_Rw 2 t_Rw := by
  refine ⟨rfl, ?_, by decide +kernel, by decide +kernel⟩
  intro w hw
  obtain ⟨k, hk, rfl⟩ := List.mem_map.mp hw
  have hk := List.mem_range.mp hk
  rcases (show k = 0 ∨ k = 1 by omega) with rfl | rfl
  · exact n_la_Rw_bytes
  · exact n_la_Rw_length
theorem I_Tm : aw_CI 4 "AddressTerms$Term" T_Tm 5 t_Tm := by
  refine ⟨rfl, ?_, by decide +kernel, by decide +kernel⟩
  intro w hw
  obtain ⟨k, hk, rfl⟩ := List.mem_map.mp hw
  have hk := List.mem_range.mp hk
  rcases (show k = 0 ∨ k = 1 ∨ k = 2 ∨ k = 3 ∨ k = 4 by omega) with rfl | rfl | rfl | rfl | rfl
  · exact n_la_Tm_text
  · exact n_la_Tm_tag
  · exact n_la_Tm_kind
  · exact n_la_Tm_sort
  · exact n_la_Tm_number
theorem I_At : aw_CI 5 "AddressTerms" T_At 11 t_At := by
  refine ⟨rfl, ?_, by decide +kernel, by decide +kernel⟩
  intro w hw
  obtain ⟨k, hk, rfl⟩ := List.mem_map.mp hw
  have hk := List.mem_range.mp hk
  rcases (show k = 0 ∨ k = 1 ∨ k = 2 ∨ k = 3 ∨ k = 4 ∨ k = 5 ∨ k = 6 ∨ k = 7 ∨ k = 8 ∨ k = 9 ∨ k = 10 by omega) with rfl | rfl | rfl | rfl | rfl | rfl | rfl | rfl | rfl | rfl | rfl
  · exact n_la_At_tape
  · exact n_la_At_printed
  · exact n_la_At_terms
  · exact n_la_At_prefixes
  · exact n_la_At_wanted
  · exact n_la_At_given
  · exact n_la_At_known
  · exact n_la_At_resolver
  · exact n_la_At_termCount
  · exact n_la_At_prefixCount
  · exact n_la_At_baseTerm
theorem I_Md : aw_CI 6 "AddressTermsModel" T_Md 30 t_Md := by
  refine ⟨rfl, ?_, by decide +kernel, by decide +kernel⟩
  intro w hw
  obtain ⟨k, hk, rfl⟩ := List.mem_map.mp hw
  have hk := List.mem_range.mp hk
  rcases (show k = 0 ∨ k = 1 ∨ k = 2 ∨ k = 3 ∨ k = 4 ∨ k = 5 ∨ k = 6 ∨ k = 7 ∨ k = 8 ∨ k = 9 ∨ k = 10 ∨ k = 11 ∨ k = 12 ∨ k = 13 ∨ k = 14 ∨ k = 15 ∨ k = 16 ∨ k = 17 ∨ k = 18 ∨ k = 19 ∨ k = 20 ∨ k = 21 ∨ k = 22 ∨ k = 23 ∨ k = 24 ∨ k = 25 ∨ k = 26 ∨ k = 27 ∨ k = 28 ∨ k = 29 by omega) with rfl | rfl | rfl | rfl | rfl | rfl | rfl | rfl | rfl | rfl | rfl | rfl | rfl | rfl | rfl | rfl | rfl | rfl | rfl | rfl | rfl | rfl | rfl | rfl | rfl | rfl | rfl | rfl | rfl | rfl
  · exact n_la_Md_tapeMany
  · exact n_la_Md_tape
  · exact n_la_Md_terms
  · exact n_la_Md_kinds
  · exact n_la_Md_numbers
  · exact n_la_Md_sizes
  · exact n_la_Md_bytes
  · exact n_la_Md_tagSizes
  · exact n_la_Md_tags
  · exact n_la_Md_base
  · exact n_la_Md_prefixes
  · exact n_la_Md_nameSizes
  · exact n_la_Md_names
  · exact n_la_Md_addresses
  · exact n_la_Md_made
  · exact n_la_Md_row
  · exact n_la_Md_madeTag
  · exact n_la_Md_tag
  · exact n_la_Md_printedMany
  · exact n_la_Md_printed
  · exact n_la_Md_refMany
  · exact n_la_Md_ref
  · exact n_la_Md_froms
  · exact n_la_Md_tos
  · exact n_la_Md_baseFroms
  · exact n_la_Md_baseTos
  · exact n_la_Md_inMany
  · exact n_la_Md_in
  · exact n_la_Md_outMany
  · exact n_la_Md_out
end
