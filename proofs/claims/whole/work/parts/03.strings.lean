/-! the text constants, by their places; what a state holds beside the cells of the walk -/
def st_site : List (String × Nat) := [("AddressTerms", 248), ("AddressTerms", 299), ("AddressTerms", 305), ("AddressTerms", 307), ("AddressTerms", 309), ("AddressTerms", 142), ("AddressTerms", 236), ("AddressTerms", 238), ("AddressTerms", 240), ("AddressTerms", 242), ("AddressTerms", 244), ("AddressTerms", 230), ("AddressTerms", 232), ("AddressTerms", 234), ("AddressTerms$Reference", 35), ("AddressTerms$Reference", 41), ("AddressTerms$Reference", 47), ("AddressTerms$Reference", 49), ("AddressTerms$Resolver", 37), ("AddressTerms$Resolver", 73), ("AddressTerms$Resolver", 79), ("AddressTerms$Resolver", 81), ("AddressTerms$Resolver", 83), ("AddressTerms$Resolver", 92), ("AddressTerms$Resolver", 97), ("AddressTerms$Resolver", 99), ("AddressTerms$Resolver", 101), ("AddressTerms$Resolver", 103), ("AddressTerms$Resolver", 51), ("AddressTerms$Resolver", 53)]
def st_byt : List (List Int32) := [[34, 60, 62, 92, 94, 96, 123, 124, 125], [116, 114, 117, 101], [49], [102, 97, 108, 115, 101], [48], [95, 58, 98], [92, 116], [92, 110], [92, 114], [92, 34], [92, 92], [94, 94, 119, 104, 111, 108, 101], [94, 94, 116, 114, 117, 116, 104], [94, 94, 111, 116, 104, 101, 114], [47, 47], [47, 63, 35], [63, 35], [35], [47, 47], [46, 46, 47], [46, 47], [47, 46, 47], [47, 46], [47, 46, 46, 47], [47, 46, 46], [46], [46, 46], [47], [63], [35]]
def st_s (i : Nat) : String × Nat := st_site.getD i ("", 0)
def st_b (i : Nat) : List Int32 := st_byt.getD i []
def aw_tn : List (String × Nat × MethodName) := [("AddressTerms", 42, y_Rf_init), ("AddressTerms", 52, y_Rs_init), ("AddressTerms$Reference", 58, y_At_isLetter), ("AddressTerms$Reference", 62, y_At_isLetterOrDigit), ("AddressTerms$Term", 54, y_At_orderOf), ("AddressTerms$Row", 51, y_At_orderOf), ("AddressTerms$Prefix", 30, y_At_isLetterOrDigit), ("AddressTerms$Prefix", 36, y_At_orderOf)]
/-- an abstract heap: what is known of the cells, by their addresses -/
abbrev AH : Type := Nat → Option va_E
/-- the classes' numbers and slots; the array classes; the first cell that is ours; the literals' cells and their bytes' cells -/
abbrev aw_E : Type := va_G × (Nat → ClassId) × Nat × (Nat → Nat) × (Nat → Nat)
def aw_A (E : aw_E) : Nat → Prop := fun q => E.2.2.1 ≤ q
/-- a literal: its place in the pool, its cell, its bytes -/
def aw_S1 (E : aw_E) (i : Nat) (U : State) (H : Heap) : Prop := (∃ tx : String, vk_R (st_s i).1 (st_s i).2 tx (E.2.2.2.1 i) U) ∧ va_O "java/lang/String" (E.2.2.2.1 i) (aw_A E) U H ∧ va_OF "java/lang/String" "coder" "B" (.int 0) (E.2.2.2.1 i) (aw_A E) U H ∧ va_OF "java/lang/String" "value" "[B" (.ref (E.2.2.2.2 i)) (E.2.2.2.1 i) (aw_A E) U H ∧ va_T .byte (E.2.2.2.2 i) (st_b i).length (fun j => .int ((st_b i).getD j 0)) (aw_A E) U H
def aw_St (E : aw_E) (U : State) (H : Heap) : Prop := (∀ i, i < 30 → aw_S1 E i U H) ∧ va_Z "java/lang/String" "COMPACT_STRINGS" "Z" (.int 1) (aw_A E) U H ∧ (∀ q ∈ aw_tn, va_Nw (.methodLinkNest q.1 q.2.1 q.2.2 "AddressTerms") U) ∧ va_AO aw_c2 U ∧ va_AO aw_c3 U ∧ va_Zq "jdk/internal/util/Preconditions" "SIOOBE_FORMATTER" "Ljava/util/function/BiFunction;" (aw_A E) U H
theorem aw_St.moved {E : aw_E} {U U2 : State} {H : Heap} (hW : U.WarmedH U2.vm) (h : aw_St E U H) : aw_St E U2 H := by
  refine ⟨fun i hi => ?_, va_Z.moved hW.alike h.2.1, fun q hq => va_Nw.warmM hW (h.2.2.1 q hq), h.2.2.2.1.moved hW.alike, h.2.2.2.2.1.moved hW.alike, h.2.2.2.2.2.moved hW.alike⟩
  obtain ⟨⟨tx, h1⟩, h2, h3, h4, h5⟩ := h.1 i hi
  exact ⟨⟨tx, vk_R.warm hW h1⟩, va_O.moved hW.alike h2, va_OF.moved hW.alike h3, va_OF.moved hW.alike h4, va_T.moved hW.alike h5⟩
theorem aw_St.same {E : aw_E} {U U2 : State} {H : Heap} (hv : U2.vm = U.vm) (h : aw_St E U H) : aw_St E U2 H := by
  have ha : U.vm.Alike U2.vm := by rw [hv]; exact Vm.Alike.refl U.vm
  refine ⟨fun i hi => ?_, va_Z.moved ha h.2.1, fun q hq => va_Nw.same rfl hv.symm (h.2.2.1 q hq), h.2.2.2.1.moved ha, h.2.2.2.2.1.moved ha, h.2.2.2.2.2.moved ha⟩
  obtain ⟨⟨tx, h1⟩, h2, h3, h4, h5⟩ := h.1 i hi
  exact ⟨⟨tx, vk_R.same hv h1⟩, va_O.moved ha h2, va_OF.moved ha h3, va_OF.moved ha h4, va_T.moved ha h5⟩
theorem aw_St.kept {E : aw_E} {U : State} {H0 H : Heap} {locs : List Loc} (hS : va_S (aw_A E) H0 H locs) (h : aw_St E U H0) : aw_St E U H := by
  refine ⟨fun i hi => ?_, h.2.1.kept hS.2.1, h.2.2.1, h.2.2.2.1, h.2.2.2.2.1, h.2.2.2.2.2.kept hS.2.1⟩
  obtain ⟨h1, h2, h3, h4, h5⟩ := h.1 i hi
  exact ⟨h1, h2.kept hS.2.1, h3.kept hS.2.1, h4.kept hS.2.1, h5.kept hS.2.1⟩
