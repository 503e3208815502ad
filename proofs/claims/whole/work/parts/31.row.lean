/-! rows of bytes -/
theorem ix_of {p : Int32} {n : Nat} (hn : n < 2 ^ 31) (h0 : ¬ p < 0) (h1 : ¬ nI n ≤ p) : ∃ j : Nat, j < n ∧ p = nI j := by
  rcases pk_ix p hn with h | h | h
  · exact absurd h h0
  · exact absurd h h1
  · exact h
def sp_bt (x : Int32) : Prop := 0 ≤ x ∧ x ≤ 127
theorem byte_all : ∀ j, j < 128 → (nI j).toInt8.toInt32 = nI j := by decide +kernel
theorem byte_all2 : ∀ j, j < 128 → sp_bt (nI j) := by unfold sp_bt; decide +kernel
theorem sp_bt.nat {x : Int32} (h : sp_bt x) : ∃ j, j < 128 ∧ x = nI j := by
  obtain ⟨j, hj, e⟩ := nI_of2 (M := 127) (n := 127) (by decide) (Int32.not_lt.mpr h.1) h.2
  exact ⟨j, by omega, e⟩
theorem sp_bt.id {x : Int32} (h : sp_bt x) : x.toInt8.toInt32 = x := by
  obtain ⟨j, hj, rfl⟩ := h.nat
  exact byte_all j hj
def sp_at (xs : List Int32) (p : Int32) : Int32 := if p < 0 then -1 else xs.getD p.toNatClampNeg (-1)
theorem sp_at_neg {xs : List Int32} {p : Int32} (h : p < 0) : sp_at xs p = -1 := if_pos h
theorem sp_at_nI {xs : List Int32} {j : Nat} (h : j < 2 ^ 31) : sp_at xs (nI j) = xs.getD j (-1) := by rw [sp_at, if_neg (nI_pos h), nI_clamp h]
theorem sp_at_ge {xs : List Int32} {p : Int32} (hn : xs.length < 2 ^ 31) (h0 : ¬ p < 0) (h : nI xs.length ≤ p) : sp_at xs p = -1 := by
  obtain ⟨j, hj, rfl⟩ := nI_of h0
  rw [nI_leI hn hj] at h
  rw [sp_at_nI hj]
  simp [List.getD_eq_getElem?_getD, List.getElem?_eq_none h]
/-- a row object at a, its bytes' array behind it: room N, it holds xs -/
def IsRow (E : aw_E) (g : AH) (a N : Nat) (xs : List Int32) : Prop :=
  E.2.2.1 ≤ a ∧ xs.length ≤ N ∧ N < 1000 ∧ (∀ x ∈ xs, sp_bt x) ∧ g a = some (.inr (3, [.ref (a + 1), .int (nI xs.length)])) ∧ ∃ f : Nat → Int32, g (a + 1) = some (.inl (E.2.1 0, N, .inl f)) ∧ ∀ i, i < xs.length → f i = xs.getD i (-1)
/-- outside of k cells from a on nothing has changed -/
def aw_fr (g g2 : AH) (a k : Nat) : Prop := ∀ x : Nat, (x < a ∨ a + k ≤ x) → g2 x = g x
theorem IsRow.keep {E : aw_E} {g g2 : AH} {a N : Nat} {xs : List Int32} (h : IsRow E g a N xs) (h1 : g2 a = g a) (h2 : g2 (a + 1) = g (a + 1)) : IsRow E g2 a N xs := by
  obtain ⟨r1, r2, r3, r4, r5, f, r6, r7⟩ := h
  exact ⟨r1, r2, r3, r4, h1.trans r5, f, h2.trans r6, r7⟩
theorem IsRow.fr {E : aw_E} {g g2 : AH} {a N b k : Nat} {xs : List Int32} (h : IsRow E g a N xs) (hf : aw_fr g g2 b k) (hd : a + 2 ≤ b ∨ b + k ≤ a) : IsRow E g2 a N xs := h.keep (hf a (by omega)) (hf (a + 1) (by omega))
theorem aw_fr.rf {g : AH} {a k : Nat} : aw_fr g g a k := fun _ _ => rfl
theorem aw_fr.tr {g g2 g3 : AH} {a k : Nat} (h1 : aw_fr g g2 a k) (h2 : aw_fr g2 g3 a k) : aw_fr g g3 a k := fun x hx => (h2 x hx).trans (h1 x hx)
theorem aw_fr.wide {g g2 : AH} {a k b j : Nat} (h : aw_fr g g2 a k) (h1 : b ≤ a) (h2 : a + k ≤ b + j) : aw_fr g g2 b j := fun x hx => h x (by omega)
theorem getD_mem {xs : List Int32} {i : Nat} (h : i < xs.length) : xs.getD i (-1) ∈ xs := by
  rw [List.getD_eq_getElem?_getD, List.getElem?_eq_getElem h]
  exact List.getElem_mem h
theorem getD_app {xs : List Int32} {b : Int32} {i : Nat} (h : i < xs.length) : (xs ++ [b]).getD i (-1) = xs.getD i (-1) := by
  simp [List.getD_eq_getElem?_getD, List.getElem?_append_left h]
theorem getD_app2 {xs : List Int32} {b : Int32} : (xs ++ [b]).getD xs.length (-1) = b := by
  simp [List.getD_eq_getElem?_getD]
theorem getD_at {xs : List Int32} {i : Nat} (h : i < xs.length) : xs.getD i (-1) = xs[i] := by
  simp [List.getD_eq_getElem?_getD, List.getElem?_eq_getElem h]
set_option maxRecDepth 100000 in
set_option maxHeartbeats 4000000 in
theorem ev_Rw_size {l : Launch} {E : aw_E} {g : AH} {n : Nat} {a N : Nat} {xs : List Int32} (hR : IsRow E g a N xs) : EV l E 0 0 0 y_Rw_size c_Rw_size 1 (some .int) g n [.ref a] (aw_Pi (fun r_ g2 n2 => r_ = nI xs.length ∧ g2 = g ∧ n2 = n)) := by
  obtain ⟨r1, r2, r3, r4, r5, f, r6, r7⟩ := id hR
  refine aw_enter "AddressTerms$Row" [some (.ref a)] (by decide) rfl rfl (Nat.le_of_ble_eq_true rfl) ?_
  intro p e s m args below meth c S hnm
  refine aw_aload_0 S d_Rw_size_0 ?_
  refine aw_getf S I_Rw 1 (by assumption) n_fl_Rw_9 d_Rw_size_1 rfl (by decide) ?_
  refine aw_iret S rfl d_Rw_size_4 ?_ (by decide) (by decide)
  exact ⟨rfl, rfl, rfl⟩
set_option maxRecDepth 100000 in
set_option maxHeartbeats 4000000 in
theorem ev_Rw_byteAt {l : Launch} {E : aw_E} {g : AH} {n : Nat} {a N : Nat} {xs : List Int32} (p : Int32) (hR : IsRow E g a N xs) : EV l E 0 0 0 y_Rw_byteAt c_Rw_byteAt 2 (some .int) g n [.ref a, .int p] (aw_Pi (fun r_ g2 n2 => r_ = sp_at xs p ∧ g2 = g ∧ n2 = n)) := by
  obtain ⟨r1, r2, r3, r4, r5, f, r6, r7⟩ := id hR
  refine aw_enter "AddressTerms$Row" [some (.ref a), some (.int p)] (by decide) rfl rfl (Nat.le_of_ble_eq_true rfl) ?_
  intro p e s m args below meth c S hnm
  refine aw_iload_1 S d_Rw_byteAt_0 ?_
  refine aw_if_lt S 30 d_Rw_byteAt_1 (by decide) (fun c1 => ?_) (fun c1 => ?_)
  · refine aw_iconst (v := -1) S d_Rw_byteAt_30 (by decide) ?_
    refine aw_iret S rfl d_Rw_byteAt_31 ?_ (by decide) (by decide)
    exact ⟨(sp_at_neg c1).symm, rfl, rfl⟩
  · refine aw_iload_1 S d_Rw_byteAt_4 ?_
    refine aw_aload_0 S d_Rw_byteAt_5 ?_
    refine aw_getf S I_Rw 1 (by assumption) n_fl_Rw_9 d_Rw_byteAt_6 rfl (by decide) ?_
    refine aw_icmp_ge S 30 d_Rw_byteAt_9 (by decide) (fun c9 => ?_) (fun c9 => ?_)
    · refine aw_iconst (v := -1) S d_Rw_byteAt_30 (by decide) ?_
      refine aw_iret S rfl d_Rw_byteAt_31 ?_ (by decide) (by decide)
      exact ⟨(sp_at_ge (by omega) c1 c9).symm, rfl, rfl⟩
    · obtain ⟨j, hj, rfl⟩ := ix_of (by omega) c1 c9
      refine aw_iload_1 S d_Rw_byteAt_12 ?_
      refine aw_aload_0 S d_Rw_byteAt_13 ?_
      refine aw_getf S I_Rw 0 (by assumption) n_fl_Rw_21 d_Rw_byteAt_14 rfl (by decide) ?_
      refine aw_alen S 0 rfl r6 d_Rw_byteAt_17 ?_
      refine aw_icmp_ge S 30 d_Rw_byteAt_18 (by decide) (fun c18 => ?_) (fun c18 => ?_)
      · exact absurd c18 (nI_ge (by omega) (by omega))
      · refine aw_aload_0 S d_Rw_byteAt_21 ?_
        refine aw_getf S I_Rw 0 (by assumption) n_fl_Rw_21 d_Rw_byteAt_22 rfl (by decide) ?_
        refine aw_iload_1 S d_Rw_byteAt_25 ?_
        refine aw_bald S r6 d_Rw_byteAt_26 (vp_in_nI (by omega) (by omega)) ?_
        refine aw_goto S 31 d_Rw_byteAt_27 (by decide) ?_
        refine aw_iret S rfl d_Rw_byteAt_31 ?_ (by decide) (by decide)
        exact ⟨by rw [sp_at_nI (by omega), nI_clamp (by omega)]; exact r7 j hj, rfl, rfl⟩
set_option maxRecDepth 100000 in
set_option maxHeartbeats 4000000 in
theorem ev_Rw_add {l : Launch} {E : aw_E} {g : AH} {n : Nat} {a N : Nat} {xs : List Int32} (b : Int32) (hR : IsRow E g a N xs) (hb : sp_bt b) (hl : xs.length < N) : EV l E 0 0 0 y_Rw_add c_Rw_add 2 none g n [.ref a, .int b] (aw_Pv (fun g2 n2 => n2 = n ∧ IsRow E g2 a N (xs ++ [b]) ∧ aw_fr g g2 a 2)) := by
  obtain ⟨r1, r2, r3, r4, r5, f, r6, r7⟩ := id hR
  refine aw_enter "AddressTerms$Row" [some (.ref a), some (.int b)] (by decide) rfl rfl (Nat.le_of_ble_eq_true rfl) ?_
  intro p e s m args below meth c S hnm
  refine aw_aload_0 S d_Rw_add_0 ?_
  refine aw_getf S I_Rw 1 (by assumption) n_fl_Rw_9 d_Rw_add_1 rfl (by decide) ?_
  refine aw_if_lt S 40 d_Rw_add_4 (by decide) (fun c4 => ?_) (fun c4 => ?_)
  · exact absurd c4 (nI_pos (by omega))
  · refine aw_aload_0 S d_Rw_add_7 ?_
    refine aw_getf S I_Rw 1 (by assumption) n_fl_Rw_9 d_Rw_add_8 rfl (by decide) ?_
    refine aw_aload_0 S d_Rw_add_11 ?_
    refine aw_getf S I_Rw 0 (by assumption) n_fl_Rw_21 d_Rw_add_12 rfl (by decide) ?_
    refine aw_alen S 0 rfl r6 d_Rw_add_15 ?_
    refine aw_icmp_ge S 40 d_Rw_add_16 (by decide) (fun c16 => ?_) (fun c16 => ?_)
    · exact absurd c16 (nI_ge (by omega) (by omega))
    · refine aw_aload_0 S d_Rw_add_19 ?_
      refine aw_getf S I_Rw 0 (by assumption) n_fl_Rw_21 d_Rw_add_20 rfl (by decide) ?_
      refine aw_aload_0 S d_Rw_add_23 ?_
      refine aw_getf S I_Rw 1 (by assumption) n_fl_Rw_9 d_Rw_add_24 rfl (by decide) ?_
      refine aw_iload_1 S d_Rw_add_27 ?_
      refine aw_i2b S d_Rw_add_28 ?_
      refine aw_bast S r6 d_Rw_add_29 (by omega) (vp_in_nI (by omega) (by omega)) ?_
      refine aw_aload_0 S d_Rw_add_30 ?_
      refine aw_dup S d_Rw_add_31 rfl ?_
      refine aw_getf S I_Rw 1 (by rw [aw_up_n (by omega)]; exact r5) n_fl_Rw_9 d_Rw_add_32 rfl (by decide) ?_
      refine aw_iconst (v := 1) S d_Rw_add_35 (by decide) ?_
      refine aw_iadd S d_Rw_add_36 ?_
      refine aw_putf (fs2 := [.ref (a + 1), .int (nI xs.length + 1)]) S I_Rw 1 (by rw [aw_up_n (by omega)]; exact r5) n_fl_Rw_9 d_Rw_add_37 rfl r1 rfl rfl rfl (by decide) (Nat.le_of_ble_eq_true rfl) ?_
      refine aw_vret S rfl d_Rw_add_40 ?_ (by decide) (by decide)
      refine ⟨rfl, ⟨r1, by simp; omega, r3, ?_, ?_, upd f xs.length b, ?_, ?_⟩, ?_⟩
      · intro x hx
        rcases List.mem_append.mp hx with h | h
        · exact r4 x h
        · rw [List.mem_singleton.mp h]; exact hb
      · rw [aw_up_s, List.length_append, List.length_singleton, nI_succ]
      · rw [aw_up_n (by omega), aw_up_s, nI_clamp (by omega), hb.id, hb.id]
      · intro i hi
        rw [List.length_append, List.length_singleton] at hi
        by_cases h : i = xs.length
        · subst h
          rw [pk_us, getD_app2]
        · rw [pk_un h, r7 i (by omega), getD_app (by omega)]
      · intro x hx
        rw [aw_up_n (by omega), aw_up_n (by omega)]
set_option maxRecDepth 100000 in
set_option maxHeartbeats 4000000 in
theorem ev_Rw_cutTo {l : Launch} {E : aw_E} {g : AH} {n : Nat} {a N : Nat} {xs : List Int32} (k : Nat) (hR : IsRow E g a N xs) (hk : k < 2 ^ 31) : EV l E 0 0 0 y_Rw_cutTo c_Rw_cutTo 2 none g n [.ref a, .int (nI k)] (aw_Pv (fun g2 n2 => n2 = n ∧ IsRow E g2 a N (xs.take k) ∧ aw_fr g g2 a 2)) := by
  obtain ⟨r1, r2, r3, r4, r5, f, r6, r7⟩ := id hR
  refine aw_enter "AddressTerms$Row" [some (.ref a), some (.int (nI k))] (by decide) rfl rfl (Nat.le_of_ble_eq_true rfl) ?_
  intro p e s m args below meth c S hnm
  refine aw_iload_1 S d_Rw_cutTo_0 ?_
  refine aw_if_lt S 17 d_Rw_cutTo_1 (by decide) (fun c1 => ?_) (fun c1 => ?_)
  · exact absurd c1 (nI_pos hk)
  · refine aw_iload_1 S d_Rw_cutTo_4 ?_
    refine aw_aload_0 S d_Rw_cutTo_5 ?_
    refine aw_getf S I_Rw 1 (by assumption) n_fl_Rw_9 d_Rw_cutTo_6 rfl (by decide) ?_
    refine aw_icmp_ge S 17 d_Rw_cutTo_9 (by decide) (fun c9 => ?_) (fun c9 => ?_)
    · refine aw_vret S rfl d_Rw_cutTo_17 ?_ (by decide) (by decide)
      rw [nI_leI (by omega) hk] at c9
      rw [List.take_of_length_le c9]
      exact ⟨rfl, hR, aw_fr.rf⟩
    · refine aw_aload_0 S d_Rw_cutTo_12 ?_
      refine aw_iload_1 S d_Rw_cutTo_13 ?_
      refine aw_putf (fs2 := [.ref (a + 1), .int (nI k)]) S I_Rw 1 r5 n_fl_Rw_9 d_Rw_cutTo_14 rfl r1 rfl rfl rfl (by decide) (Nat.le_of_ble_eq_true rfl) ?_
      refine aw_vret S rfl d_Rw_cutTo_17 ?_ (by decide) (by decide)
      have hk2 : k < xs.length := by rw [nI_leI (by omega) hk] at c9; omega
      refine ⟨rfl, ⟨r1, by simp; omega, r3, fun x hx => r4 x (List.mem_of_mem_take hx), ?_, f, ?_, ?_⟩, ?_⟩
      · rw [aw_up_s, List.length_take, Nat.min_eq_left (by omega)]
      · rw [aw_up_n (by omega)]; exact r6
      · intro i hi
        rw [List.length_take] at hi
        rw [r7 i (by omega)]
        simp [List.getD_eq_getElem?_getD, List.getElem?_take, show i < k by omega]
      · intro x hx
        rw [aw_up_n (by omega)]
set_option maxRecDepth 100000 in
set_option maxHeartbeats 4000000 in
theorem ev_Rw_set {l : Launch} {E : aw_E} {g : AH} {n : Nat} {a N : Nat} {xs : List Int32} (k : Nat) (b : Int32) (hR : IsRow E g a N xs) (hb : sp_bt b) (hk : k < xs.length) : EV l E 0 0 0 y_Rw_set c_Rw_set 3 none g n [.ref a, .int (nI k), .int b] (aw_Pv (fun g2 n2 => n2 = n ∧ IsRow E g2 a N (xs.set k b) ∧ aw_fr g g2 a 2)) := by
  obtain ⟨r1, r2, r3, r4, r5, f, r6, r7⟩ := id hR
  refine aw_enter "AddressTerms$Row" [some (.ref a), some (.int (nI k)), some (.int b)] (by decide) rfl rfl (Nat.le_of_ble_eq_true rfl) ?_
  intro p e s m args below meth c S hnm
  refine aw_iload_1 S d_Rw_set_0 ?_
  refine aw_if_lt S 29 d_Rw_set_1 (by decide) (fun c1 => ?_) (fun c1 => ?_)
  · exact absurd c1 (nI_pos (by omega))
  · refine aw_iload_1 S d_Rw_set_4 ?_
    refine aw_aload_0 S d_Rw_set_5 ?_
    refine aw_getf S I_Rw 1 (by assumption) n_fl_Rw_9 d_Rw_set_6 rfl (by decide) ?_
    refine aw_icmp_ge S 29 d_Rw_set_9 (by decide) (fun c9 => ?_) (fun c9 => ?_)
    · exact absurd c9 (nI_ge (by omega) (by omega))
    · refine aw_iload_1 S d_Rw_set_12 ?_
      refine aw_aload_0 S d_Rw_set_13 ?_
      refine aw_getf S I_Rw 0 (by assumption) n_fl_Rw_21 d_Rw_set_14 rfl (by decide) ?_
      refine aw_alen S 0 rfl r6 d_Rw_set_17 ?_
      refine aw_icmp_ge S 29 d_Rw_set_18 (by decide) (fun c18 => ?_) (fun c18 => ?_)
      · exact absurd c18 (nI_ge (by omega) (by omega))
      · refine aw_aload_0 S d_Rw_set_21 ?_
        refine aw_getf S I_Rw 0 (by assumption) n_fl_Rw_21 d_Rw_set_22 rfl (by decide) ?_
        refine aw_iload_1 S d_Rw_set_25 ?_
        refine aw_iload_2 S d_Rw_set_26 ?_
        refine aw_i2b S d_Rw_set_27 ?_
        refine aw_bast S r6 d_Rw_set_28 (by omega) (vp_in_nI (by omega) (by omega)) ?_
        refine aw_vret S rfl d_Rw_set_29 ?_ (by decide) (by decide)
        refine ⟨rfl, ⟨r1, by simp; omega, r3, ?_, ?_, upd f k b, ?_, ?_⟩, ?_⟩
        · intro x hx
          rcases List.mem_or_eq_of_mem_set hx with h | h
          · exact r4 x h
          · rw [h]; exact hb
        · rw [aw_up_n (by omega), List.length_set]; exact r5
        · rw [aw_up_s, nI_clamp (by omega), hb.id, hb.id]
        · intro i hi
          rw [List.length_set] at hi
          by_cases h : i = k
          · subst h
            rw [pk_us]
            simp [List.getD_eq_getElem?_getD, hi]
          · rw [pk_un h, r7 i hi]
            simp [List.getD_eq_getElem?_getD, List.getElem?_set_ne (Ne.symm h)]
        · intro x hx
          rw [aw_up_n (by omega)]
