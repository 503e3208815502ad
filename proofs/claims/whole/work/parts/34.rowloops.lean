/-! rows of bytes: more loops -/
theorem dec_i (x : Int32) : x + Int32.ofInt (-1) = x - 1 := by
  have h : Int32.ofInt (-1) = -1 := by decide
  rw [h, Int32.sub_eq_add_neg]
theorem nI_ord {a b : Nat} (ha : a < 2 ^ 31) (hb : b < 2 ^ 31) : sp_ord (nI a) (nI b) = if a = b then 0 else if a < b then -1 else 1 := by
  simp [sp_ord, nI_eq ha hb, nI_ltI ha hb]
theorem sp_cmp_end {xs ys : List Int32} (h : xs = [] ∨ ys = []) : sp_cmp xs ys = if xs.length = ys.length then 0 else if xs.length < ys.length then -1 else 1 := by
  rcases h with rfl | rfl
  · cases ys <;> simp [sp_cmp]
  · cases xs <;> simp [sp_cmp]
set_option maxRecDepth 100000 in
set_option maxHeartbeats 4000000 in
theorem ev_Rw_order {l : Launch} {E : aw_E} {g : AH} {n : Nat} {a a2 N N2 : Nat} {xs ys : List Int32} (hR : IsRow E g a N xs) (hR2 : IsRow E g a2 N2 ys) : EV l E 1 0 0 y_Rw_order c_Rw_order 5 (some .int) g n [.ref a, .ref a2] (aw_Pi (fun r_ g2 n2 => r_ = sp_cmp xs ys ∧ g2 = g ∧ n2 = n)) := by
  obtain ⟨r1, r2, r3, r4, r5, f, r6, r7⟩ := id hR
  obtain ⟨q1, q2, q3, q4, q5, f2, q6, q7⟩ := id hR2
  refine aw_enter "AddressTerms$Row" [some (.ref a), some (.ref a2), none, none, none] (by decide) rfl rfl (Nat.le_of_ble_eq_true rfl) ?_
  intro p e s m args below meth c S hnm
  have loop : ∀ (j k : Nat) (w : Option Value), k + j = min xs.length ys.length → sp_cmp (xs.drop k) (ys.drop k) = sp_cmp xs ys → AW p l e { frames := 1, cells := 0, slots := 0, locals := 40 * 1 } s m args below meth c E 5 (aw_Z E (aw_Pi (fun r_ g2 n2 => r_ = sp_cmp xs ys ∧ g2 = g ∧ n2 = n)) below args s 0 0) 0 0 g n 14 [some (.ref a), some (.ref a2), some (.int (nI (min xs.length ys.length))), some (.int (nI k)), w] [] := by
    intro j
    induction j with
    | zero =>
      intro k w hk hv
      refine aw_iload_3 S d_Rw_order_14 ?_
      refine aw_iload_2 S d_Rw_order_15 ?_
      refine aw_icmp_ge S 48 d_Rw_order_16 (by decide) (fun c16 => ?_) (fun c16 => ?_)
      · refine aw_aload_0 S d_Rw_order_48 ?_
        refine aw_getf S I_Rw 1 r5 n_fl_Rw_9 d_Rw_order_49 rfl (by decide) ?_
        refine aw_aload_1 S d_Rw_order_52 ?_
        refine aw_getf S I_Rw 1 q5 n_fl_Rw_9 d_Rw_order_53 rfl (by decide) ?_
        refine aw_callSNiR S (ev_At_orderOf (nI xs.length) (nI ys.length)) mb_At_orderOf n_st_At_orderOf (S.2.2.1.2.2.1 _ (List.mem_of_getElem? (i := 5) rfl)) d_Rw_order_56 rfl rfl ?_
        refine aw_iret S rfl d_Rw_order_59 ?_ (by decide) (by decide)
        refine ⟨?_, rfl, rfl⟩
        rw [← hv, nI_ord (by omega) (by omega), sp_cmp_end (by rcases Nat.le_total xs.length ys.length with h | h; exact Or.inl (List.drop_eq_nil_iff.mpr (by omega)); exact Or.inr (List.drop_eq_nil_iff.mpr (by omega)))]
        rw [List.length_drop, List.length_drop]
        simp only [show (xs.length - k = ys.length - k) ↔ (xs.length = ys.length) by omega, show (xs.length - k < ys.length - k) ↔ (xs.length < ys.length) by omega]
      · exact absurd (nI_le (by omega) (by omega)) c16
    | succ j ih =>
      intro k w hk hv
      have hkx : k < xs.length := by omega
      have hky : k < ys.length := by omega
      rw [drop_cons hkx, drop_cons hky, sp_cmp] at hv
      refine aw_iload_3 S d_Rw_order_14 ?_
      refine aw_iload_2 S d_Rw_order_15 ?_
      refine aw_icmp_ge S 48 d_Rw_order_16 (by decide) (fun c16 => ?_) (fun c16 => ?_)
      · exact absurd c16 (nI_ge (by omega) (by omega))
      · refine aw_aload_0 S d_Rw_order_19 ?_
        refine aw_iload_3 S d_Rw_order_20 ?_
        refine aw_callViR S (ev_Rw_byteAt (nI k) hR) mb_Rw_byteAt mi_Rw_byteAt n_ml_Rw_28 d_Rw_order_21 I_Rw r5 rfl rfl rfl ?_
        rw [sp_at_nI (by omega)]
        refine aw_aload_1 S d_Rw_order_24 ?_
        refine aw_iload_3 S d_Rw_order_25 ?_
        refine aw_callViR S (ev_Rw_byteAt (nI k) hR2) mb_Rw_byteAt mi_Rw_byteAt n_ml_Rw_28 d_Rw_order_26 I_Rw q5 rfl rfl rfl ?_
        rw [sp_at_nI (by omega)]
        refine aw_callSNiR S (ev_At_orderOf (xs.getD k (-1)) (ys.getD k (-1))) mb_At_orderOf n_st_At_orderOf (S.2.2.1.2.2.1 _ (List.mem_of_getElem? (i := 5) rfl)) d_Rw_order_29 rfl rfl ?_
        refine aw_istore_4 S d_Rw_order_32 ?_
        refine aw_iload_4 S d_Rw_order_34 ?_
        refine aw_if_eq S 42 d_Rw_order_36 (by decide) (fun c36 => ?_) (fun c36 => ?_)
        · refine aw_iinc_3 (v := nI (k + 1)) S d_Rw_order_42 ((nI_succ k).symm) ?_
          refine aw_goto S 14 d_Rw_order_45 (by decide) ?_
          rw [if_pos c36] at hv
          exact ih (k + 1) _ (by omega) hv
        · refine aw_iload_4 S d_Rw_order_39 ?_
          refine aw_iret S rfl d_Rw_order_41 ?_ (by decide) (by decide)
          rw [if_neg c36] at hv
          exact ⟨hv, rfl, rfl⟩
  refine aw_aload_0 S d_Rw_order_0 ?_
  refine aw_getf S I_Rw 1 r5 n_fl_Rw_9 d_Rw_order_1 rfl (by decide) ?_
  refine aw_aload_1 S d_Rw_order_4 ?_
  refine aw_getf S I_Rw 1 q5 n_fl_Rw_9 d_Rw_order_5 rfl (by decide) ?_
  refine aw_mmin S n_ml_Rw_25 n_st_Jm_min n_ini_Jm n_co_Jm_min (by decide) (Nat.le_of_ble_eq_true rfl) (by decide) (by decide) d_Rw_order_8 ?_
  rw [min_nI (by omega) (by omega)]
  refine aw_istore_2 S d_Rw_order_11 ?_
  refine aw_iconst (v := 0) S d_Rw_order_12 (by decide) ?_
  refine aw_istore_3 S d_Rw_order_13 ?_
  exact loop _ 0 none (Nat.zero_add _) rfl
theorem sp_pre_len : ∀ {ys xs : List Int32}, xs.length < ys.length → sp_pre ys xs = false := by
  intro ys
  induction ys with
  | nil => intro xs h; exact absurd h (Nat.not_lt_zero _)
  | cons a ys ih =>
    intro xs h
    cases xs with
    | nil => rfl
    | cons b xs => rw [sp_pre, ih (by simpa using h), Bool.and_false]
set_option maxRecDepth 100000 in
set_option maxHeartbeats 4000000 in
theorem ev_Rw_beginsWith {l : Launch} {E : aw_E} {g : AH} {n : Nat} {a a2 N N2 : Nat} {xs ys : List Int32} (hR : IsRow E g a N xs) (hR2 : IsRow E g a2 N2 ys) : EV l E 1 0 0 y_Rw_beginsWith c_Rw_beginsWith 3 (some .boolean) g n [.ref a, .ref a2] (aw_Pi (fun r_ g2 n2 => r_ = aw_b (sp_pre ys xs) ∧ g2 = g ∧ n2 = n)) := by
  obtain ⟨r1, r2, r3, r4, r5, f, r6, r7⟩ := id hR
  obtain ⟨q1, q2, q3, q4, q5, f2, q6, q7⟩ := id hR2
  refine aw_enter "AddressTerms$Row" [some (.ref a), some (.ref a2), none] (by decide) rfl rfl (Nat.le_of_ble_eq_true rfl) ?_
  intro p e s m args below meth c S hnm
  have loop : ∀ (j k : Nat), ys.length ≤ xs.length → k + j = ys.length → sp_pre (ys.drop k) (xs.drop k) = sp_pre ys xs → AW p l e { frames := 1, cells := 0, slots := 0, locals := 40 * 1 } s m args below meth c E 3 (aw_Z E (aw_Pi (fun r_ g2 n2 => r_ = aw_b (sp_pre ys xs) ∧ g2 = g ∧ n2 = n)) below args s 0 0) 0 0 g n 15 [some (.ref a), some (.ref a2), some (.int (nI k))] [] := by
    intro j
    induction j with
    | zero =>
      intro k hl hk hv
      rw [List.drop_eq_nil_iff.mpr (show ys.length ≤ k by omega), sp_pre] at hv
      refine aw_iload_2 S d_Rw_beginsWith_15 ?_
      refine aw_aload_1 S d_Rw_beginsWith_16 ?_
      refine aw_getf S I_Rw 1 q5 n_fl_Rw_9 d_Rw_beginsWith_17 rfl (by decide) ?_
      refine aw_icmp_ge S 44 d_Rw_beginsWith_20 (by decide) (fun c20 => ?_) (fun c20 => ?_)
      · refine aw_iconst (v := 1) S d_Rw_beginsWith_44 (by decide) ?_
        refine aw_zret S .boolean rfl (by rfl) d_Rw_beginsWith_45 ?_ (by decide) (by decide)
        exact ⟨aw_b1 hv.symm, rfl, rfl⟩
      · exact absurd (nI_le (by omega) (by omega)) c20
    | succ j ih =>
      intro k hl hk hv
      have hkx : k < xs.length := by omega
      have hky : k < ys.length := by omega
      rw [drop_cons hkx, drop_cons hky, sp_pre] at hv
      refine aw_iload_2 S d_Rw_beginsWith_15 ?_
      refine aw_aload_1 S d_Rw_beginsWith_16 ?_
      refine aw_getf S I_Rw 1 q5 n_fl_Rw_9 d_Rw_beginsWith_17 rfl (by decide) ?_
      refine aw_icmp_ge S 44 d_Rw_beginsWith_20 (by decide) (fun c20 => ?_) (fun c20 => ?_)
      · exact absurd c20 (nI_ge (by omega) (by omega))
      · refine aw_aload_0 S d_Rw_beginsWith_23 ?_
        refine aw_iload_2 S d_Rw_beginsWith_24 ?_
        refine aw_callViR S (ev_Rw_byteAt (nI k) hR) mb_Rw_byteAt mi_Rw_byteAt n_ml_Rw_28 d_Rw_beginsWith_25 I_Rw r5 rfl rfl rfl ?_
        rw [sp_at_nI (by omega)]
        refine aw_aload_1 S d_Rw_beginsWith_28 ?_
        refine aw_iload_2 S d_Rw_beginsWith_29 ?_
        refine aw_callViR S (ev_Rw_byteAt (nI k) hR2) mb_Rw_byteAt mi_Rw_byteAt n_ml_Rw_28 d_Rw_beginsWith_30 I_Rw q5 rfl rfl rfl ?_
        rw [sp_at_nI (by omega)]
        refine aw_icmp_eq S 38 d_Rw_beginsWith_33 (by decide) (fun c33 => ?_) (fun c33 => ?_)
        · refine aw_iinc_2 (v := nI (k + 1)) S d_Rw_beginsWith_38 ((nI_succ k).symm) ?_
          refine aw_goto S 15 d_Rw_beginsWith_41 (by decide) ?_
          rw [decide_eq_true c33, Bool.true_and] at hv
          exact ih (k + 1) hl (by omega) hv
        · refine aw_iconst (v := 0) S d_Rw_beginsWith_36 (by decide) ?_
          refine aw_zret S .boolean rfl (by rfl) d_Rw_beginsWith_37 ?_ (by decide) (by decide)
          rw [decide_eq_false c33, Bool.false_and] at hv
          exact ⟨aw_b0 hv.symm, rfl, rfl⟩
  refine aw_aload_1 S d_Rw_beginsWith_0 ?_
  refine aw_getf S I_Rw 1 q5 n_fl_Rw_9 d_Rw_beginsWith_1 rfl (by decide) ?_
  refine aw_aload_0 S d_Rw_beginsWith_4 ?_
  refine aw_getf S I_Rw 1 r5 n_fl_Rw_9 d_Rw_beginsWith_5 rfl (by decide) ?_
  refine aw_icmp_le S 13 d_Rw_beginsWith_8 (by decide) (fun c8 => ?_) (fun c8 => ?_)
  · refine aw_iconst (v := 0) S d_Rw_beginsWith_13 (by decide) ?_
    refine aw_istore_2 S d_Rw_beginsWith_14 ?_
    exact loop _ 0 (by rw [nI_leI (by omega) (by omega)] at c8; exact c8) (Nat.zero_add _) rfl
  · refine aw_iconst (v := 0) S d_Rw_beginsWith_11 (by decide) ?_
    refine aw_zret S .boolean rfl (by rfl) d_Rw_beginsWith_12 ?_ (by decide) (by decide)
    rw [nI_leI (by omega) (by omega)] at c8
    exact ⟨aw_b0 (sp_pre_len (by omega)), rfl, rfl⟩
theorem getD_out {xs : List Int32} {k : Nat} (h : xs.length ≤ k) : xs.getD k (-1) = -1 := by
  simp [List.getD_eq_getElem?_getD, List.getElem?_eq_none h]
set_option maxRecDepth 100000 in
set_option maxHeartbeats 4000000 in
theorem ev_Rw_hasThere {l : Launch} {E : aw_E} {g : AH} {n : Nat} {a N : Nat} {xs : List Int32} (k0 i : Nat) (hR : IsRow E g a N xs) (hi : i < 30) (hk0 : k0 < 2000) : EV l E 4 0 0 y_Rw_hasThere c_Rw_hasThere 4 (some .boolean) g n [.ref a, .int (nI k0), .ref (E.2.2.2.1 i)] (aw_Pi (fun r_ g2 n2 => r_ = aw_b (sp_pre (st_b i) (xs.drop k0)) ∧ g2 = g ∧ n2 = n)) := by
  obtain ⟨r1, r2, r3, r4, r5, f, r6, r7⟩ := id hR
  have hL := st_len i hi
  refine aw_enter "AddressTerms$Row" [some (.ref a), some (.int (nI k0)), some (.ref (E.2.2.2.1 i)), none] (by decide) rfl rfl (Nat.le_of_ble_eq_true rfl) ?_
  intro p e s m args below meth c S hnm
  have loop : ∀ (j k : Nat), k + j = (st_b i).length → sp_pre ((st_b i).drop k) (xs.drop (k0 + k)) = sp_pre (st_b i) (xs.drop k0) → AW p l e { frames := 4, cells := 0, slots := 0, locals := 40 * 4 } s m args below meth c E 4 (aw_Z E (aw_Pi (fun r_ g2 n2 => r_ = aw_b (sp_pre (st_b i) (xs.drop k0)) ∧ g2 = g ∧ n2 = n)) below args s 0 0) 0 0 g n 2 [some (.ref a), some (.int (nI k0)), some (.ref (E.2.2.2.1 i)), some (.int (nI k))] [] := by
    intro j
    induction j with
    | zero =>
      intro k hk hv
      rw [List.drop_eq_nil_iff.mpr (show (st_b i).length ≤ k by omega), sp_pre] at hv
      refine aw_iload_3 S d_Rw_hasThere_2 ?_
      refine aw_aload_2 S d_Rw_hasThere_3 ?_
      refine aw_callJiR S (ev_Js_length i hi) mb_Js_length mi_Js_length n_ml_Rw_36 d_Rw_hasThere_4 hi rfl rfl rfl ?_
      refine aw_icmp_ge S 33 d_Rw_hasThere_7 (by decide) (fun c7 => ?_) (fun c7 => ?_)
      · refine aw_iconst (v := 1) S d_Rw_hasThere_33 (by decide) ?_
        refine aw_zret S .boolean rfl (by rfl) d_Rw_hasThere_34 ?_ (by decide) (by decide)
        exact ⟨aw_b1 hv.symm, rfl, rfl⟩
      · exact absurd (nI_le (by omega) (by omega)) c7
    | succ j ih =>
      intro k hk hv
      have hky : k < (st_b i).length := by omega
      have hc := st_bt i hi _ (getD_mem hky)
      rw [drop_cons hky] at hv
      refine aw_iload_3 S d_Rw_hasThere_2 ?_
      refine aw_aload_2 S d_Rw_hasThere_3 ?_
      refine aw_callJiR S (ev_Js_length i hi) mb_Js_length mi_Js_length n_ml_Rw_36 d_Rw_hasThere_4 hi rfl rfl rfl ?_
      refine aw_icmp_ge S 33 d_Rw_hasThere_7 (by decide) (fun c7 => ?_) (fun c7 => ?_)
      · exact absurd c7 (nI_ge (by omega) (by omega))
      · refine aw_aload_0 S d_Rw_hasThere_10 ?_
        refine aw_iload_1 S d_Rw_hasThere_11 ?_
        refine aw_iload_3 S d_Rw_hasThere_12 ?_
        refine aw_iadd S d_Rw_hasThere_13 ?_
        rw [nI_add]
        refine aw_callViR S (ev_Rw_byteAt (nI (k0 + k)) hR) mb_Rw_byteAt mi_Rw_byteAt n_ml_Rw_28 d_Rw_hasThere_14 I_Rw r5 rfl rfl rfl ?_
        rw [sp_at_nI (by omega)]
        refine aw_aload_2 S d_Rw_hasThere_17 ?_
        refine aw_iload_3 S d_Rw_hasThere_18 ?_
        refine aw_callJiR S (ev_Js_charAt i k hi hky) mb_Js_charAt mi_Js_charAt n_ml_Rw_41 d_Rw_hasThere_19 hi rfl rfl rfl ?_
        rw [getD_0 hky]
        refine aw_icmp_eq S 27 d_Rw_hasThere_22 (by decide) (fun c22 => ?_) (fun c22 => ?_)
        · refine aw_iinc_3 (v := nI (k + 1)) S d_Rw_hasThere_27 ((nI_succ k).symm) ?_
          refine aw_goto S 2 d_Rw_hasThere_30 (by decide) ?_
          have hkx : k0 + k < xs.length := by
            rcases Nat.lt_or_ge (k0 + k) xs.length with h | h
            · exact h
            · rw [getD_out h] at c22
              rw [← c22] at hc
              exact absurd hc.1 (by decide)
          rw [drop_cons hkx, sp_pre, decide_eq_true c22, Bool.true_and] at hv
          exact ih (k + 1) (by omega) hv
        · refine aw_iconst (v := 0) S d_Rw_hasThere_25 (by decide) ?_
          refine aw_zret S .boolean rfl (by rfl) d_Rw_hasThere_26 ?_ (by decide) (by decide)
          refine ⟨aw_b0 ?_, rfl, rfl⟩
          rw [← hv]
          rcases Nat.lt_or_ge (k0 + k) xs.length with h | h
          · rw [drop_cons h, sp_pre, decide_eq_false c22, Bool.false_and]
          · rw [List.drop_eq_nil_iff.mpr h, sp_pre]
  refine aw_iconst (v := 0) S d_Rw_hasThere_0 (by decide) ?_
  refine aw_istore_3 S d_Rw_hasThere_1 ?_
  exact loop _ 0 (Nat.zero_add _) rfl
theorem sp_pre_eq : ∀ {ys xs : List Int32}, ys.length = xs.length → (sp_pre ys xs = true ↔ xs = ys) := by
  intro ys
  induction ys with
  | nil => intro xs h; cases xs with
    | nil => simp [sp_pre]
    | cons b xs => simp at h
  | cons a ys ih =>
    intro xs h
    cases xs with
    | nil => simp at h
    | cons b xs =>
      rw [sp_pre, Bool.and_eq_true, ih (by simpa using h), decide_eq_true_eq]
      simp
set_option maxRecDepth 100000 in
set_option maxHeartbeats 4000000 in
theorem ev_Rw_isRest {l : Launch} {E : aw_E} {g : AH} {n : Nat} {a N : Nat} {xs : List Int32} (k0 i : Nat) (hR : IsRow E g a N xs) (hi : i < 30) (hk0 : k0 ≤ xs.length) : EV l E 5 0 0 y_Rw_isRest c_Rw_isRest 3 (some .boolean) g n [.ref a, .int (nI k0), .ref (E.2.2.2.1 i)] (aw_Pi (fun r_ g2 n2 => r_ = aw_b (decide (xs.drop k0 = st_b i)) ∧ g2 = g ∧ n2 = n)) := by
  obtain ⟨r1, r2, r3, r4, r5, f, r6, r7⟩ := id hR
  have hL := st_len i hi
  refine aw_enter "AddressTerms$Row" [some (.ref a), some (.int (nI k0)), some (.ref (E.2.2.2.1 i))] (by decide) rfl rfl (Nat.le_of_ble_eq_true rfl) ?_
  intro p e s m args below meth c S hnm
  refine aw_aload_0 S d_Rw_isRest_0 ?_
  refine aw_getf S I_Rw 1 r5 n_fl_Rw_9 d_Rw_isRest_1 rfl (by decide) ?_
  refine aw_iload_1 S d_Rw_isRest_4 ?_
  refine aw_isub S d_Rw_isRest_5 ?_
  rw [pk_sub hk0]
  refine aw_aload_2 S d_Rw_isRest_6 ?_
  refine aw_callJiR S (ev_Js_length i hi) mb_Js_length mi_Js_length n_ml_Rw_36 d_Rw_isRest_7 hi rfl rfl rfl ?_
  refine aw_icmp_ne S 26 d_Rw_isRest_10 (by decide) (fun c10 => ?_) (fun c10 => ?_)
  · refine aw_iconst (v := 0) S d_Rw_isRest_26 (by decide) ?_
    refine aw_zret S .boolean rfl (by rfl) d_Rw_isRest_27 ?_ (by decide) (by decide)
    refine ⟨aw_b0 (decide_eq_false (fun h => c10 ?_)), rfl, rfl⟩
    rw [← h, List.length_drop]
  · refine aw_aload_0 S d_Rw_isRest_13 ?_
    refine aw_iload_1 S d_Rw_isRest_14 ?_
    refine aw_aload_2 S d_Rw_isRest_15 ?_
    refine aw_callViR S (ev_Rw_hasThere k0 i hR hi (by omega)) mb_Rw_hasThere mi_Rw_hasThere n_ml_Rw_54 d_Rw_isRest_16 I_Rw r5 rfl rfl rfl ?_
    refine aw_if_eq S 26 d_Rw_isRest_19 (by decide) (fun c19 => ?_) (fun c19 => ?_)
    · refine aw_iconst (v := 0) S d_Rw_isRest_26 (by decide) ?_
      refine aw_zret S .boolean rfl (by rfl) d_Rw_isRest_27 ?_ (by decide) (by decide)
      rw [nI_eq (by omega) (by omega)] at c10
      refine ⟨aw_b0 (decide_eq_false (fun h => ?_)), rfl, rfl⟩
      rw [(sp_pre_eq (by rw [List.length_drop]; exact c10.symm)).mpr h] at c19
      exact absurd c19 (by decide)
    · refine aw_iconst (v := 1) S d_Rw_isRest_22 (by decide) ?_
      refine aw_goto S 27 d_Rw_isRest_23 (by decide) ?_
      refine aw_zret S .boolean rfl (by rfl) d_Rw_isRest_27 ?_ (by decide) (by decide)
      rw [nI_eq (by omega) (by omega)] at c10
      refine ⟨aw_b1 (decide_eq_true ((sp_pre_eq (by rw [List.length_drop]; exact c10.symm)).mp (aw_b_t c19))), rfl, rfl⟩
set_option maxRecDepth 100000 in
set_option maxHeartbeats 4000000 in
theorem ev_Rw_nextOf {l : Launch} {E : aw_E} {g : AH} {n : Nat} {a N : Nat} {xs : List Int32} (k0 i : Nat) (hR : IsRow E g a N xs) (hi : i < 30) (hk0 : k0 ≤ xs.length) : EV l E 4 0 0 y_Rw_nextOf c_Rw_nextOf 4 (some .int) g n [.ref a, .int (nI k0), .ref (E.2.2.2.1 i)] (aw_Pi (fun r_ g2 n2 => r_ = nI (sp_nx (st_b i) xs k0) ∧ g2 = g ∧ n2 = n)) := by
  obtain ⟨r1, r2, r3, r4, r5, f, r6, r7⟩ := id hR
  have hL := st_len i hi
  refine aw_enter "AddressTerms$Row" [some (.ref a), some (.int (nI k0)), some (.ref (E.2.2.2.1 i)), none] (by decide) rfl rfl (Nat.le_of_ble_eq_true rfl) ?_
  intro p e s m args below meth c S hnm
  have loop : ∀ (j k : Nat), k + j = xs.length → sp_nxF (st_b i) (xs.drop k) k = sp_nx (st_b i) xs k0 → AW p l e { frames := 4, cells := 0, slots := 0, locals := 40 * 4 } s m args below meth c E 4 (aw_Z E (aw_Pi (fun r_ g2 n2 => r_ = nI (sp_nx (st_b i) xs k0) ∧ g2 = g ∧ n2 = n)) below args s 0 0) 0 0 g n 6 [some (.ref a), some (.int (nI k0)), some (.ref (E.2.2.2.1 i)), some (.int (nI k))] [] := by
    intro j
    induction j with
    | zero =>
      intro k hk hv
      rw [List.drop_eq_nil_iff.mpr (show xs.length ≤ k by omega), sp_nxF] at hv
      refine aw_iload_3 S d_Rw_nextOf_6 ?_
      refine aw_aload_0 S d_Rw_nextOf_7 ?_
      refine aw_getf S I_Rw 1 r5 n_fl_Rw_9 d_Rw_nextOf_8 rfl (by decide) ?_
      refine aw_icmp_ge S 35 d_Rw_nextOf_11 (by decide) (fun c11 => ?_) (fun c11 => ?_)
      · refine aw_aload_0 S d_Rw_nextOf_35 ?_
        refine aw_getf S I_Rw 1 r5 n_fl_Rw_9 d_Rw_nextOf_36 rfl (by decide) ?_
        refine aw_iret S rfl d_Rw_nextOf_39 ?_ (by decide) (by decide)
        exact ⟨by rw [← hv, show k = xs.length by omega], rfl, rfl⟩
      · exact absurd (nI_le (by omega) (by omega)) c11
    | succ j ih =>
      intro k hk hv
      have hky : k < xs.length := by omega
      have hc := r4 _ (getD_mem hky)
      rw [drop_cons hky, sp_nxF] at hv
      refine aw_iload_3 S d_Rw_nextOf_6 ?_
      refine aw_aload_0 S d_Rw_nextOf_7 ?_
      refine aw_getf S I_Rw 1 r5 n_fl_Rw_9 d_Rw_nextOf_8 rfl (by decide) ?_
      refine aw_icmp_ge S 35 d_Rw_nextOf_11 (by decide) (fun c11 => ?_) (fun c11 => ?_)
      · exact absurd c11 (nI_ge (by omega) (by omega))
      · refine aw_aload_2 S d_Rw_nextOf_14 ?_
        refine aw_aload_0 S d_Rw_nextOf_15 ?_
        refine aw_iload_3 S d_Rw_nextOf_16 ?_
        refine aw_callViR S (ev_Rw_byteAt (nI k) hR) mb_Rw_byteAt mi_Rw_byteAt n_ml_Rw_28 d_Rw_nextOf_17 I_Rw r5 rfl rfl rfl ?_
        rw [sp_at_nI (by omega)]
        refine aw_i2c S d_Rw_nextOf_20 ?_
        rw [c2c hc]
        refine aw_callJiR S (ev_Js_indexOf1 i (xs.getD k (-1)) hi hc) mb_Js_indexOf1 mi_Js_indexOf1 n_ml_Rw_58 d_Rw_nextOf_21 hi rfl rfl rfl ?_
        refine aw_if_lt S 29 d_Rw_nextOf_24 (by decide) (fun c24 => ?_) (fun c24 => ?_)
        · refine aw_iinc_3 (v := nI (k + 1)) S d_Rw_nextOf_29 ((nI_succ k).symm) ?_
          refine aw_goto S 6 d_Rw_nextOf_32 (by decide) ?_
          rw [sp_ixF_neg _ _ (by omega)] at c24
          rw [if_neg c24] at hv
          exact ih (k + 1) (by omega) hv
        · refine aw_iload_3 S d_Rw_nextOf_27 ?_
          refine aw_iret S rfl d_Rw_nextOf_28 ?_ (by decide) (by decide)
          rw [sp_ixF_neg _ _ (by omega)] at c24
          rw [if_pos (Classical.not_not.mp c24)] at hv
          exact ⟨by rw [hv], rfl, rfl⟩
  refine aw_iload_1 S d_Rw_nextOf_0 ?_
  refine aw_iconst (v := 0) S d_Rw_nextOf_1 (by decide) ?_
  refine aw_mmax S n_ml_Rw_15 n_st_Jm_max n_ini_Jm n_co_Jm_max (by decide) (Nat.le_of_ble_eq_true rfl) (by decide) (by decide) d_Rw_nextOf_2 ?_
  rw [if_neg (nI_pos (by omega))]
  refine aw_istore_3 S d_Rw_nextOf_5 ?_
  exact loop (xs.length - k0) k0 (by omega) rfl
set_option maxRecDepth 100000 in
set_option maxHeartbeats 4000000 in
theorem ev_Rw_lastSlash {l : Launch} {E : aw_E} {g : AH} {n : Nat} {a N : Nat} {xs : List Int32} (b z : Nat) (hR : IsRow E g a N xs) (hb : b < 2 ^ 31) (hz : z ≤ xs.length) : EV l E 1 0 0 y_Rw_lastSlash c_Rw_lastSlash 4 (some .int) g n [.ref a, .int (nI b), .int (nI z)] (aw_Pi (fun r_ g2 n2 => r_ = sp_lsF xs b z ∧ g2 = g ∧ n2 = n)) := by
  obtain ⟨r1, r2, r3, r4, r5, f, r6, r7⟩ := id hR
  refine aw_enter "AddressTerms$Row" [some (.ref a), some (.int (nI b)), some (.int (nI z)), none] (by decide) rfl rfl (Nat.le_of_ble_eq_true rfl) ?_
  intro p e s m args below meth c S hnm
  have loop : ∀ (k : Nat), k ≤ xs.length → sp_lsF xs b k = sp_lsF xs b z → AW p l e { frames := 1, cells := 0, slots := 0, locals := 40 * 1 } s m args below meth c E 4 (aw_Z E (aw_Pi (fun r_ g2 n2 => r_ = sp_lsF xs b z ∧ g2 = g ∧ n2 = n)) below args s 0 0) 0 0 g n 11 [some (.ref a), some (.int (nI b)), some (.int (nI z)), some (.int (nI k - 1))] [] := by
    intro k
    induction k with
    | zero =>
      intro hk hv
      rw [sp_lsF] at hv
      refine aw_iload_3 S d_Rw_lastSlash_11 ?_
      refine aw_iload_1 S d_Rw_lastSlash_12 ?_
      refine aw_icmp_lt S 38 d_Rw_lastSlash_13 (by decide) (fun c13 => ?_) (fun c13 => ?_)
      · refine aw_iconst (v := -1) S d_Rw_lastSlash_38 (by decide) ?_
        refine aw_iret S rfl d_Rw_lastSlash_39 ?_ (by decide) (by decide)
        exact ⟨hv, rfl, rfl⟩
      · refine aw_iload_3 S d_Rw_lastSlash_16 ?_
        refine aw_if_lt S 38 d_Rw_lastSlash_17 (by decide) (fun c17 => ?_) (fun c17 => ?_)
        · refine aw_iconst (v := -1) S d_Rw_lastSlash_38 (by decide) ?_
          refine aw_iret S rfl d_Rw_lastSlash_39 ?_ (by decide) (by decide)
          exact ⟨hv, rfl, rfl⟩
        · exact absurd (by decide) c17
    | succ k ih =>
      intro hk hv
      rw [sp_lsF] at hv
      rw [nI_pred]
      refine aw_iload_3 S d_Rw_lastSlash_11 ?_
      refine aw_iload_1 S d_Rw_lastSlash_12 ?_
      refine aw_icmp_lt S 38 d_Rw_lastSlash_13 (by decide) (fun c13 => ?_) (fun c13 => ?_)
      · refine aw_iconst (v := -1) S d_Rw_lastSlash_38 (by decide) ?_
        refine aw_iret S rfl d_Rw_lastSlash_39 ?_ (by decide) (by decide)
        rw [nI_ltI (by omega) (by omega)] at c13
        rw [if_pos c13] at hv
        exact ⟨hv, rfl, rfl⟩
      · refine aw_iload_3 S d_Rw_lastSlash_16 ?_
        refine aw_if_lt S 38 d_Rw_lastSlash_17 (by decide) (fun c17 => ?_) (fun c17 => ?_)
        · exact absurd c17 (nI_pos (by omega))
        · refine aw_aload_0 S d_Rw_lastSlash_20 ?_
          refine aw_iload_3 S d_Rw_lastSlash_21 ?_
          refine aw_callViR S (ev_Rw_byteAt (nI k) hR) mb_Rw_byteAt mi_Rw_byteAt n_ml_Rw_28 d_Rw_lastSlash_22 I_Rw r5 rfl rfl rfl ?_
          rw [sp_at_nI (by omega)]
          refine aw_bipush (v := 47) S d_Rw_lastSlash_25 (by decide) ?_
          refine aw_icmp_ne S 32 d_Rw_lastSlash_27 (by decide) (fun c27 => ?_) (fun c27 => ?_)
          · refine aw_iinc_3 (v := nI k - 1) S d_Rw_lastSlash_32 (dec_i (nI k)) ?_
            refine aw_goto S 11 d_Rw_lastSlash_35 (by decide) ?_
            rw [nI_ltI (by omega) (by omega)] at c13
            rw [if_neg c13, if_neg c27] at hv
            exact ih (by omega) hv
          · refine aw_iload_3 S d_Rw_lastSlash_30 ?_
            refine aw_iret S rfl d_Rw_lastSlash_31 ?_ (by decide) (by decide)
            rw [nI_ltI (by omega) (by omega)] at c13
            rw [if_neg c13, if_pos c27] at hv
            exact ⟨hv, rfl, rfl⟩
  refine aw_iload_2 S d_Rw_lastSlash_0 ?_
  refine aw_aload_0 S d_Rw_lastSlash_1 ?_
  refine aw_getf S I_Rw 1 r5 n_fl_Rw_9 d_Rw_lastSlash_2 rfl (by decide) ?_
  refine aw_mmin S n_ml_Rw_25 n_st_Jm_min n_ini_Jm n_co_Jm_min (by decide) (Nat.le_of_ble_eq_true rfl) (by decide) (by decide) d_Rw_lastSlash_5 ?_
  rw [min_nI (by omega) (by omega), Nat.min_eq_left hz]
  refine aw_iconst (v := 1) S d_Rw_lastSlash_8 (by decide) ?_
  refine aw_isub S d_Rw_lastSlash_9 ?_
  refine aw_istore_3 S d_Rw_lastSlash_10 ?_
  exact loop z hz rfl
