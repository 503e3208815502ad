/-! the reference: what only reads -/
theorem ixOf_cases {L : Nat} (q : Int32) (hL : L < 2 ^ 31) : (ixOf L q = none) ∨ ∃ i, i < L ∧ q = nI i ∧ ixOf L q = some i := by
  unfold ixOf
  rcases pk_ix q hL with h | h | ⟨j, hj, rfl⟩
  · left; rw [if_pos h]
  · left
    by_cases q0 : q < 0
    · rw [if_pos q0]
    · rw [if_neg q0, if_pos h]
  · right; exact ⟨j, hj, rfl, by rw [if_neg (nI_pos (by omega)), if_neg (nI_ge hj hL), nI_clamp (by omega)]⟩
theorem aw_bT {b : Bool} (h : ¬ aw_b b = 0) : b = true := by cases b <;> simp_all [aw_b]
theorem aw_bF {b : Bool} (h : aw_b b = 0) : b = false := by
  cases b
  · rfl
  · exact absurd h (by decide)
set_option maxRecDepth 100000 in
set_option maxHeartbeats 4000000 in
theorem ev_Md_count {l : Launch} {E : aw_E} {g : AH} {n : Nat} {g0 : AH} {d : Nat} {v : Nat → Int32} {f : Nat → Nat → Int32} {tape : List Int32} {ts : List Tmv} {bt : Int32} {ps : List Pfv} {pr : List Int32} (w : Int32) (hM : mG E g0 d v f g) (hs : mSt v f tape ts bt ps pr) : EV l E 0 0 0 y_Md_count c_Md_count 2 (some .int) g n [.ref d, .int w] (aw_Pi (fun r_ g2 n2 => r_ = op_count tape ts ps w ∧ g2 = g ∧ n2 = n)) := by
  obtain ⟨⟨tl, t0, tL⟩, ⟨nl, n1, nT⟩, b2, ⟨pl, p3, pP⟩, ⟨ql, q6, qL⟩⟩ := id hs
  refine aw_enter "AddressTermsModel" [some (.ref d), some (.int w)] (by decide) rfl rfl (Nat.le_of_ble_eq_true rfl) ?_
  intro p e s m args below meth c S hnm
  refine aw_iload_1 S d_Md_count_0 ?_
  refine aw_if_ne S 11 d_Md_count_1 (by decide) (fun c1 => ?_) (fun c1 => ?_)
  · refine aw_iload_1 S d_Md_count_11 ?_
    refine aw_iconst (v := 1) S d_Md_count_12 (by decide) ?_
    refine aw_icmp_ne S 23 d_Md_count_13 (by decide) (fun c13 => ?_) (fun c13 => ?_)
    · refine aw_iload_1 S d_Md_count_23 ?_
      refine aw_iconst (v := 2) S d_Md_count_24 (by decide) ?_
      refine aw_icmp_ne S 35 d_Md_count_25 (by decide) (fun c25 => ?_) (fun c25 => ?_)
      · refine aw_iconst (v := -1) S d_Md_count_35 (by decide) ?_
        refine aw_iret S rfl d_Md_count_36 ?_ (by decide) (by decide)
        exact ⟨by rw [op_count, if_neg c1, if_neg c13, if_neg c25], rfl, rfl⟩
      · refine aw_aload_0 S d_Md_count_28 ?_
        refine aw_getf S I_Md 0 hM.2.1 n_fl_Md_90 d_Md_count_29 rfl (by decide) ?_
        refine aw_topi t0 ?_
        refine aw_goto S 36 d_Md_count_32 (by decide) ?_
        refine aw_iret S rfl d_Md_count_36 ?_ (by decide) (by decide)
        exact ⟨by rw [op_count, if_neg c1, if_neg c13, if_pos c25], rfl, rfl⟩
    · refine aw_aload_0 S d_Md_count_16 ?_
      refine aw_getf S I_Md 10 hM.2.1 n_fl_Md_187 d_Md_count_17 rfl (by decide) ?_
      refine aw_topi p3 ?_
      refine aw_goto S 36 d_Md_count_20 (by decide) ?_
      refine aw_iret S rfl d_Md_count_36 ?_ (by decide) (by decide)
      exact ⟨by rw [op_count, if_neg c1, if_pos c13], rfl, rfl⟩
  · refine aw_aload_0 S d_Md_count_4 ?_
    refine aw_getf S I_Md 2 hM.2.1 n_fl_Md_74 d_Md_count_5 rfl (by decide) ?_
    refine aw_topi n1 ?_
    refine aw_goto S 36 d_Md_count_8 (by decide) ?_
    refine aw_iret S rfl d_Md_count_36 ?_ (by decide) (by decide)
    exact ⟨by rw [op_count, if_pos c1], rfl, rfl⟩
set_option maxRecDepth 100000 in
set_option maxHeartbeats 4000000 in
theorem ev_Md_isTerm {l : Launch} {E : aw_E} {g : AH} {n : Nat} {g0 : AH} {d : Nat} {v : Nat → Int32} {f : Nat → Nat → Int32} {tape : List Int32} {ts : List Tmv} {bt : Int32} {ps : List Pfv} {pr : List Int32} (q : Int32) (hM : mG E g0 d v f g) (hs : mSt v f tape ts bt ps pr) : EV l E 1 0 0 y_Md_isTerm c_Md_isTerm 2 (some .boolean) g n [.ref d, .int q] (aw_Pi (fun r_ g2 n2 => r_ = aw_b (ixOf ts.length q).isSome ∧ g2 = g ∧ n2 = n)) := by
  obtain ⟨⟨tl, t0, tL⟩, ⟨nl, n1, nT⟩, b2, ⟨pl, p3, pP⟩, ⟨ql, q6, qL⟩⟩ := id hs
  refine aw_enter "AddressTermsModel" [some (.ref d), some (.int q)] (by decide) rfl rfl (Nat.le_of_ble_eq_true rfl) ?_
  intro p e s m args below meth c S hnm
  refine aw_iload_1 S d_Md_isTerm_0 ?_
  refine aw_iconst (v := 0) S d_Md_isTerm_1 (by decide) ?_
  refine aw_aload_0 S d_Md_isTerm_2 ?_
  refine aw_getf S I_Md 2 hM.2.1 n_fl_Md_74 d_Md_isTerm_3 rfl (by decide) ?_
  refine aw_topi n1 ?_
  refine aw_iconst (v := 1) S d_Md_isTerm_6 (by decide) ?_
  refine aw_isub S d_Md_isTerm_7 ?_
  refine aw_callSiR S (ev_Md_is q 0 (nI ts.length - 1)) mb_Md_is n_st_Md_is n_ml_Md_77 d_Md_isTerm_8 rfl rfl ?_
  refine aw_zret S .boolean rfl (aw_bz _) d_Md_isTerm_11 ?_ (by decide) (by decide)
  exact ⟨by rw [sp_in_ix (by omega)], rfl, rfl⟩
set_option maxRecDepth 100000 in
set_option maxHeartbeats 4000000 in
theorem ev_Md_kind {l : Launch} {E : aw_E} {g : AH} {n : Nat} {g0 : AH} {d : Nat} {v : Nat → Int32} {f : Nat → Nat → Int32} {tape : List Int32} {ts : List Tmv} {bt : Int32} {ps : List Pfv} {pr : List Int32} (q : Int32) (hM : mG E g0 d v f g) (hs : mSt v f tape ts bt ps pr) : EV l E 2 0 0 y_Md_kind c_Md_kind 2 (some .int) g n [.ref d, .int q] (aw_Pi (fun r_ g2 n2 => r_ = op_kind ts q ∧ g2 = g ∧ n2 = n)) := by
  obtain ⟨⟨tl, t0, tL⟩, ⟨nl, n1, nT⟩, b2, ⟨pl, p3, pP⟩, ⟨ql, q6, qL⟩⟩ := id hs
  refine aw_enter "AddressTermsModel" [some (.ref d), some (.int q)] (by decide) rfl rfl (Nat.le_of_ble_eq_true rfl) ?_
  intro p e s m args below meth c S hnm
  refine aw_aload_0 S d_Md_kind_0 ?_
  refine aw_iload_1 S d_Md_kind_1 ?_
  refine aw_callViR S (ev_Md_isTerm q hM hs) mb_Md_isTerm mi_Md_isTerm n_ml_Md_103 d_Md_kind_2 I_Md hM.2.1 rfl rfl rfl ?_
  refine aw_if_eq S 17 d_Md_kind_5 (by decide) (fun c5 => ?_) (fun c5 => ?_)
  · have hnn := Option.isSome_eq_false_iff.mp (aw_bF c5)
    rw [Option.isNone_iff_eq_none] at hnn
    refine aw_iconst (v := -1) S d_Md_kind_17 (by decide) ?_
    refine aw_iret S rfl d_Md_kind_18 ?_ (by decide) (by decide)
    exact ⟨by rw [op_kind, hnn], rfl, rfl⟩
  · have hsm := aw_bT c5
    obtain hn | ⟨i, hi, rfl, hx⟩ := ixOf_cases q (show ts.length < 2 ^ 31 by omega)
    · rw [hn] at hsm; cases hsm
    have hT := nT i hi
    refine aw_aload_0 S d_Md_kind_8 ?_
    refine aw_getf S I_Md 3 hM.2.1 n_fl_Md_13 d_Md_kind_9 rfl (by decide) ?_
    refine aw_iload_1 S d_Md_kind_12 ?_
    refine aw_mld S hM 1 (by decide) (hT.1) (show _ < 60 by omega) d_Md_kind_13 ?_
    refine aw_goto S 18 d_Md_kind_14 (by decide) ?_
    refine aw_iret S rfl d_Md_kind_18 ?_ (by decide) (by decide)
    exact ⟨by rw [op_kind, hx], rfl, rfl⟩
set_option maxRecDepth 100000 in
set_option maxHeartbeats 4000000 in
theorem ev_Md_sort {l : Launch} {E : aw_E} {g : AH} {n : Nat} {g0 : AH} {d : Nat} {v : Nat → Int32} {f : Nat → Nat → Int32} {tape : List Int32} {ts : List Tmv} {bt : Int32} {ps : List Pfv} {pr : List Int32} (q : Int32) (hM : mG E g0 d v f g) (hs : mSt v f tape ts bt ps pr) : EV l E 2 0 0 y_Md_sort c_Md_sort 2 (some .int) g n [.ref d, .int q] (aw_Pi (fun r_ g2 n2 => r_ = op_sort ts q ∧ g2 = g ∧ n2 = n)) := by
  obtain ⟨⟨tl, t0, tL⟩, ⟨nl, n1, nT⟩, b2, ⟨pl, p3, pP⟩, ⟨ql, q6, qL⟩⟩ := id hs
  refine aw_enter "AddressTermsModel" [some (.ref d), some (.int q)] (by decide) rfl rfl (Nat.le_of_ble_eq_true rfl) ?_
  intro p e s m args below meth c S hnm
  refine aw_aload_0 S d_Md_sort_0 ?_
  refine aw_iload_1 S d_Md_sort_1 ?_
  refine aw_callViR S (ev_Md_isTerm q hM hs) mb_Md_isTerm mi_Md_isTerm n_ml_Md_103 d_Md_sort_2 I_Md hM.2.1 rfl rfl rfl ?_
  refine aw_if_eq S 27 d_Md_sort_5 (by decide) (fun c5 => ?_) (fun c5 => ?_)
  · have hnn := Option.isSome_eq_false_iff.mp (aw_bF c5)
    rw [Option.isNone_iff_eq_none] at hnn
    refine aw_iconst (v := -1) S d_Md_sort_27 (by decide) ?_
    refine aw_iret S rfl d_Md_sort_28 ?_ (by decide) (by decide)
    exact ⟨by rw [op_sort, ixK, hnn], rfl, rfl⟩
  · have hsm := aw_bT c5
    obtain hn | ⟨i, hi, rfl, hx⟩ := ixOf_cases q (show ts.length < 2 ^ 31 by omega)
    · rw [hn] at hsm; cases hsm
    have hT := nT i hi
    refine aw_aload_0 S d_Md_sort_8 ?_
    refine aw_getf S I_Md 3 hM.2.1 n_fl_Md_13 d_Md_sort_9 rfl (by decide) ?_
    refine aw_iload_1 S d_Md_sort_12 ?_
    refine aw_mld S hM 1 (by decide) (hT.1) (show _ < 60 by omega) d_Md_sort_13 ?_
    refine aw_iconst (v := 2) S d_Md_sort_14 (by decide) ?_
    refine aw_icmp_ne S 27 d_Md_sort_15 (by decide) (fun c15 => ?_) (fun c15 => ?_)
    · refine aw_iconst (v := -1) S d_Md_sort_27 (by decide) ?_
      refine aw_iret S rfl d_Md_sort_28 ?_ (by decide) (by decide)
      exact ⟨by rw [op_sort, ixK, hx]; dsimp only; rw [if_neg c15], rfl, rfl⟩
    · refine aw_aload_0 S d_Md_sort_18 ?_
      refine aw_getf S I_Md 4 hM.2.1 n_fl_Md_16 d_Md_sort_19 rfl (by decide) ?_
      refine aw_iload_1 S d_Md_sort_22 ?_
      refine aw_mld S hM 2 (by decide) (hT.2.1) (show _ < 60 by omega) d_Md_sort_23 ?_
      refine aw_goto S 28 d_Md_sort_24 (by decide) ?_
      refine aw_iret S rfl d_Md_sort_28 ?_ (by decide) (by decide)
      exact ⟨by rw [op_sort, ixK, hx]; dsimp only; rw [if_pos c15]; dsimp only; rw [mN, if_neg (by rw [c15]; decide)], rfl, rfl⟩
set_option maxRecDepth 100000 in
set_option maxHeartbeats 4000000 in
theorem ev_Md_isAddress {l : Launch} {E : aw_E} {g : AH} {n : Nat} {g0 : AH} {d : Nat} {v : Nat → Int32} {f : Nat → Nat → Int32} {tape : List Int32} {ts : List Tmv} {bt : Int32} {ps : List Pfv} {pr : List Int32} (q : Int32) (hM : mG E g0 d v f g) (hs : mSt v f tape ts bt ps pr) : EV l E 2 0 0 y_Md_isAddress c_Md_isAddress 2 (some .boolean) g n [.ref d, .int q] (aw_Pi (fun r_ g2 n2 => r_ = aw_b (ixK ts 0 q).isSome ∧ g2 = g ∧ n2 = n)) := by
  obtain ⟨⟨tl, t0, tL⟩, ⟨nl, n1, nT⟩, b2, ⟨pl, p3, pP⟩, ⟨ql, q6, qL⟩⟩ := id hs
  refine aw_enter "AddressTermsModel" [some (.ref d), some (.int q)] (by decide) rfl rfl (Nat.le_of_ble_eq_true rfl) ?_
  intro p e s m args below meth c S hnm
  refine aw_aload_0 S d_Md_isAddress_0 ?_
  refine aw_iload_1 S d_Md_isAddress_1 ?_
  refine aw_callViR S (ev_Md_isTerm q hM hs) mb_Md_isTerm mi_Md_isTerm n_ml_Md_103 d_Md_isAddress_2 I_Md hM.2.1 rfl rfl rfl ?_
  refine aw_if_eq S 21 d_Md_isAddress_5 (by decide) (fun c5 => ?_) (fun c5 => ?_)
  · have hnn := Option.isSome_eq_false_iff.mp (aw_bF c5)
    rw [Option.isNone_iff_eq_none] at hnn
    refine aw_iconst (v := 0) S d_Md_isAddress_21 (by decide) ?_
    refine aw_zret S .boolean rfl (by rfl) d_Md_isAddress_22 ?_ (by decide) (by decide)
    exact ⟨by rw [ixK, hnn]; rfl, rfl, rfl⟩
  · have hsm := aw_bT c5
    obtain hn | ⟨i, hi, rfl, hx⟩ := ixOf_cases q (show ts.length < 2 ^ 31 by omega)
    · rw [hn] at hsm; cases hsm
    have hT := nT i hi
    refine aw_aload_0 S d_Md_isAddress_8 ?_
    refine aw_getf S I_Md 3 hM.2.1 n_fl_Md_13 d_Md_isAddress_9 rfl (by decide) ?_
    refine aw_iload_1 S d_Md_isAddress_12 ?_
    refine aw_mld S hM 1 (by decide) (hT.1) (show _ < 60 by omega) d_Md_isAddress_13 ?_
    refine aw_if_ne S 21 d_Md_isAddress_14 (by decide) (fun c14 => ?_) (fun c14 => ?_)
    · refine aw_iconst (v := 0) S d_Md_isAddress_21 (by decide) ?_
      refine aw_zret S .boolean rfl (by rfl) d_Md_isAddress_22 ?_ (by decide) (by decide)
      exact ⟨by rw [ixK, hx]; dsimp only; rw [if_neg c14]; rfl, rfl, rfl⟩
    · refine aw_iconst (v := 1) S d_Md_isAddress_17 (by decide) ?_
      refine aw_goto S 22 d_Md_isAddress_18 (by decide) ?_
      refine aw_zret S .boolean rfl (by rfl) d_Md_isAddress_22 ?_ (by decide) (by decide)
      exact ⟨by rw [ixK, hx]; dsimp only; rw [if_pos c14]; rfl, rfl, rfl⟩
set_option maxRecDepth 100000 in
set_option maxHeartbeats 4000000 in
theorem ev_Md_at {l : Launch} {E : aw_E} {g : AH} {n : Nat} {g0 : AH} {d : Nat} {v : Nat → Int32} {f : Nat → Nat → Int32} {tape : List Int32} {ts : List Tmv} {bt : Int32} {ps : List Pfv} {pr : List Int32} (q : Int32) (hM : mG E g0 d v f g) (hs : mSt v f tape ts bt ps pr) (hb : ∀ x ∈ pr, sp_bt x) : EV l E 1 0 0 y_Md_at c_Md_at 2 (some .int) g n [.ref d, .int q] (aw_Pi (fun r_ g2 n2 => r_ = op_at pr q ∧ g2 = g ∧ n2 = n)) := by
  obtain ⟨⟨tl, t0, tL⟩, ⟨nl, n1, nT⟩, b2, ⟨pl, p3, pP⟩, ⟨ql, q6, qL⟩⟩ := id hs
  refine aw_enter "AddressTermsModel" [some (.ref d), some (.int q)] (by decide) rfl rfl (Nat.le_of_ble_eq_true rfl) ?_
  intro p e s m args below meth c S hnm
  refine aw_iload_1 S d_Md_at_0 ?_
  refine aw_iconst (v := 0) S d_Md_at_1 (by decide) ?_
  refine aw_aload_0 S d_Md_at_2 ?_
  refine aw_getf S I_Md 18 hM.2.1 n_fl_Md_226 d_Md_at_3 rfl (by decide) ?_
  refine aw_topi q6 ?_
  refine aw_iconst (v := 1) S d_Md_at_6 (by decide) ?_
  refine aw_isub S d_Md_at_7 ?_
  refine aw_callSiR S (ev_Md_is q 0 (nI pr.length - 1)) mb_Md_is n_st_Md_is n_ml_Md_77 d_Md_at_8 rfl rfl ?_
  rw [sp_in_ix (by omega)]
  refine aw_if_eq S 23 d_Md_at_11 (by decide) (fun c11 => ?_) (fun c11 => ?_)
  · have hnn := Option.isSome_eq_false_iff.mp (aw_bF c11)
    rw [Option.isNone_iff_eq_none] at hnn
    refine aw_bipush (v := -2) S d_Md_at_23 (by decide) ?_
    refine aw_iret S rfl d_Md_at_25 ?_ (by decide) (by decide)
    refine ⟨?_, rfl, rfl⟩
    have : sp_at pr q = -1 := by
      unfold ixOf at hnn
      split at hnn
      · next h => exact sp_at_neg h
      · next h =>
        split at hnn
        · next h2 => exact sp_at_ge (by omega) h h2
        · cases hnn
    rw [op_at, if_pos this]
  · have hsm := aw_bT c11
    obtain hn | ⟨i, hi, rfl, hx⟩ := ixOf_cases q (show pr.length < 2 ^ 31 by omega)
    · rw [hn] at hsm; cases hsm
    refine aw_aload_0 S d_Md_at_14 ?_
    refine aw_getf S I_Md 19 hM.2.1 n_fl_Md_50 d_Md_at_15 rfl (by decide) ?_
    refine aw_iload_1 S d_Md_at_18 ?_
    refine aw_mld S hM 12 (by decide) (qL.at0 hi) (show _ < 300 by omega) d_Md_at_19 ?_
    refine aw_goto S 25 d_Md_at_20 (by decide) ?_
    refine aw_iret S rfl d_Md_at_25 ?_ (by decide) (by decide)
    refine ⟨?_, rfl, rfl⟩
    have := (hb _ (getD_mem hi)).1
    rw [op_at, sp_at_nI (by omega), if_neg (fun z => by rw [z] at this; exact absurd this (by decide))]
set_option maxRecDepth 100000 in
set_option maxHeartbeats 4000000 in
theorem ev_Md_base {l : Launch} {E : aw_E} {g : AH} {n : Nat} {g0 : AH} {d : Nat} {v : Nat → Int32} {f : Nat → Nat → Int32} {tape : List Int32} {ts : List Tmv} {bt : Int32} {ps : List Pfv} {pr : List Int32} (q : Int32) (hM : mG E g0 d v f g) (hs : mSt v f tape ts bt ps pr) : EV l E 3 0 0 y_Md_base c_Md_base 2 (some .int) g n [.ref d, .int q] (aw_Pi (fun r_ g2 n2 => r_ = op_base ts q ∧ n2 = n ∧ mS E g0 d g2 (tape) (ts) (op_baseB ts bt q) (ps) (pr))) := by
  obtain ⟨⟨tl, t0, tL⟩, ⟨nl, n1, nT⟩, b2, ⟨pl, p3, pP⟩, ⟨ql, q6, qL⟩⟩ := id hs
  refine aw_enter "AddressTermsModel" [some (.ref d), some (.int q)] (by decide) rfl rfl (Nat.le_of_ble_eq_true rfl) ?_
  intro p e s m args below meth c S hnm
  refine aw_iload_1 S d_Md_base_0 ?_
  refine aw_iconst (v := -1) S d_Md_base_1 (by decide) ?_
  refine aw_icmp_eq S 15 d_Md_base_2 (by decide) (fun c2 => ?_) (fun c2 => ?_)
  · refine aw_aload_0 S d_Md_base_15 ?_
    refine aw_iload_1 S d_Md_base_16 ?_
    refine aw_mput2 S hM n_fl_Md_31 d_Md_base_17 (fun g_ hM => ?_)
    refine aw_iconst (v := 1) S d_Md_base_20 (by decide) ?_
    refine aw_iret S rfl d_Md_base_21 ?_ (by decide) (by decide)
    refine ⟨by rw [op_base, if_pos c2], rfl, _, f, hM, ?_⟩
    rw [op_baseB, if_pos c2]
    exact ⟨⟨tl, t0, tL⟩, ⟨nl, n1, nT⟩, rfl, ⟨pl, p3, pP⟩, ⟨ql, q6, qL⟩⟩
  · refine aw_aload_0 S d_Md_base_5 ?_
    refine aw_iload_1 S d_Md_base_6 ?_
    refine aw_callViR S (ev_Md_isAddress q hM hs) mb_Md_isAddress mi_Md_isAddress n_ml_Md_178 d_Md_base_7 I_Md hM.2.1 rfl rfl rfl ?_
    refine aw_if_ne S 15 d_Md_base_10 (by decide) (fun c10 => ?_) (fun c10 => ?_)
    · refine aw_aload_0 S d_Md_base_15 ?_
      refine aw_iload_1 S d_Md_base_16 ?_
      refine aw_mput2 S hM n_fl_Md_31 d_Md_base_17 (fun g_ hM => ?_)
      refine aw_iconst (v := 1) S d_Md_base_20 (by decide) ?_
      refine aw_iret S rfl d_Md_base_21 ?_ (by decide) (by decide)
      refine ⟨by rw [op_base, if_neg c2, aw_bT c10]; rfl, rfl, _, f, hM, ?_⟩
      rw [op_baseB, if_neg c2, aw_bT c10]
      exact ⟨⟨tl, t0, tL⟩, ⟨nl, n1, nT⟩, rfl, ⟨pl, p3, pP⟩, ⟨ql, q6, qL⟩⟩
    · refine aw_iconst (v := -1) S d_Md_base_13 (by decide) ?_
      refine aw_iret S rfl d_Md_base_14 ?_ (by decide) (by decide)
      refine ⟨by rw [op_base, if_neg c2, aw_bF c10]; rfl, rfl, v, f, hM, ?_⟩
      rw [op_baseB, if_neg c2, aw_bF c10]
      exact hs
