/-! the reference: take, part, wrong -/
theorem mPs.at5 {rs : List Int32} {F T : Nat → Int32} (h : mPs rs 5 F T) {w : Nat} (hw : w < 5) : F w = oi ((sp_pt rs w).map (fun q => q.1)) ∧ T w = oi ((sp_pt rs w).map (fun q => q.2)) := h.1 w hw
theorem ix5 {w : Int32} (h : sp_in w 0 4 = true) : ∃ j, j < 5 ∧ w = nI j ∧ ixOf 5 w = some j := by
  have e : sp_in w 0 4 = (ixOf 5 w).isSome := sp_in_ix (L := 5) (by decide)
  rw [e] at h
  rcases ixOf_cases w (show 5 < 2 ^ 31 by decide) with q | ⟨i, hi, q1, q2⟩
  · rw [q] at h; cases h
  · exact ⟨i, hi, q1, q2⟩
theorem nI_subt {a b : Nat} (h : a ≤ b) : nI b - nI a = nI (b - a) := by
  have e : nI b = nI (b - a) + nI a := by rw [nI_add]; congr 1; omega
  rw [e]
  exact Int32.add_sub_cancel _ _
set_option maxRecDepth 100000 in
set_option maxHeartbeats 4000000 in
theorem ev_Md_take {l : Launch} {E : aw_E} {g : AH} {n : Nat} {g0 : AH} {d : Nat} {v : Nat → Int32} {f : Nat → Nat → Int32} {rs : List Int32} (t : Nat) (hM : mG E g0 d v f g) (ht : t < 60) (hz : f 3 t = nI rs.length) (hB : mL (f 4) (100 * t) rs) (hr : rs.length ≤ 100) : EV l E 4 0 0 y_Md_take c_Md_take 3 none g n [.ref d, .int (nI t)] (aw_Pv (fun g2 n2 => n2 = n ∧ ∃ v2 f2, mG E g0 d v2 f2 g2 ∧ mfr [7] [13, 14, 15] v v2 f f2 ∧ v2 7 = nI rs.length ∧ mL (f2 13) 0 rs ∧ mPs rs 5 (f2 14) (f2 15))) := by
  refine aw_enter "AddressTermsModel" [some (.ref d), some (.int (nI t)), none] (by decide) rfl rfl (Nat.le_of_ble_eq_true rfl) ?_
  intro p e s m args below meth c S hnm
  have loop : ∀ (j k : Nat) (v1 : Nat → Int32) (f1 : Nat → Nat → Int32) (g : AH), k + j = rs.length → v1 7 = nI rs.length → mL (f1 13) 0 (rs.take k) → mfr [7] [13, 14, 15] v v1 f f1 → mG E g0 d v1 f1 g → AW p l e { frames := 4, cells := 0, slots := 0, locals := 40 * 4 } s m args below meth c E 3 (aw_Z E (aw_Pv (fun g2 n2 => n2 = n ∧ ∃ v2 f2, mG E g0 d v2 f2 g2 ∧ mfr [7] [13, 14, 15] v v2 f f2 ∧ v2 7 = nI rs.length ∧ mL (f2 13) 0 rs ∧ mPs rs 5 (f2 14) (f2 15))) below args s 0 0) 0 0 g n 12 [some (.ref d), some (.int (nI t)), some (.int (nI k))] [] := by
    intro j
    induction j with
    | zero =>
      intro k v1 f1 g hk h7 hL hf hM
      rw [List.take_of_length_le (by omega)] at hL
      refine aw_iload_2 S d_Md_take_12 ?_
      refine aw_aload_0 S d_Md_take_13 ?_
      refine aw_getf S I_Md 20 hM.2.1 n_fl_Md_109 d_Md_take_14 rfl (by decide) ?_
      refine aw_topi h7 ?_
      refine aw_icmp_ge S 43 d_Md_take_17 (by decide) (fun c17 => ?_) (fun c17 => ?_)
      · refine aw_aload_0 S d_Md_take_43 ?_
        refine aw_callVv0 S (ev_Md_split hM h7 hL hr) mb_Md_split mi_Md_split n_ml_Md_123 d_Md_take_44 I_Md hM.2.1 rfl rfl rfl (fun g2_ n2_ h_ => ?_)
        obtain ⟨rfl, v2, f2, hM, hf2, hp⟩ := h_
        refine aw_vret S rfl d_Md_take_47 ?_ (by decide) (by decide)
        exact ⟨rfl, v2, f2, hM, hf.tr (hf2.wd (by decide) (by decide)), (hf2.1 7 (by decide)).trans h7, by rw [hf2.2 13 (by decide)]; exact hL, hp⟩
      · exact absurd (nI_le (by omega) (by omega)) c17
    | succ j ih =>
      intro k v1 f1 g hk h7 hL hf hM
      refine aw_iload_2 S d_Md_take_12 ?_
      refine aw_aload_0 S d_Md_take_13 ?_
      refine aw_getf S I_Md 20 hM.2.1 n_fl_Md_109 d_Md_take_14 rfl (by decide) ?_
      refine aw_topi h7 ?_
      refine aw_icmp_ge S 43 d_Md_take_17 (by decide) (fun c17 => ?_) (fun c17 => ?_)
      · exact absurd c17 (nI_ge (by omega) (by omega))
      · refine aw_aload_0 S d_Md_take_20 ?_
        refine aw_getf S I_Md 21 hM.2.1 n_fl_Md_53 d_Md_take_21 rfl (by decide) ?_
        refine aw_iload_2 S d_Md_take_24 ?_
        refine aw_aload_0 S d_Md_take_25 ?_
        refine aw_getf S I_Md 6 hM.2.1 n_fl_Md_22 d_Md_take_26 rfl (by decide) ?_
        refine aw_bipush (v := 100) S d_Md_take_29 (by decide) ?_
        refine aw_iload_1 S d_Md_take_31 ?_
        refine aw_imul S d_Md_take_32 ?_
        refine aw_iload_2 S d_Md_take_33 ?_
        refine aw_iadd S d_Md_take_34 ?_
        refine aw_topi (ix100 (t) (k)) ?_
        refine aw_mld S hM 4 (by decide) ((congrFun (hf.2 4 (by decide)) _).trans (hB k (by omega))) (show _ < 6000 by omega) d_Md_take_35 ?_
        refine aw_mst S hM 13 (by decide) (show _ < 100 by omega) d_Md_take_36 (fun g_ hM => ?_)
        refine aw_iinc_2 (v := nI (k + 1)) S d_Md_take_37 ((nI_succ (k)).symm) ?_
        refine aw_goto S 12 d_Md_take_40 (by decide) ?_
        refine ih (k + 1) _ _ _ (by omega) h7 ?_ (hf.f (by decide)) hM
        have := hL.step (k := k) (b := 0) (x := rs.getD k (-1)) (by omega) rfl
        rw [Nat.zero_add] at this
        exact this
  refine aw_aload_0 S d_Md_take_0 ?_
  refine aw_aload_0 S d_Md_take_1 ?_
  refine aw_getf S I_Md 5 hM.2.1 n_fl_Md_19 d_Md_take_2 rfl (by decide) ?_
  refine aw_iload_1 S d_Md_take_5 ?_
  refine aw_mld S hM 3 (by decide) (hz) (show _ < 60 by omega) d_Md_take_6 ?_
  refine aw_mput7 S hM n_fl_Md_109 d_Md_take_7 (fun g_ hM => ?_)
  refine aw_iconst (v := 0) S d_Md_take_10 (by decide) ?_
  refine aw_topi nI_0.symm ?_
  refine aw_istore_2 S d_Md_take_11 ?_
  exact loop rs.length 0 _ f _ (Nat.zero_add _) rfl (by rw [List.take_zero]; exact mL.nil) (mfr.rf.v (by decide)) hM
set_option maxRecDepth 100000 in
set_option maxHeartbeats 4000000 in
theorem ev_Md_part {l : Launch} {E : aw_E} {g : AH} {n : Nat} {g0 : AH} {d : Nat} {v : Nat → Int32} {f : Nat → Nat → Int32} {tape : List Int32} {ts : List Tmv} {bt : Int32} {ps : List Pfv} {pr : List Int32} (q w : Int32) (hM : mG E g0 d v f g) (hs : mSt v f tape ts bt ps pr) : EV l E 5 0 0 y_Md_part c_Md_part 3 (some .int) g n [.ref d, .int q, .int w] (aw_Pi (fun r_ g2 n2 => r_ = op_part ts q w ∧ n2 = n ∧ mS E g0 d g2 (tape) (ts) (bt) (ps) (pr))) := by
  obtain ⟨⟨tl, t0, tL⟩, ⟨nl, n1, nT⟩, b2, ⟨pl, p3, pP⟩, ⟨ql, q6, qL⟩⟩ := id hs
  refine aw_enter "AddressTermsModel" [some (.ref d), some (.int q), some (.int w)] (by decide) rfl rfl (Nat.le_of_ble_eq_true rfl) ?_
  intro p e s m args below meth c S hnm
  refine aw_aload_0 S d_Md_part_0 ?_
  refine aw_iload_1 S d_Md_part_1 ?_
  refine aw_callViR S (ev_Md_isAddress q hM hs) mb_Md_isAddress mi_Md_isAddress n_ml_Md_178 d_Md_part_2 I_Md hM.2.1 rfl rfl rfl ?_
  refine aw_if_eq S 17 d_Md_part_5 (by decide) (fun c5 => ?_) (fun c5 => ?_)
  · refine aw_iconst (v := -1) S d_Md_part_17 (by decide) ?_
    refine aw_iret S rfl d_Md_part_18 ?_ (by decide) (by decide)
    have := Option.isNone_iff_eq_none.mp (Option.isSome_eq_false_iff.mp (aw_b_f c5))
    exact ⟨by rw [op_part, this], rfl, v, f, hM, hs⟩
  · refine aw_iload_2 S d_Md_part_8 ?_
    refine aw_iconst (v := 0) S d_Md_part_9 (by decide) ?_
    refine aw_iconst (v := 4) S d_Md_part_10 (by decide) ?_
    refine aw_callSiR S (ev_Md_is w 0 4) mb_Md_is n_st_Md_is n_ml_Md_77 d_Md_part_11 rfl rfl ?_
    refine aw_if_ne S 19 d_Md_part_14 (by decide) (fun c14 => ?_) (fun c14 => ?_)
    · obtain ⟨j, hj, rfl, hjx⟩ := ix5 (aw_b_t c14)
      have hsm := aw_b_t c5
      obtain ⟨i, hi, rfl, hk, hx⟩ : ∃ i, i < ts.length ∧ q = nI i ∧ (tmG ts i).1 = 0 ∧ ixK ts 0 q = some i := by
        rcases ixOf_cases q (show ts.length < 2 ^ 31 by omega) with z | ⟨i, hi, z1, z2⟩
        · rw [ixK, z] at hsm; cases hsm
        · rw [ixK, z2] at hsm ⊢
          dsimp only at hsm ⊢
          by_cases hk : (tmG ts i).1 = 0
          · exact ⟨i, hi, z1, hk, by rw [if_pos hk]⟩
          · rw [if_neg hk] at hsm; cases hsm
      have hT := nT i hi
      refine aw_aload_0 S d_Md_part_19 ?_
      refine aw_iload_1 S d_Md_part_20 ?_
      refine aw_callVv0 S (ev_Md_take i hM (by omega) hT.2.2.1 hT.2.2.2.2.1 hT.2.2.2.1) mb_Md_take mi_Md_take n_ml_Md_149 d_Md_part_21 I_Md hM.2.1 rfl rfl rfl (fun g2_ n2_ h_ => ?_)
      obtain ⟨rfl, v2, f2, hM, hf, h7, hL, hp⟩ := h_
      have hs2 := hs.keep (hf.wd (by decide) (by decide))
      refine aw_aload_0 S d_Md_part_24 ?_
      refine aw_getf S I_Md 22 hM.2.1 n_fl_Md_56 d_Md_part_25 rfl (by decide) ?_
      refine aw_iload_2 S d_Md_part_28 ?_
      refine aw_mld S hM 14 (by decide) ((hp.at5 hj).1) (show _ < 5 by omega) d_Md_part_29 ?_
      refine aw_if_ge S 38 d_Md_part_30 (by decide) (fun c30 => ?_) (fun c30 => ?_)
      · refine aw_aload_0 S d_Md_part_38 ?_
        refine aw_getf S I_Md 23 hM.2.1 n_fl_Md_59 d_Md_part_39 rfl (by decide) ?_
        refine aw_iload_2 S d_Md_part_42 ?_
        refine aw_mld S hM 15 (by decide) ((hp.at5 hj).2) (show _ < 5 by omega) d_Md_part_43 ?_
        refine aw_aload_0 S d_Md_part_44 ?_
        refine aw_getf S I_Md 22 hM.2.1 n_fl_Md_56 d_Md_part_45 rfl (by decide) ?_
        refine aw_iload_2 S d_Md_part_48 ?_
        refine aw_mld S hM 14 (by decide) ((hp.at5 hj).1) (show _ < 5 by omega) d_Md_part_49 ?_
        refine aw_isub S d_Md_part_50 ?_
        refine aw_iret S rfl d_Md_part_51 ?_ (by decide) (by decide)
        refine ⟨?_, rfl, v2, f2, hM, hs2⟩
        rw [op_part, hx, hjx]
        dsimp only
        cases hpt : sp_pt (tmG ts i).2.2.2.1 j with
        | none =>
          rw [hpt] at c30
          exact absurd c30 (by decide)
        | some z =>
          have hz := sp_pt_le hpt
          rw [if_pos (show (some z).isSome = true from rfl), sp_plen, hpt]
          show nI z.2 - nI z.1 = nI (z.2 - z.1)
          exact nI_subt hz.1
      · refine aw_bipush (v := -2) S d_Md_part_33 (by decide) ?_
        refine aw_goto S 51 d_Md_part_35 (by decide) ?_
        refine aw_iret S rfl d_Md_part_51 ?_ (by decide) (by decide)
        refine ⟨?_, rfl, v2, f2, hM, hs2⟩
        rw [op_part, hx, hjx]
        dsimp only
        cases hpt : sp_pt (tmG ts i).2.2.2.1 j with
        | none => rfl
        | some z =>
          rw [hpt] at c30
          have := sp_pt_le hpt
          exact absurd (nI_pos' (n := z.1) (by have := hT.2.2.2.1; omega)) c30
    · refine aw_iconst (v := -1) S d_Md_part_17 (by decide) ?_
      refine aw_iret S rfl d_Md_part_18 ?_ (by decide) (by decide)
      have : ixOf 5 w = none := by
        have e : sp_in w 0 4 = (ixOf 5 w).isSome := sp_in_ix (L := 5) (by decide)
        rw [aw_b_f c14] at e
        exact Option.isNone_iff_eq_none.mp (Option.isSome_eq_false_iff.mp e.symm)
      refine ⟨?_, rfl, v, f, hM, hs⟩
      rw [op_part, this]
      cases ixK ts 0 q <;> rfl
theorem rfb_iff {b : Int32} : sp_rfb b = true ↔ sp_in b 33 126 = true ∧ b ≠ 34 ∧ b ≠ 60 ∧ b ≠ 62 ∧ b ≠ 92 ∧ b ≠ 94 ∧ b ≠ 96 ∧ sp_in b 123 125 = false := by
  have h : sp_in b 33 126 = true → (sp_in b 123 125 = false ↔ b ≠ 123 ∧ b ≠ 124 ∧ b ≠ 125) := by
    intro h
    unfold sp_in at h
    rw [Bool.and_eq_true] at h
    have h1 : ¬ b < 33 := by simpa using h.1
    have h2 : ¬ 126 < b := by simpa using h.2
    obtain ⟨j, hj, rfl⟩ := nI_of2 (x := b) (M := 126) (n := 126) (by decide) (fun z => h1 (Int32.lt_trans z (by decide))) (Int32.not_lt.mp h2)
    have : ∀ j, j < 127 → (sp_in (nI j) 123 125 = false ↔ nI j ≠ 123 ∧ nI j ≠ 124 ∧ nI j ≠ 125) := by decide +kernel
    exact this j (by omega)
  unfold sp_rfb
  rw [Bool.and_eq_true]
  constructor
  · rintro ⟨h1, h2⟩
    have h2 : ¬ b ∈ ([34, 60, 62, 92, 94, 96, 123, 124, 125] : List Int32) := by simpa using h2
    simp only [List.mem_cons, List.not_mem_nil, or_false, not_or] at h2
    exact ⟨h1, h2.1, h2.2.1, h2.2.2.1, h2.2.2.2.1, h2.2.2.2.2.1, h2.2.2.2.2.2.1, (h h1).mpr h2.2.2.2.2.2.2⟩
  · rintro ⟨h1, h2, h3, h4, h5, h6, h7, h8⟩
    have h9 := (h h1).mp h8
    refine ⟨h1, ?_⟩
    have : ¬ b ∈ ([34, 60, 62, 92, 94, 96, 123, 124, 125] : List Int32) := by
      simp only [List.mem_cons, List.not_mem_nil, or_false, not_or]
      exact ⟨h2, h3, h4, h5, h6, h7, h9⟩
    simpa using this
theorem hex_neg {b : Int32} : sp_hex b < 0 ↔ sp_hex b = -1 := by
  unfold sp_hex
  have hd : ∀ lo hi : Nat, lo < 200 → hi < 200 → sp_in b (nI lo) (nI hi) = true → ∃ j, j ≤ hi ∧ lo ≤ j ∧ b = nI j := by
    intro lo hi hlo hhi h
    unfold sp_in at h
    rw [Bool.and_eq_true] at h
    have h1 : ¬ b < nI lo := by simpa using h.1
    have h2 : ¬ nI hi < b := by simpa using h.2
    have h0 : ¬ b < 0 := fun z => h1 (Int32.lt_of_lt_of_le z (nI_pos' (by omega)))
    obtain ⟨j, hj, rfl⟩ := nI_of h0
    rw [nI_ltI hj (by omega)] at h1
    rw [nI_ltI (by omega) hj] at h2
    exact ⟨j, by omega, by omega, rfl⟩
  by_cases c1 : sp_dig b = true
  · obtain ⟨j, h1, h2, rfl⟩ := hd 48 57 (by decide) (by decide) c1
    rw [if_pos c1]
    have : ∀ j, j < 58 → 48 ≤ j → (nI j - 48 < 0 ↔ nI j - 48 = -1) := by decide +kernel
    exact this j (by omega) h2
  · rw [if_neg c1]
    by_cases c2 : sp_in b 97 102 = true
    · obtain ⟨j, h1, h2, rfl⟩ := hd 97 102 (by decide) (by decide) c2
      rw [if_pos c2]
      have : ∀ j, j < 103 → 97 ≤ j → (nI j - 97 + 10 < 0 ↔ nI j - 97 + 10 = -1) := by decide +kernel
      exact this j (by omega) h2
    · rw [if_neg c2]
      by_cases c3 : sp_in b 65 70 = true
      · obtain ⟨j, h1, h2, rfl⟩ := hd 65 70 (by decide) (by decide) c3
        rw [if_pos c3]
        have : ∀ j, j < 71 → 65 ≤ j → (nI j - 65 + 10 < 0 ↔ nI j - 65 + 10 = -1) := by decide +kernel
        exact this j (by omega) h2
      · rw [if_neg c3]
        decide
theorem hex_m1 : sp_hex (-1) = -1 := by decide
set_option maxRecDepth 100000 in
set_option maxHeartbeats 4000000 in
theorem ev_Md_wrong {l : Launch} {E : aw_E} {g : AH} {n : Nat} {g0 : AH} {d : Nat} {v : Nat → Int32} {f : Nat → Nat → Int32} {tape : List Int32} {ts : List Tmv} {bt : Int32} {ps : List Pfv} {pr : List Int32} (hM : mG E g0 d v f g) (hs : mSt v f tape ts bt ps pr) : EV l E 3 0 0 y_Md_wrong c_Md_wrong 4 (some .int) g n [.ref d] (aw_Pi (fun r_ g2 n2 => r_ = oi (sp_wrF tape 0) ∧ g2 = g ∧ n2 = n)) := by
  obtain ⟨⟨tl, t0, tL⟩, ⟨nl, n1, nT⟩, b2, ⟨pl, p3, pP⟩, ⟨ql, q6, qL⟩⟩ := id hs
  refine aw_enter "AddressTermsModel" [some (.ref d), none, none, none] (by decide) rfl rfl (Nat.le_of_ble_eq_true rfl) ?_
  intro p e s m args below meth c S hnm
  have loop : ∀ (j k : Nat) (x y : Option Value), k + j = tape.length → sp_wrF (tape.drop k) k = sp_wrF tape 0 → AW p l e { frames := 3, cells := 0, slots := 0, locals := 40 * 3 } s m args below meth c E 4 (aw_Z E (aw_Pi (fun r_ g2 n2 => r_ = oi (sp_wrF tape 0) ∧ g2 = g ∧ n2 = n)) below args s 0 0) 0 0 g n 2 [some (.ref d), some (.int (nI k)), x, y] [] := by
    intro j
    induction j with
    | zero =>
      intro k x y hk hv
      rw [List.drop_eq_nil_iff.mpr (show tape.length ≤ k by omega), sp_wrF] at hv
      refine aw_iload_1 S d_Md_wrong_2 ?_
      refine aw_aload_0 S d_Md_wrong_3 ?_
      refine aw_getf S I_Md 0 hM.2.1 n_fl_Md_90 d_Md_wrong_4 rfl (by decide) ?_
      refine aw_topi t0 ?_
      refine aw_icmp_ge S 143 d_Md_wrong_7 (by decide) (fun c7 => ?_) (fun c7 => ?_)
      · refine aw_iconst (v := -1) S d_Md_wrong_143 (by decide) ?_
        refine aw_iret S rfl d_Md_wrong_144 ?_ (by decide) (by decide)
        exact ⟨by rw [← hv]; rfl, rfl, rfl⟩
      · exact absurd (nI_le (by omega) (by omega)) c7
    | succ j ih =>
      intro k x y hk hv
      have hkl : k < tape.length := by omega
      rw [drop_cons hkl, sp_wrF] at hv
      have g1 : ∀ i, (tape.drop (k + 1)).getD i (-1) = tape.getD (k + 1 + i) (-1) := fun i => by simp [List.getD_eq_getElem?_getD]
      rw [g1 0, g1 1] at hv
      have s131 : ∀ (b : Bool), (b = true ↔ sp_rfb (tape.getD k (-1)) = true ∧ ¬ (tape.getD k (-1) = 37 ∧ (sp_hex (tape.getD (k + 1 + 0) (-1)) = -1 ∨ sp_hex (tape.getD (k + 1 + 1) (-1)) = -1))) → AW p l e { frames := 3, cells := 0, slots := 0, locals := 40 * 3 } s m args below meth c E 4 (aw_Z E (aw_Pi (fun r_ g2 n2 => r_ = oi (sp_wrF tape 0) ∧ g2 = g ∧ n2 = n)) below args s 0 0) 0 0 g n 131 [some (.ref d), some (.int (nI k)), some (.int (tape.getD k (-1))), some (.int (aw_b b))] [] := by
        intro b hb
        refine aw_iload_3 S d_Md_wrong_131 ?_
        refine aw_if_ne S 137 d_Md_wrong_132 (by decide) (fun c132 => ?_) (fun c132 => ?_)
        · refine aw_iinc_1 (v := nI (k + 1)) S d_Md_wrong_137 ((nI_succ (k)).symm) ?_
          refine aw_goto S 2 d_Md_wrong_140 (by decide) ?_
          have hb1 := hb.mp (aw_b_t c132)
          rw [if_pos hb1.1, if_neg hb1.2] at hv
          exact ih (k + 1) _ _ (by omega) hv
        · refine aw_iload_1 S d_Md_wrong_135 ?_
          refine aw_iret S rfl d_Md_wrong_136 ?_ (by decide) (by decide)
          refine ⟨?_, rfl, rfl⟩
          have hb0 := aw_b_f c132
          rw [← hv]
          by_cases q : sp_rfb (tape.getD k (-1)) = true
          · rw [if_pos q, if_pos (Classical.not_not.mp (fun z => by rw [hb.mpr ⟨q, z⟩] at hb0; cases hb0))]; rfl
          · rw [if_neg q]; rfl
      have s81 : ∀ (b : Bool), b = sp_rfb (tape.getD k (-1)) → AW p l e { frames := 3, cells := 0, slots := 0, locals := 40 * 3 } s m args below meth c E 4 (aw_Z E (aw_Pi (fun r_ g2 n2 => r_ = oi (sp_wrF tape 0) ∧ g2 = g ∧ n2 = n)) below args s 0 0) 0 0 g n 81 [some (.ref d), some (.int (nI k)), some (.int (tape.getD k (-1))), some (.int (aw_b b))] [] := by
        intro b hb
        refine aw_iload_2 S d_Md_wrong_81 ?_
        refine aw_bipush (v := 37) S d_Md_wrong_82 (by decide) ?_
        refine aw_icmp_ne S 131 d_Md_wrong_84 (by decide) (fun c84 => ?_) (fun c84 => ?_)
        · exact s131 b ⟨fun z => ⟨hb ▸ z, fun q => c84 q.1⟩, fun z => hb.trans z.1⟩
        · have hrf : sp_rfb (tape.getD k (-1)) = true := by rw [c84]; decide
          refine aw_iload_1 S d_Md_wrong_87 ?_
          refine aw_iconst (v := 2) S d_Md_wrong_88 (by decide) ?_
          refine aw_iadd S d_Md_wrong_89 ?_
          refine aw_topi (nI_add _ 2) ?_
          refine aw_aload_0 S d_Md_wrong_90 ?_
          refine aw_getf S I_Md 0 hM.2.1 n_fl_Md_90 d_Md_wrong_91 rfl (by decide) ?_
          refine aw_topi t0 ?_
          refine aw_icmp_ge S 129 d_Md_wrong_94 (by decide) (fun c94 => ?_) (fun c94 => ?_)
          · refine aw_iconst (v := 0) S d_Md_wrong_129 (by decide) ?_
            refine aw_istore_3 S d_Md_wrong_130 ?_
            rw [nI_leI (by omega) (by omega)] at c94
            refine s131 false ⟨fun z => (by cases z), fun z => absurd ⟨c84, Or.inr ?_⟩ z.2⟩
            rw [getD_out (show tape.length ≤ k + 1 + 1 by omega)]; exact hex_m1
          · rw [nI_leI (by omega) (by omega)] at c94
            refine aw_aload_0 S d_Md_wrong_97 ?_
            refine aw_getf S I_Md 1 hM.2.1 n_fl_Md_7 d_Md_wrong_98 rfl (by decide) ?_
            refine aw_iload_1 S d_Md_wrong_101 ?_
            refine aw_iconst (v := 1) S d_Md_wrong_102 (by decide) ?_
            refine aw_iadd S d_Md_wrong_103 ?_
            refine aw_topi (nI_1 _) ?_
            refine aw_mld S hM 0 (by decide) (tL.at0 (show k + 1 < tape.length by omega)) (show _ < 96 by omega) d_Md_wrong_104 ?_
            refine aw_callSiR S (ev_Md_hex (tape.getD (k + 1) (-1))) mb_Md_hex n_st_Md_hex n_ml_Md_126 d_Md_wrong_105 rfl rfl ?_
            refine aw_if_lt S 129 d_Md_wrong_108 (by decide) (fun c108 => ?_) (fun c108 => ?_)
            · refine aw_iconst (v := 0) S d_Md_wrong_129 (by decide) ?_
              refine aw_istore_3 S d_Md_wrong_130 ?_
              exact s131 false ⟨fun z => (by cases z), fun z => absurd ⟨c84, Or.inl (hex_neg.mp c108)⟩ z.2⟩
            · refine aw_aload_0 S d_Md_wrong_111 ?_
              refine aw_getf S I_Md 1 hM.2.1 n_fl_Md_7 d_Md_wrong_112 rfl (by decide) ?_
              refine aw_iload_1 S d_Md_wrong_115 ?_
              refine aw_iconst (v := 2) S d_Md_wrong_116 (by decide) ?_
              refine aw_iadd S d_Md_wrong_117 ?_
              refine aw_topi (nI_add _ 2) ?_
              refine aw_mld S hM 0 (by decide) (tL.at0 (show k + 2 < tape.length by omega)) (show _ < 96 by omega) d_Md_wrong_118 ?_
              refine aw_callSiR S (ev_Md_hex (tape.getD (k + 2) (-1))) mb_Md_hex n_st_Md_hex n_ml_Md_126 d_Md_wrong_119 rfl rfl ?_
              refine aw_if_lt S 129 d_Md_wrong_122 (by decide) (fun c122 => ?_) (fun c122 => ?_)
              · refine aw_iconst (v := 0) S d_Md_wrong_129 (by decide) ?_
                refine aw_istore_3 S d_Md_wrong_130 ?_
                exact s131 false ⟨fun z => (by cases z), fun z => absurd ⟨c84, Or.inr (hex_neg.mp c122)⟩ z.2⟩
              · refine aw_iconst (v := 1) S d_Md_wrong_125 (by decide) ?_
                refine aw_goto S 130 d_Md_wrong_126 (by decide) ?_
                refine aw_istore_3 S d_Md_wrong_130 ?_
                exact s131 true ⟨fun _ => ⟨hrf, fun z => z.2.elim (fun q => c108 (hex_neg.mpr q)) (fun q => c122 (hex_neg.mpr q))⟩, fun _ => rfl⟩
      refine aw_iload_1 S d_Md_wrong_2 ?_
      refine aw_aload_0 S d_Md_wrong_3 ?_
      refine aw_getf S I_Md 0 hM.2.1 n_fl_Md_90 d_Md_wrong_4 rfl (by decide) ?_
      refine aw_topi t0 ?_
      refine aw_icmp_ge S 143 d_Md_wrong_7 (by decide) (fun c7 => ?_) (fun c7 => ?_)
      · exact absurd c7 (nI_ge (by omega) (by omega))
      · refine aw_aload_0 S d_Md_wrong_10 ?_
        refine aw_getf S I_Md 1 hM.2.1 n_fl_Md_7 d_Md_wrong_11 rfl (by decide) ?_
        refine aw_iload_1 S d_Md_wrong_14 ?_
        refine aw_mld S hM 0 (by decide) (tL.at0 hkl) (show _ < 96 by omega) d_Md_wrong_15 ?_
        refine aw_istore_2 S d_Md_wrong_16 ?_
        refine aw_iload_2 S d_Md_wrong_17 ?_
        refine aw_bipush (v := 33) S d_Md_wrong_18 (by decide) ?_
        refine aw_bipush (v := 126) S d_Md_wrong_20 (by decide) ?_
        refine aw_callSiR S (ev_Md_is (tape.getD k (-1)) 33 126) mb_Md_is n_st_Md_is n_ml_Md_77 d_Md_wrong_22 rfl rfl ?_
        refine aw_if_eq S 79 d_Md_wrong_25 (by decide) (fun c25 => ?_) (fun c25 => ?_)
        · refine aw_iconst (v := 0) S d_Md_wrong_79 (by decide) ?_
          refine aw_istore_3 S d_Md_wrong_80 ?_
          refine s81 false ?_
          symm
          rw [Bool.eq_false_iff, Ne, rfb_iff]
          exact fun z => by rw [z.1] at c25; exact absurd c25 (by decide)
        · refine aw_iload_2 S d_Md_wrong_28 ?_
          refine aw_bipush (v := 34) S d_Md_wrong_29 (by decide) ?_
          refine aw_icmp_eq S 79 d_Md_wrong_31 (by decide) (fun c31 => ?_) (fun c31 => ?_)
          · refine aw_iconst (v := 0) S d_Md_wrong_79 (by decide) ?_
            refine aw_istore_3 S d_Md_wrong_80 ?_
            refine s81 false ?_
            symm
            rw [Bool.eq_false_iff, Ne, rfb_iff]
            exact fun z => z.2.1 c31
          · refine aw_iload_2 S d_Md_wrong_34 ?_
            refine aw_bipush (v := 60) S d_Md_wrong_35 (by decide) ?_
            refine aw_icmp_eq S 79 d_Md_wrong_37 (by decide) (fun c37 => ?_) (fun c37 => ?_)
            · refine aw_iconst (v := 0) S d_Md_wrong_79 (by decide) ?_
              refine aw_istore_3 S d_Md_wrong_80 ?_
              refine s81 false ?_
              symm
              rw [Bool.eq_false_iff, Ne, rfb_iff]
              exact fun z => z.2.2.1 c37
            · refine aw_iload_2 S d_Md_wrong_40 ?_
              refine aw_bipush (v := 62) S d_Md_wrong_41 (by decide) ?_
              refine aw_icmp_eq S 79 d_Md_wrong_43 (by decide) (fun c43 => ?_) (fun c43 => ?_)
              · refine aw_iconst (v := 0) S d_Md_wrong_79 (by decide) ?_
                refine aw_istore_3 S d_Md_wrong_80 ?_
                refine s81 false ?_
                symm
                rw [Bool.eq_false_iff, Ne, rfb_iff]
                exact fun z => z.2.2.2.1 c43
              · refine aw_iload_2 S d_Md_wrong_46 ?_
                refine aw_bipush (v := 92) S d_Md_wrong_47 (by decide) ?_
                refine aw_icmp_eq S 79 d_Md_wrong_49 (by decide) (fun c49 => ?_) (fun c49 => ?_)
                · refine aw_iconst (v := 0) S d_Md_wrong_79 (by decide) ?_
                  refine aw_istore_3 S d_Md_wrong_80 ?_
                  refine s81 false ?_
                  symm
                  rw [Bool.eq_false_iff, Ne, rfb_iff]
                  exact fun z => z.2.2.2.2.1 c49
                · refine aw_iload_2 S d_Md_wrong_52 ?_
                  refine aw_bipush (v := 94) S d_Md_wrong_53 (by decide) ?_
                  refine aw_icmp_eq S 79 d_Md_wrong_55 (by decide) (fun c55 => ?_) (fun c55 => ?_)
                  · refine aw_iconst (v := 0) S d_Md_wrong_79 (by decide) ?_
                    refine aw_istore_3 S d_Md_wrong_80 ?_
                    refine s81 false ?_
                    symm
                    rw [Bool.eq_false_iff, Ne, rfb_iff]
                    exact fun z => z.2.2.2.2.2.1 c55
                  · refine aw_iload_2 S d_Md_wrong_58 ?_
                    refine aw_bipush (v := 96) S d_Md_wrong_59 (by decide) ?_
                    refine aw_icmp_eq S 79 d_Md_wrong_61 (by decide) (fun c61 => ?_) (fun c61 => ?_)
                    · refine aw_iconst (v := 0) S d_Md_wrong_79 (by decide) ?_
                      refine aw_istore_3 S d_Md_wrong_80 ?_
                      refine s81 false ?_
                      symm
                      rw [Bool.eq_false_iff, Ne, rfb_iff]
                      exact fun z => z.2.2.2.2.2.2.1 c61
                    · refine aw_iload_2 S d_Md_wrong_64 ?_
                      refine aw_bipush (v := 123) S d_Md_wrong_65 (by decide) ?_
                      refine aw_bipush (v := 125) S d_Md_wrong_67 (by decide) ?_
                      refine aw_callSiR S (ev_Md_is (tape.getD k (-1)) 123 125) mb_Md_is n_st_Md_is n_ml_Md_77 d_Md_wrong_69 rfl rfl ?_
                      refine aw_if_ne S 79 d_Md_wrong_72 (by decide) (fun c72 => ?_) (fun c72 => ?_)
                      · refine aw_iconst (v := 0) S d_Md_wrong_79 (by decide) ?_
                        refine aw_istore_3 S d_Md_wrong_80 ?_
                        refine s81 false ?_
                        symm
                        rw [Bool.eq_false_iff, Ne, rfb_iff]
                        exact fun z => by rw [z.2.2.2.2.2.2.2] at c72; exact c72 rfl
                      · refine aw_iconst (v := 1) S d_Md_wrong_75 (by decide) ?_
                        refine aw_goto S 80 d_Md_wrong_76 (by decide) ?_
                        refine aw_istore_3 S d_Md_wrong_80 ?_
                        exact s81 true (rfb_iff.mpr ⟨aw_b_t c25, c31, c37, c43, c49, c55, c61, aw_b_f c72⟩).symm
  refine aw_iconst (v := 0) S d_Md_wrong_0 (by decide) ?_
  refine aw_topi nI_0.symm ?_
  refine aw_istore_1 S d_Md_wrong_1 ?_
  exact loop tape.length 0 none none (by omega) rfl
