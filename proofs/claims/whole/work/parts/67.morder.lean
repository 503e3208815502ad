/-! the reference: the order -/
theorem sgn_neg {m : Nat} (h0 : 0 < m) (h : m < 2 ^ 30) : (-(nI m)) < 0 := by
  rw [Int32.lt_iff_toInt_lt, Int32.toInt_neg, nI_toInt (by omega), Int.bmod_def]
  have e0 : (0 : Int32).toInt = 0 := by decide
  rw [e0]
  split <;> omega
theorem sgn_sub {a b : Nat} (ha : a < 2 ^ 30) (hb : b < 2 ^ 30) : sp_sign (nI a - nI b) = sp_ord (nI a) (nI b) := by
  rcases Nat.lt_trichotomy a b with h | h | h
  · have e : nI a - nI b = -(nI (b - a)) := by
      have : nI b = nI (b - a) + nI a := by rw [nI_add]; congr 1; omega
      rw [this, Int32.sub_eq_add_neg, Int32.neg_add, Int32.sub_eq_add_neg, Int32.add_comm (-nI (b - a)), ← Int32.add_assoc, Int32.add_right_neg, Int32.zero_add]
    rw [e, sp_sign, if_pos (sgn_neg (by omega) (by omega)), sp_ord, if_neg (fun z => by rw [nI_eq (by omega) (by omega)] at z; omega), if_pos (nI_lt h (by omega))]
  · subst h
    rw [Int32.sub_self, sp_ord, if_pos rfl]; rfl
  · rw [nI_subt (by omega), sp_sign, if_neg (nI_pos (by omega)), if_neg (nI_nle (by omega) (by omega)), sp_ord, if_neg (fun z => by rw [nI_eq (by omega) (by omega)] at z; omega), if_neg (nI_nlt (by omega) (by omega))]
theorem sgn_bt {x y : Int32} (hx : sp_bt x) (hy : sp_bt y) : sp_sign (x - y) = sp_ord x y := by
  obtain ⟨a, ha, rfl⟩ := hx.nat
  obtain ⟨b, hb, rfl⟩ := hy.nat
  exact sgn_sub (by omega) (by omega)
theorem sgn0 {v : Int32} : sp_sign v = 0 ↔ v = 0 := by
  unfold sp_sign
  constructor
  · intro h
    by_cases h1 : v < 0
    · rw [if_pos h1] at h; exact absurd h (by decide)
    · rw [if_neg h1] at h
      by_cases h2 : v ≤ 0
      · exact Int32.le_antisymm h2 (Int32.not_lt.mp h1)
      · rw [if_neg h2] at h; exact absurd h (by decide)
  · intro h; rw [h]; rfl
set_option maxRecDepth 100000 in
set_option maxHeartbeats 4000000 in
theorem ev_Md_compareBytes {l : Launch} {E : aw_E} {g : AH} {n : Nat} {g0 : AH} {d : Nat} {v : Nat → Int32} {f : Nat → Nat → Int32} {xs ys : List Int32} (i j0 : Nat) (hM : mG E g0 d v f g) (hi : i < 60) (hj : j0 < 60) (hz1 : f 3 i = nI xs.length) (hz2 : f 3 j0 = nI ys.length) (hl1 : xs.length ≤ 100) (hl2 : ys.length ≤ 100) (hB1 : mL (f 4) (100 * i) xs) (hB2 : mL (f 4) (100 * j0) ys) (hb1 : ∀ x ∈ xs, sp_bt x) (hb2 : ∀ x ∈ ys, sp_bt x) : EV l E 0 0 0 y_Md_compareBytes c_Md_compareBytes 5 (some .int) g n [.ref d, .int (nI i), .int (nI j0)] (aw_Pi (fun r_ g2 n2 => sp_sign r_ = sp_cmp xs ys ∧ g2 = g ∧ n2 = n)) := by
  refine aw_enter "AddressTermsModel" [some (.ref d), some (.int (nI i)), some (.int (nI j0)), none, none] (by decide) rfl rfl (Nat.le_of_ble_eq_true rfl) ?_
  intro p e s m args below meth c S hnm
  have loop : ∀ (j k : Nat) (x : Option Value), k + j = min xs.length ys.length → sp_cmp (xs.drop k) (ys.drop k) = sp_cmp xs ys → AW p l e { frames := 0, cells := 0, slots := 0, locals := 40 * 0 } s m args below meth c E 5 (aw_Z E (aw_Pi (fun r_ g2 n2 => sp_sign r_ = sp_cmp xs ys ∧ g2 = g ∧ n2 = n)) below args s 0 0) 0 0 g n 2 [some (.ref d), some (.int (nI i)), some (.int (nI j0)), some (.int (nI k)), x] [] := by
    intro j
    induction j with
    | zero =>
      intro k x hk hv
      have fin : AW p l e { frames := 0, cells := 0, slots := 0, locals := 40 * 0 } s m args below meth c E 5 (aw_Z E (aw_Pi (fun r_ g2 n2 => sp_sign r_ = sp_cmp xs ys ∧ g2 = g ∧ n2 = n)) below args s 0 0) 0 0 g n 61 [some (.ref d), some (.int (nI i)), some (.int (nI j0)), some (.int (nI k)), x] [] := by
        refine aw_aload_0 S d_Md_compareBytes_61 ?_
        refine aw_getf S I_Md 5 hM.2.1 n_fl_Md_19 d_Md_compareBytes_62 rfl (by decide) ?_
        refine aw_iload_1 S d_Md_compareBytes_65 ?_
        refine aw_mld S hM 3 (by decide) (hz1) (show _ < 60 by omega) d_Md_compareBytes_66 ?_
        refine aw_aload_0 S d_Md_compareBytes_67 ?_
        refine aw_getf S I_Md 5 hM.2.1 n_fl_Md_19 d_Md_compareBytes_68 rfl (by decide) ?_
        refine aw_iload_2 S d_Md_compareBytes_71 ?_
        refine aw_mld S hM 3 (by decide) (hz2) (show _ < 60 by omega) d_Md_compareBytes_72 ?_
        refine aw_isub S d_Md_compareBytes_73 ?_
        refine aw_iret S rfl d_Md_compareBytes_74 ?_ (by decide) (by decide)
        refine ⟨?_, rfl, rfl⟩
        rw [sgn_sub (by omega) (by omega), ← hv, nI_ord (by omega) (by omega), sp_cmp_end (by rcases Nat.le_total xs.length ys.length with h | h; exact Or.inl (List.drop_eq_nil_iff.mpr (by omega)); exact Or.inr (List.drop_eq_nil_iff.mpr (by omega)))]
        rw [List.length_drop, List.length_drop]
        simp only [show (xs.length - k = ys.length - k) ↔ (xs.length = ys.length) by omega, show (xs.length - k < ys.length - k) ↔ (xs.length < ys.length) by omega]
      refine aw_iload_3 S d_Md_compareBytes_2 ?_
      refine aw_aload_0 S d_Md_compareBytes_3 ?_
      refine aw_getf S I_Md 5 hM.2.1 n_fl_Md_19 d_Md_compareBytes_4 rfl (by decide) ?_
      refine aw_iload_1 S d_Md_compareBytes_7 ?_
      refine aw_mld S hM 3 (by decide) (hz1) (show _ < 60 by omega) d_Md_compareBytes_8 ?_
      refine aw_icmp_ge S 61 d_Md_compareBytes_9 (by decide) (fun c9 => ?_) (fun c9 => ?_)
      · exact fin
      · rw [nI_leI (by omega) (by omega)] at c9
        refine aw_iload_3 S d_Md_compareBytes_12 ?_
        refine aw_aload_0 S d_Md_compareBytes_13 ?_
        refine aw_getf S I_Md 5 hM.2.1 n_fl_Md_19 d_Md_compareBytes_14 rfl (by decide) ?_
        refine aw_iload_2 S d_Md_compareBytes_17 ?_
        refine aw_mld S hM 3 (by decide) (hz2) (show _ < 60 by omega) d_Md_compareBytes_18 ?_
        refine aw_icmp_ge S 61 d_Md_compareBytes_19 (by decide) (fun c19 => ?_) (fun c19 => ?_)
        · exact fin
        · rw [nI_leI (by omega) (by omega)] at c19
          omega
    | succ j ih =>
      intro k x hk hv
      have hkx : k < xs.length := by omega
      have hky : k < ys.length := by omega
      have h1 := hb1 _ (getD_mem hkx)
      have h2 := hb2 _ (getD_mem hky)
      rw [drop_cons hkx, drop_cons hky, sp_cmp] at hv
      refine aw_iload_3 S d_Md_compareBytes_2 ?_
      refine aw_aload_0 S d_Md_compareBytes_3 ?_
      refine aw_getf S I_Md 5 hM.2.1 n_fl_Md_19 d_Md_compareBytes_4 rfl (by decide) ?_
      refine aw_iload_1 S d_Md_compareBytes_7 ?_
      refine aw_mld S hM 3 (by decide) (hz1) (show _ < 60 by omega) d_Md_compareBytes_8 ?_
      refine aw_icmp_ge S 61 d_Md_compareBytes_9 (by decide) (fun c9 => ?_) (fun c9 => ?_)
      · exact absurd c9 (nI_ge (by omega) (by omega))
      · refine aw_iload_3 S d_Md_compareBytes_12 ?_
        refine aw_aload_0 S d_Md_compareBytes_13 ?_
        refine aw_getf S I_Md 5 hM.2.1 n_fl_Md_19 d_Md_compareBytes_14 rfl (by decide) ?_
        refine aw_iload_2 S d_Md_compareBytes_17 ?_
        refine aw_mld S hM 3 (by decide) (hz2) (show _ < 60 by omega) d_Md_compareBytes_18 ?_
        refine aw_icmp_ge S 61 d_Md_compareBytes_19 (by decide) (fun c19 => ?_) (fun c19 => ?_)
        · exact absurd c19 (nI_ge (by omega) (by omega))
        · refine aw_aload_0 S d_Md_compareBytes_22 ?_
          refine aw_getf S I_Md 6 hM.2.1 n_fl_Md_22 d_Md_compareBytes_23 rfl (by decide) ?_
          refine aw_bipush (v := 100) S d_Md_compareBytes_26 (by decide) ?_
          refine aw_iload_1 S d_Md_compareBytes_28 ?_
          refine aw_imul S d_Md_compareBytes_29 ?_
          refine aw_iload_3 S d_Md_compareBytes_30 ?_
          refine aw_iadd S d_Md_compareBytes_31 ?_
          refine aw_topi (ix100 (i) (k)) ?_
          refine aw_mld S hM 4 (by decide) (hB1 k hkx) (show _ < 6000 by omega) d_Md_compareBytes_32 ?_
          refine aw_aload_0 S d_Md_compareBytes_33 ?_
          refine aw_getf S I_Md 6 hM.2.1 n_fl_Md_22 d_Md_compareBytes_34 rfl (by decide) ?_
          refine aw_bipush (v := 100) S d_Md_compareBytes_37 (by decide) ?_
          refine aw_iload_2 S d_Md_compareBytes_39 ?_
          refine aw_imul S d_Md_compareBytes_40 ?_
          refine aw_iload_3 S d_Md_compareBytes_41 ?_
          refine aw_iadd S d_Md_compareBytes_42 ?_
          refine aw_topi (ix100 (j0) (k)) ?_
          refine aw_mld S hM 4 (by decide) (hB2 k hky) (show _ < 6000 by omega) d_Md_compareBytes_43 ?_
          refine aw_isub S d_Md_compareBytes_44 ?_
          refine aw_istore_4 S d_Md_compareBytes_45 ?_
          refine aw_iload_4 S d_Md_compareBytes_47 ?_
          refine aw_if_eq S 55 d_Md_compareBytes_49 (by decide) (fun c49 => ?_) (fun c49 => ?_)
          · refine aw_iinc_3 (v := nI (k + 1)) S d_Md_compareBytes_55 ((nI_succ (k)).symm) ?_
            refine aw_goto S 2 d_Md_compareBytes_58 (by decide) ?_
            rw [if_pos ((sgn_bt h1 h2).symm.trans (sgn0.mpr c49))] at hv
            exact ih (k + 1) _ (by omega) hv
          · refine aw_iload_4 S d_Md_compareBytes_52 ?_
            refine aw_iret S rfl d_Md_compareBytes_54 ?_ (by decide) (by decide)
            refine ⟨?_, rfl, rfl⟩
            rw [if_neg (fun z => c49 (sgn0.mp ((sgn_bt h1 h2).trans z)))] at hv
            rw [← hv]; exact sgn_bt h1 h2
  refine aw_iconst (v := 0) S d_Md_compareBytes_0 (by decide) ?_
  refine aw_topi nI_0.symm ?_
  refine aw_istore_3 S d_Md_compareBytes_1 ?_
  exact loop _ 0 none (Nat.zero_add _) rfl
set_option maxRecDepth 100000 in
set_option maxHeartbeats 4000000 in
theorem ev_Md_compareTags {l : Launch} {E : aw_E} {g : AH} {n : Nat} {g0 : AH} {d : Nat} {v : Nat → Int32} {f : Nat → Nat → Int32} {xs ys : List Int32} (i j0 : Nat) (hM : mG E g0 d v f g) (hi : i < 60) (hj : j0 < 60) (hz1 : f 5 i = nI xs.length) (hz2 : f 5 j0 = nI ys.length) (hl1 : xs.length ≤ 16) (hl2 : ys.length ≤ 16) (hB1 : mL (f 6) (16 * i) xs) (hB2 : mL (f 6) (16 * j0) ys) (hb1 : ∀ x ∈ xs, sp_bt x) (hb2 : ∀ x ∈ ys, sp_bt x) : EV l E 0 0 0 y_Md_compareTags c_Md_compareTags 5 (some .int) g n [.ref d, .int (nI i), .int (nI j0)] (aw_Pi (fun r_ g2 n2 => sp_sign r_ = sp_cmp xs ys ∧ g2 = g ∧ n2 = n)) := by
  refine aw_enter "AddressTermsModel" [some (.ref d), some (.int (nI i)), some (.int (nI j0)), none, none] (by decide) rfl rfl (Nat.le_of_ble_eq_true rfl) ?_
  intro p e s m args below meth c S hnm
  have loop : ∀ (j k : Nat) (x : Option Value), k + j = min xs.length ys.length → sp_cmp (xs.drop k) (ys.drop k) = sp_cmp xs ys → AW p l e { frames := 0, cells := 0, slots := 0, locals := 40 * 0 } s m args below meth c E 5 (aw_Z E (aw_Pi (fun r_ g2 n2 => sp_sign r_ = sp_cmp xs ys ∧ g2 = g ∧ n2 = n)) below args s 0 0) 0 0 g n 2 [some (.ref d), some (.int (nI i)), some (.int (nI j0)), some (.int (nI k)), x] [] := by
    intro j
    induction j with
    | zero =>
      intro k x hk hv
      have fin : AW p l e { frames := 0, cells := 0, slots := 0, locals := 40 * 0 } s m args below meth c E 5 (aw_Z E (aw_Pi (fun r_ g2 n2 => sp_sign r_ = sp_cmp xs ys ∧ g2 = g ∧ n2 = n)) below args s 0 0) 0 0 g n 61 [some (.ref d), some (.int (nI i)), some (.int (nI j0)), some (.int (nI k)), x] [] := by
        refine aw_aload_0 S d_Md_compareTags_61 ?_
        refine aw_getf S I_Md 7 hM.2.1 n_fl_Md_25 d_Md_compareTags_62 rfl (by decide) ?_
        refine aw_iload_1 S d_Md_compareTags_65 ?_
        refine aw_mld S hM 5 (by decide) (hz1) (show _ < 60 by omega) d_Md_compareTags_66 ?_
        refine aw_aload_0 S d_Md_compareTags_67 ?_
        refine aw_getf S I_Md 7 hM.2.1 n_fl_Md_25 d_Md_compareTags_68 rfl (by decide) ?_
        refine aw_iload_2 S d_Md_compareTags_71 ?_
        refine aw_mld S hM 5 (by decide) (hz2) (show _ < 60 by omega) d_Md_compareTags_72 ?_
        refine aw_isub S d_Md_compareTags_73 ?_
        refine aw_iret S rfl d_Md_compareTags_74 ?_ (by decide) (by decide)
        refine ⟨?_, rfl, rfl⟩
        rw [sgn_sub (by omega) (by omega), ← hv, nI_ord (by omega) (by omega), sp_cmp_end (by rcases Nat.le_total xs.length ys.length with h | h; exact Or.inl (List.drop_eq_nil_iff.mpr (by omega)); exact Or.inr (List.drop_eq_nil_iff.mpr (by omega)))]
        rw [List.length_drop, List.length_drop]
        simp only [show (xs.length - k = ys.length - k) ↔ (xs.length = ys.length) by omega, show (xs.length - k < ys.length - k) ↔ (xs.length < ys.length) by omega]
      refine aw_iload_3 S d_Md_compareTags_2 ?_
      refine aw_aload_0 S d_Md_compareTags_3 ?_
      refine aw_getf S I_Md 7 hM.2.1 n_fl_Md_25 d_Md_compareTags_4 rfl (by decide) ?_
      refine aw_iload_1 S d_Md_compareTags_7 ?_
      refine aw_mld S hM 5 (by decide) (hz1) (show _ < 60 by omega) d_Md_compareTags_8 ?_
      refine aw_icmp_ge S 61 d_Md_compareTags_9 (by decide) (fun c9 => ?_) (fun c9 => ?_)
      · exact fin
      · rw [nI_leI (by omega) (by omega)] at c9
        refine aw_iload_3 S d_Md_compareTags_12 ?_
        refine aw_aload_0 S d_Md_compareTags_13 ?_
        refine aw_getf S I_Md 7 hM.2.1 n_fl_Md_25 d_Md_compareTags_14 rfl (by decide) ?_
        refine aw_iload_2 S d_Md_compareTags_17 ?_
        refine aw_mld S hM 5 (by decide) (hz2) (show _ < 60 by omega) d_Md_compareTags_18 ?_
        refine aw_icmp_ge S 61 d_Md_compareTags_19 (by decide) (fun c19 => ?_) (fun c19 => ?_)
        · exact fin
        · rw [nI_leI (by omega) (by omega)] at c19
          omega
    | succ j ih =>
      intro k x hk hv
      have hkx : k < xs.length := by omega
      have hky : k < ys.length := by omega
      have h1 := hb1 _ (getD_mem hkx)
      have h2 := hb2 _ (getD_mem hky)
      rw [drop_cons hkx, drop_cons hky, sp_cmp] at hv
      refine aw_iload_3 S d_Md_compareTags_2 ?_
      refine aw_aload_0 S d_Md_compareTags_3 ?_
      refine aw_getf S I_Md 7 hM.2.1 n_fl_Md_25 d_Md_compareTags_4 rfl (by decide) ?_
      refine aw_iload_1 S d_Md_compareTags_7 ?_
      refine aw_mld S hM 5 (by decide) (hz1) (show _ < 60 by omega) d_Md_compareTags_8 ?_
      refine aw_icmp_ge S 61 d_Md_compareTags_9 (by decide) (fun c9 => ?_) (fun c9 => ?_)
      · exact absurd c9 (nI_ge (by omega) (by omega))
      · refine aw_iload_3 S d_Md_compareTags_12 ?_
        refine aw_aload_0 S d_Md_compareTags_13 ?_
        refine aw_getf S I_Md 7 hM.2.1 n_fl_Md_25 d_Md_compareTags_14 rfl (by decide) ?_
        refine aw_iload_2 S d_Md_compareTags_17 ?_
        refine aw_mld S hM 5 (by decide) (hz2) (show _ < 60 by omega) d_Md_compareTags_18 ?_
        refine aw_icmp_ge S 61 d_Md_compareTags_19 (by decide) (fun c19 => ?_) (fun c19 => ?_)
        · exact absurd c19 (nI_ge (by omega) (by omega))
        · refine aw_aload_0 S d_Md_compareTags_22 ?_
          refine aw_getf S I_Md 8 hM.2.1 n_fl_Md_28 d_Md_compareTags_23 rfl (by decide) ?_
          refine aw_bipush (v := 16) S d_Md_compareTags_26 (by decide) ?_
          refine aw_iload_1 S d_Md_compareTags_28 ?_
          refine aw_imul S d_Md_compareTags_29 ?_
          refine aw_iload_3 S d_Md_compareTags_30 ?_
          refine aw_iadd S d_Md_compareTags_31 ?_
          refine aw_topi (ix16 (i) (k)) ?_
          refine aw_mld S hM 6 (by decide) (hB1 k hkx) (show _ < 960 by omega) d_Md_compareTags_32 ?_
          refine aw_aload_0 S d_Md_compareTags_33 ?_
          refine aw_getf S I_Md 8 hM.2.1 n_fl_Md_28 d_Md_compareTags_34 rfl (by decide) ?_
          refine aw_bipush (v := 16) S d_Md_compareTags_37 (by decide) ?_
          refine aw_iload_2 S d_Md_compareTags_39 ?_
          refine aw_imul S d_Md_compareTags_40 ?_
          refine aw_iload_3 S d_Md_compareTags_41 ?_
          refine aw_iadd S d_Md_compareTags_42 ?_
          refine aw_topi (ix16 (j0) (k)) ?_
          refine aw_mld S hM 6 (by decide) (hB2 k hky) (show _ < 960 by omega) d_Md_compareTags_43 ?_
          refine aw_isub S d_Md_compareTags_44 ?_
          refine aw_istore_4 S d_Md_compareTags_45 ?_
          refine aw_iload_4 S d_Md_compareTags_47 ?_
          refine aw_if_eq S 55 d_Md_compareTags_49 (by decide) (fun c49 => ?_) (fun c49 => ?_)
          · refine aw_iinc_3 (v := nI (k + 1)) S d_Md_compareTags_55 ((nI_succ (k)).symm) ?_
            refine aw_goto S 2 d_Md_compareTags_58 (by decide) ?_
            rw [if_pos ((sgn_bt h1 h2).symm.trans (sgn0.mpr c49))] at hv
            exact ih (k + 1) _ (by omega) hv
          · refine aw_iload_4 S d_Md_compareTags_52 ?_
            refine aw_iret S rfl d_Md_compareTags_54 ?_ (by decide) (by decide)
            refine ⟨?_, rfl, rfl⟩
            rw [if_neg (fun z => c49 (sgn0.mp ((sgn_bt h1 h2).trans z)))] at hv
            rw [← hv]; exact sgn_bt h1 h2
  refine aw_iconst (v := 0) S d_Md_compareTags_0 (by decide) ?_
  refine aw_topi nI_0.symm ?_
  refine aw_istore_3 S d_Md_compareTags_1 ?_
  exact loop _ 0 none (Nat.zero_add _) rfl
def okBt (ts : List Tmv) : Prop := ∀ i, i < ts.length → (∀ x ∈ (tmG ts i).2.2.2.1, sp_bt x) ∧ ∀ x ∈ (tmG ts i).2.2.2.2, sp_bt x
theorem rank_nat (k : Int32) : ∃ r, r < 3 ∧ sp_rank k = nI r := by
  unfold sp_rank
  split
  · exact ⟨0, by decide, rfl⟩
  · split
    · exact ⟨1, by decide, rfl⟩
    · exact ⟨2, by decide, rfl⟩
theorem rank_sub (k q : Int32) : sp_sign (sp_rank k - sp_rank q) = sp_ord (sp_rank k) (sp_rank q) := by
  obtain ⟨a, ha, e⟩ := rank_nat k
  obtain ⟨b, hb, e2⟩ := rank_nat q
  rw [e, e2]
  exact sgn_sub (by omega) (by omega)
theorem mN_nat {u : Tmv} (h : okV u) : ∃ r, r < 1000 ∧ mN u = nI r := by
  unfold mN
  rcases h with h | h | h
  · rw [if_neg (by rw [h.1]; decide), h.2.1]; exact ⟨0, by decide, rfl⟩
  · rw [if_pos h.1]
    obtain ⟨k, hk, e⟩ := h.2.2.1
    exact ⟨k, hk, e⟩
  · rw [if_neg (by rw [h.1]; decide)]
    rcases h.2.2.1 with q | q | q | q | q <;> rw [q]
    · exact ⟨0, by decide, rfl⟩
    · exact ⟨1, by decide, rfl⟩
    · exact ⟨2, by decide, rfl⟩
    · exact ⟨3, by decide, rfl⟩
    · exact ⟨4, by decide, rfl⟩
theorem mN_sub {u w : Tmv} (h : okV u) (h2 : okV w) : sp_sign (mN u - mN w) = sp_ord (mN u) (mN w) := by
  obtain ⟨a, ha, e⟩ := mN_nat h
  obtain ⟨b, hb, e2⟩ := mN_nat h2
  rw [e, e2]
  exact sgn_sub (by omega) (by omega)
theorem tord_ne {u w : Tmv} (h : ¬ sp_ord (sp_rank u.1) (sp_rank w.1) = 0) : tmO u w = sp_ord (sp_rank u.1) (sp_rank w.1) := by rw [tmO, sp_tord, if_neg h]
theorem tord_lab {u w : Tmv} (hu : okV u) (hw : okV w) (h : sp_ord (sp_rank u.1) (sp_rank w.1) = 0) (hk : u.1 = 1) : tmO u w = sp_ord (mN u) (mN w) ∧ u.2.2.2.1 = [] ∧ w.2.2.2.1 = [] ∧ u.2.2.2.2 = [] ∧ w.2.2.2.2 = [] := by
  have e := ord0.mp h
  rcases hu with a | a | a
  · rw [a.1] at hk; exact absurd hk (by decide)
  · rcases hw with b | b | b
    · rw [a.1, b.1] at e; exact absurd e (by decide)
    · rw [tmO, sp_tord, if_pos h, a.2.2.2.1, b.2.2.2.1, a.2.2.2.2, b.2.2.2.2, a.2.1, b.2.1, mN, mN, if_pos a.1, if_pos b.1]
      refine ⟨?_, rfl, rfl, rfl, rfl⟩
      by_cases q : sp_ord u.2.2.1 w.2.2.1 = 0
      · rw [if_pos q, q]; rfl
      · rw [if_neg q]
    · rw [a.1, b.1] at e; exact absurd e (by decide)
  · rw [a.1] at hk; exact absurd hk (by decide)
theorem tord_oth {u w : Tmv} (hu : okV u) (hw : okV w) (h : sp_ord (sp_rank u.1) (sp_rank w.1) = 0) (hk : ¬ u.1 = 1) : tmO u w = if sp_cmp u.2.2.2.1 w.2.2.2.1 = 0 then (if sp_ord (mN u) (mN w) = 0 then sp_cmp u.2.2.2.2 w.2.2.2.2 else sp_ord (mN u) (mN w)) else sp_cmp u.2.2.2.1 w.2.2.2.1 := by
  have e := ord0.mp h
  have hk2 : ¬ w.1 = 1 := by
    intro z
    rw [z] at e
    rcases hu with a | a | a
    · rw [a.1] at e; exact absurd e (by decide)
    · exact hk a.1
    · rw [a.1] at e; exact absurd e (by decide)
  have hn : u.2.2.1 = 0 := by
    rcases hu with a | a | a
    · exact a.2.2.1
    · exact absurd a.1 hk
    · exact a.2.1
  have hn2 : w.2.2.1 = 0 := by
    rcases hw with a | a | a
    · exact a.2.2.1
    · exact absurd a.1 hk2
    · exact a.2.1
  rw [tmO, sp_tord, if_pos h, hn, hn2, if_pos (by decide), mN, mN, if_neg hk, if_neg hk2]
set_option maxRecDepth 100000 in
set_option maxHeartbeats 4000000 in
theorem ev_Md_compare {l : Launch} {E : aw_E} {g : AH} {n : Nat} {g0 : AH} {d : Nat} {v : Nat → Int32} {f : Nat → Nat → Int32} {tape : List Int32} {ts : List Tmv} {bt : Int32} {ps : List Pfv} {pr : List Int32} (a b : Int32) (hM : mG E g0 d v f g) (hs : mSt v f tape ts bt ps pr) (hok : okT ts) (hbt : okBt ts) : EV l E 2 0 0 y_Md_compare c_Md_compare 4 (some .int) g n [.ref d, .int a, .int b] (aw_Pi (fun r_ g2 n2 => r_ = op_cmp ts a b ∧ g2 = g ∧ n2 = n)) := by
  obtain ⟨⟨tl, t0, tL⟩, ⟨nl, n1, nT⟩, b2, ⟨pl, p3, pP⟩, ⟨ql, q6, qL⟩⟩ := id hs
  refine aw_enter "AddressTermsModel" [some (.ref d), some (.int a), some (.int b), none] (by decide) rfl rfl (Nat.le_of_ble_eq_true rfl) ?_
  intro p e s m args below meth c S hnm
  have s107 : ∀ (i j : Nat) (y : Int32), i < ts.length → j < ts.length → ixOf ts.length a = some i → ixOf ts.length b = some j → a = nI i → b = nI j → sp_sign y = tmO (tmG ts i) (tmG ts j) → AW p l e { frames := 2, cells := 0, slots := 0, locals := 40 * 2 } s m args below meth c E 4 (aw_Z E (aw_Pi (fun r_ g2 n2 => r_ = op_cmp ts a b ∧ g2 = g ∧ n2 = n)) below args s 0 0) 0 0 g n 107 [some (.ref d), some (.int (nI i)), some (.int (nI j)), some (.int y)] [] := by
    intro i j y hi hj hxi hxj ha hb hv
    refine aw_iload_3 S d_Md_compare_107 ?_
    refine aw_callSiR S (ev_Md_sign y) mb_Md_sign n_st_Md_sign n_ml_Md_223 d_Md_compare_108 rfl rfl ?_
    refine aw_iret S rfl d_Md_compare_111 ?_ (by decide) (by decide)
    exact ⟨by rw [op_cmp, hxi, hxj, hv], rfl, rfl⟩
  have s67 : ∀ (i j : Nat), i < ts.length → j < ts.length → ixOf ts.length a = some i → ixOf ts.length b = some j → a = nI i → b = nI j → sp_ord (sp_rank (tmG ts i).1) (sp_rank (tmG ts j).1) = 0 → ¬ (tmG ts i).1 = 1 → AW p l e { frames := 2, cells := 0, slots := 0, locals := 40 * 2 } s m args below meth c E 4 (aw_Z E (aw_Pi (fun r_ g2 n2 => r_ = op_cmp ts a b ∧ g2 = g ∧ n2 = n)) below args s 0 0) 0 0 g n 67 [some (.ref d), some (.int (nI i)), some (.int (nI j)), some (.int 0)] [] := by
    intro i j hi hj hxi hxj ha hb hr hk
    have hTi := nT i hi
    have hTj := nT j hj
    have oi_ := hok i hi
    have oj_ := hok j hj
    have ho := tord_oth oi_ oj_ hr hk
    have s96 : ∀ (y : Int32), sp_sign y = sp_cmp (tmG ts i).2.2.2.1 (tmG ts j).2.2.2.1 → ¬ sp_cmp (tmG ts i).2.2.2.1 (tmG ts j).2.2.2.1 = 0 → AW p l e { frames := 2, cells := 0, slots := 0, locals := 40 * 2 } s m args below meth c E 4 (aw_Z E (aw_Pi (fun r_ g2 n2 => r_ = op_cmp ts a b ∧ g2 = g ∧ n2 = n)) below args s 0 0) 0 0 g n 96 [some (.ref d), some (.int (nI i)), some (.int (nI j)), some (.int y)] [] := by
      intro y hy hne
      refine aw_iload_3 S d_Md_compare_96 ?_
      refine aw_if_ne S 107 d_Md_compare_97 (by decide) (fun c97 => ?_) (fun c97 => ?_)
      · exact s107 i j _ hi hj hxi hxj ha hb (by rw [ho, if_neg hne]; exact hy)
      · exact absurd (hy.symm.trans (sgn0.mpr c97)) hne
    refine aw_iload_3 S d_Md_compare_67 ?_
    refine aw_if_ne S 78 d_Md_compare_68 (by decide) (fun c68 => ?_) (fun c68 => ?_)
    · exact absurd rfl c68
    · refine aw_aload_0 S d_Md_compare_71 ?_
      refine aw_iload_1 S d_Md_compare_72 ?_
      refine aw_iload_2 S d_Md_compare_73 ?_
      refine aw_callVi0 S (ev_Md_compareBytes i j hM (by omega) (by omega) hTi.2.2.1 hTj.2.2.1 hTi.2.2.2.1 hTj.2.2.2.1 hTi.2.2.2.2.1 hTj.2.2.2.2.1 (hbt i hi).1 (hbt j hj).1) mb_Md_compareBytes mi_Md_compareBytes n_ml_Md_217 d_Md_compare_74 I_Md hM.2.1 rfl rfl rfl (fun v_ g2_ n2_ h_ => ?_)
      obtain ⟨hsg, rfl, rfl⟩ := h_
      refine aw_istore_3 S d_Md_compare_77 ?_
      refine aw_iload_3 S d_Md_compare_78 ?_
      refine aw_if_ne S 96 d_Md_compare_79 (by decide) (fun c79 => ?_) (fun c79 => ?_)
      · exact s96 _ hsg (fun z => c79 (sgn0.mp (hsg.trans z)))
      · have h0 := hsg.symm.trans (sgn0.mpr c79)
        rw [if_pos h0] at ho
        refine aw_aload_0 S d_Md_compare_82 ?_
        refine aw_getf S I_Md 4 hM.2.1 n_fl_Md_16 d_Md_compare_83 rfl (by decide) ?_
        refine aw_iload_1 S d_Md_compare_86 ?_
        refine aw_mld S hM 2 (by decide) (hTi.2.1) (show _ < 60 by omega) d_Md_compare_87 ?_
        refine aw_aload_0 S d_Md_compare_88 ?_
        refine aw_getf S I_Md 4 hM.2.1 n_fl_Md_16 d_Md_compare_89 rfl (by decide) ?_
        refine aw_iload_2 S d_Md_compare_92 ?_
        refine aw_mld S hM 2 (by decide) (hTj.2.1) (show _ < 60 by omega) d_Md_compare_93 ?_
        refine aw_isub S d_Md_compare_94 ?_
        refine aw_istore_3 S d_Md_compare_95 ?_
        refine aw_iload_3 S d_Md_compare_96 ?_
        refine aw_if_ne S 107 d_Md_compare_97 (by decide) (fun c97 => ?_) (fun c97 => ?_)
        · refine s107 i j _ hi hj hxi hxj ha hb ?_
          rw [ho, if_neg (fun z => c97 (sgn0.mp ((mN_sub oi_ oj_).trans z)))]
          exact mN_sub oi_ oj_
        · rw [if_pos ((mN_sub oi_ oj_).symm.trans (sgn0.mpr c97))] at ho
          refine aw_aload_0 S d_Md_compare_100 ?_
          refine aw_iload_1 S d_Md_compare_101 ?_
          refine aw_iload_2 S d_Md_compare_102 ?_
          refine aw_callVi0 S (ev_Md_compareTags i j hM (by omega) (by omega) hTi.2.2.2.2.2.1 hTj.2.2.2.2.2.1 hTi.2.2.2.2.2.2.1 hTj.2.2.2.2.2.2.1 hTi.2.2.2.2.2.2.2 hTj.2.2.2.2.2.2.2 (hbt i hi).2 (hbt j hj).2) mb_Md_compareTags mi_Md_compareTags n_ml_Md_220 d_Md_compare_103 I_Md hM.2.1 rfl rfl rfl (fun v_ g2_ n2_ h_ => ?_)
          obtain ⟨hsg, rfl, rfl⟩ := h_
          refine aw_istore_3 S d_Md_compare_106 ?_
          exact s107 i j _ hi hj hxi hxj ha hb (by rw [ho]; exact hsg)
  have s67l : ∀ (i j : Nat) (y : Int32), i < ts.length → j < ts.length → ixOf ts.length a = some i → ixOf ts.length b = some j → a = nI i → b = nI j → sp_ord (sp_rank (tmG ts i).1) (sp_rank (tmG ts j).1) = 0 → (tmG ts i).1 = 1 → y = mN (tmG ts i) - mN (tmG ts j) → AW p l e { frames := 2, cells := 0, slots := 0, locals := 40 * 2 } s m args below meth c E 4 (aw_Z E (aw_Pi (fun r_ g2 n2 => r_ = op_cmp ts a b ∧ g2 = g ∧ n2 = n)) below args s 0 0) 0 0 g n 67 [some (.ref d), some (.int (nI i)), some (.int (nI j)), some (.int y)] [] := by
    intro i j y hi hj hxi hxj ha hb hr hk hy
    have hTi := nT i hi
    have hTj := nT j hj
    have oi_ := hok i hi
    have oj_ := hok j hj
    obtain ⟨ho, t1, t2, t3, t4⟩ := tord_lab oi_ oj_ hr hk
    have hsy : sp_sign y = tmO (tmG ts i) (tmG ts j) := by rw [hy, ho]; exact mN_sub oi_ oj_
    refine aw_iload_3 S d_Md_compare_67 ?_
    refine aw_if_ne S 78 d_Md_compare_68 (by decide) (fun c68 => ?_) (fun c68 => ?_)
    · refine aw_iload_3 S d_Md_compare_78 ?_
      refine aw_if_ne S 96 d_Md_compare_79 (by decide) (fun c79 => ?_) (fun c79 => ?_)
      · refine aw_iload_3 S d_Md_compare_96 ?_
        refine aw_if_ne S 107 d_Md_compare_97 (by decide) (fun c97 => ?_) (fun c97 => ?_)
        · exact s107 i j _ hi hj hxi hxj ha hb hsy
        · exact absurd c97 c68
      · exact absurd c79 c68
    · refine aw_aload_0 S d_Md_compare_71 ?_
      refine aw_iload_1 S d_Md_compare_72 ?_
      refine aw_iload_2 S d_Md_compare_73 ?_
      refine aw_callVi0 S (ev_Md_compareBytes i j hM (by omega) (by omega) hTi.2.2.1 hTj.2.2.1 hTi.2.2.2.1 hTj.2.2.2.1 hTi.2.2.2.2.1 hTj.2.2.2.2.1 (hbt i hi).1 (hbt j hj).1) mb_Md_compareBytes mi_Md_compareBytes n_ml_Md_217 d_Md_compare_74 I_Md hM.2.1 rfl rfl rfl (fun v_ g2_ n2_ h_ => ?_)
      obtain ⟨hsg, rfl, rfl⟩ := h_
      refine aw_istore_3 S d_Md_compare_77 ?_
      refine aw_iload_3 S d_Md_compare_78 ?_
      refine aw_if_ne S 96 d_Md_compare_79 (by decide) (fun c79 => ?_) (fun c79 => ?_)
      · rw [t1, t2] at hsg
        exact absurd (sgn0.mp hsg) c79
      · refine aw_aload_0 S d_Md_compare_82 ?_
        refine aw_getf S I_Md 4 hM.2.1 n_fl_Md_16 d_Md_compare_83 rfl (by decide) ?_
        refine aw_iload_1 S d_Md_compare_86 ?_
        refine aw_mld S hM 2 (by decide) (hTi.2.1) (show _ < 60 by omega) d_Md_compare_87 ?_
        refine aw_aload_0 S d_Md_compare_88 ?_
        refine aw_getf S I_Md 4 hM.2.1 n_fl_Md_16 d_Md_compare_89 rfl (by decide) ?_
        refine aw_iload_2 S d_Md_compare_92 ?_
        refine aw_mld S hM 2 (by decide) (hTj.2.1) (show _ < 60 by omega) d_Md_compare_93 ?_
        refine aw_isub S d_Md_compare_94 ?_
        refine aw_istore_3 S d_Md_compare_95 ?_
        refine aw_iload_3 S d_Md_compare_96 ?_
        refine aw_if_ne S 107 d_Md_compare_97 (by decide) (fun c97 => ?_) (fun c97 => ?_)
        · rw [← hy] at c97
          exact absurd c68 c97
        · refine aw_aload_0 S d_Md_compare_100 ?_
          refine aw_iload_1 S d_Md_compare_101 ?_
          refine aw_iload_2 S d_Md_compare_102 ?_
          refine aw_callVi0 S (ev_Md_compareTags i j hM (by omega) (by omega) hTi.2.2.2.2.2.1 hTj.2.2.2.2.2.1 hTi.2.2.2.2.2.2.1 hTj.2.2.2.2.2.2.1 hTi.2.2.2.2.2.2.2 hTj.2.2.2.2.2.2.2 (hbt i hi).2 (hbt j hj).2) mb_Md_compareTags mi_Md_compareTags n_ml_Md_220 d_Md_compare_103 I_Md hM.2.1 rfl rfl rfl (fun v_ g2_ n2_ h_ => ?_)
          obtain ⟨hsg, rfl, rfl⟩ := h_
          refine aw_istore_3 S d_Md_compare_106 ?_
          rw [t3, t4] at hsg
          refine s107 i j _ hi hj hxi hxj ha hb ?_
          rw [hsg, ← hsy, c68]; rfl
  have s67r : ∀ (i j : Nat) (y : Int32), i < ts.length → j < ts.length → ixOf ts.length a = some i → ixOf ts.length b = some j → a = nI i → b = nI j → ¬ y = 0 → sp_sign y = tmO (tmG ts i) (tmG ts j) → AW p l e { frames := 2, cells := 0, slots := 0, locals := 40 * 2 } s m args below meth c E 4 (aw_Z E (aw_Pi (fun r_ g2 n2 => r_ = op_cmp ts a b ∧ g2 = g ∧ n2 = n)) below args s 0 0) 0 0 g n 67 [some (.ref d), some (.int (nI i)), some (.int (nI j)), some (.int y)] [] := by
    intro i j y hi hj hxi hxj ha hb hy hsy
    refine aw_iload_3 S d_Md_compare_67 ?_
    refine aw_if_ne S 78 d_Md_compare_68 (by decide) (fun c68 => ?_) (fun c68 => ?_)
    · refine aw_iload_3 S d_Md_compare_78 ?_
      refine aw_if_ne S 96 d_Md_compare_79 (by decide) (fun c79 => ?_) (fun c79 => ?_)
      · refine aw_iload_3 S d_Md_compare_96 ?_
        refine aw_if_ne S 107 d_Md_compare_97 (by decide) (fun c97 => ?_) (fun c97 => ?_)
        · exact s107 i j _ hi hj hxi hxj ha hb hsy
        · exact absurd c97 hy
      · exact absurd c79 hy
    · exact absurd c68 hy
  refine aw_aload_0 S d_Md_compare_0 ?_
  refine aw_iload_1 S d_Md_compare_1 ?_
  refine aw_callViR S (ev_Md_isTerm a hM hs) mb_Md_isTerm mi_Md_isTerm n_ml_Md_103 d_Md_compare_2 I_Md hM.2.1 rfl rfl rfl ?_
  refine aw_if_eq S 16 d_Md_compare_5 (by decide) (fun c5 => ?_) (fun c5 => ?_)
  · refine aw_bipush (v := -2) S d_Md_compare_16 (by decide) ?_
    refine aw_iret S rfl d_Md_compare_18 ?_ (by decide) (by decide)
    have hn : ixOf ts.length a = none := Option.isNone_iff_eq_none.mp (Option.isSome_eq_false_iff.mp (aw_b_f c5))
    refine ⟨?_, rfl, rfl⟩
    rw [op_cmp, hn]
  · refine aw_aload_0 S d_Md_compare_8 ?_
    refine aw_iload_2 S d_Md_compare_9 ?_
    refine aw_callViR S (ev_Md_isTerm b hM hs) mb_Md_isTerm mi_Md_isTerm n_ml_Md_103 d_Md_compare_10 I_Md hM.2.1 rfl rfl rfl ?_
    refine aw_if_ne S 19 d_Md_compare_13 (by decide) (fun c13 => ?_) (fun c13 => ?_)
    · obtain hn | ⟨i, hi, ha, hxi⟩ := ixOf_cases a (show ts.length < 2 ^ 31 by omega)
      · have := aw_b_t c5; rw [hn] at this; cases this
      obtain hn | ⟨j, hj, hb, hxj⟩ := ixOf_cases b (show ts.length < 2 ^ 31 by omega)
      · have := aw_b_t c13; rw [hn] at this; cases this
      subst ha
      subst hb
      have hTi := nT i hi
      have hTj := nT j hj
      have oi_ := hok i hi
      have oj_ := hok j hj
      refine aw_aload_0 S d_Md_compare_19 ?_
      refine aw_getf S I_Md 3 hM.2.1 n_fl_Md_13 d_Md_compare_20 rfl (by decide) ?_
      refine aw_iload_1 S d_Md_compare_23 ?_
      refine aw_mld S hM 1 (by decide) (hTi.1) (show _ < 60 by omega) d_Md_compare_24 ?_
      refine aw_callSiR S (ev_Md_rank (tmG ts i).1) mb_Md_rank n_st_Md_rank n_ml_Md_214 d_Md_compare_25 rfl rfl ?_
      refine aw_aload_0 S d_Md_compare_28 ?_
      refine aw_getf S I_Md 3 hM.2.1 n_fl_Md_13 d_Md_compare_29 rfl (by decide) ?_
      refine aw_iload_2 S d_Md_compare_32 ?_
      refine aw_mld S hM 1 (by decide) (hTj.1) (show _ < 60 by omega) d_Md_compare_33 ?_
      refine aw_callSiR S (ev_Md_rank (tmG ts j).1) mb_Md_rank n_st_Md_rank n_ml_Md_214 d_Md_compare_34 rfl rfl ?_
      refine aw_isub S d_Md_compare_37 ?_
      refine aw_istore_3 S d_Md_compare_38 ?_
      refine aw_iload_3 S d_Md_compare_39 ?_
      refine aw_if_ne S 67 d_Md_compare_40 (by decide) (fun c40 => ?_) (fun c40 => ?_)
      · have hr : ¬ sp_ord (sp_rank (tmG ts i).1) (sp_rank (tmG ts j).1) = 0 := fun z => c40 (sgn0.mp ((rank_sub _ _).trans z))
        have hsy := (rank_sub (tmG ts i).1 (tmG ts j).1).trans (tord_ne hr).symm
        exact s67r i j _ hi hj hxi hxj rfl rfl c40 hsy
      · have hr := (rank_sub (tmG ts i).1 (tmG ts j).1).symm.trans (sgn0.mpr c40)
        refine aw_aload_0 S d_Md_compare_43 ?_
        refine aw_getf S I_Md 3 hM.2.1 n_fl_Md_13 d_Md_compare_44 rfl (by decide) ?_
        refine aw_iload_1 S d_Md_compare_47 ?_
        refine aw_mld S hM 1 (by decide) (hTi.1) (show _ < 60 by omega) d_Md_compare_48 ?_
        refine aw_iconst (v := 1) S d_Md_compare_49 (by decide) ?_
        refine aw_icmp_ne S 67 d_Md_compare_50 (by decide) (fun c50 => ?_) (fun c50 => ?_)
        · have := s67 i j hi hj hxi hxj rfl rfl hr c50
          rw [← c40] at this
          exact this
        · refine aw_aload_0 S d_Md_compare_53 ?_
          refine aw_getf S I_Md 4 hM.2.1 n_fl_Md_16 d_Md_compare_54 rfl (by decide) ?_
          refine aw_iload_1 S d_Md_compare_57 ?_
          refine aw_mld S hM 2 (by decide) (hTi.2.1) (show _ < 60 by omega) d_Md_compare_58 ?_
          refine aw_aload_0 S d_Md_compare_59 ?_
          refine aw_getf S I_Md 4 hM.2.1 n_fl_Md_16 d_Md_compare_60 rfl (by decide) ?_
          refine aw_iload_2 S d_Md_compare_63 ?_
          refine aw_mld S hM 2 (by decide) (hTj.2.1) (show _ < 60 by omega) d_Md_compare_64 ?_
          refine aw_isub S d_Md_compare_65 ?_
          refine aw_istore_3 S d_Md_compare_66 ?_
          exact s67l i j _ hi hj hxi hxj rfl rfl hr c50 rfl
    · refine aw_bipush (v := -2) S d_Md_compare_16 (by decide) ?_
      refine aw_iret S rfl d_Md_compare_18 ?_ (by decide) (by decide)
      have hn : ixOf ts.length b = none := Option.isNone_iff_eq_none.mp (Option.isSome_eq_false_iff.mp (aw_b_f c13))
      refine ⟨?_, rfl, rfl⟩
      rw [op_cmp, hn]
      cases ixOf ts.length a <;> rfl
