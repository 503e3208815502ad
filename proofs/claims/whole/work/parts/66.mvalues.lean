/-! the reference: values -/
theorem in_18 {m : Nat} (h : m < 2 ^ 31) : sp_in (nI m) 1 18 = (decide (1 ≤ m) && decide (m ≤ 18)) := by
  unfold sp_in
  rw [show (1 : Int32) = nI 1 from rfl, show (18 : Int32) = nI 18 from rfl]
  simp only [nI_ltI h (show 1 < 2 ^ 31 by decide), nI_ltI (show 18 < 2 ^ 31 by decide) h]
  congr 1
  · by_cases q : m < 1
    · rw [decide_eq_true q, decide_eq_false (by omega)]; rfl
    · rw [decide_eq_false q, decide_eq_true (by omega)]; rfl
  · by_cases q : 18 < m
    · rw [decide_eq_true q, decide_eq_false (by omega)]; rfl
    · rw [decide_eq_false q, decide_eq_true (by omega)]; rfl
set_option maxRecDepth 100000 in
set_option maxHeartbeats 4000000 in
theorem ev_Md_isWhole {l : Launch} {E : aw_E} {g : AH} {n : Nat} {g0 : AH} {d : Nat} {v : Nat → Int32} {f : Nat → Nat → Int32}{xs : List Int32} (i : Nat) (hM : mG E g0 d v f g) (ht : i < 60) (hz : f 3 i = nI xs.length) (hl : xs.length ≤ 100) (hB : mL (f 4) (100 * i) xs) : EV l E 2 0 0 y_Md_isWhole c_Md_isWhole 5 (some .boolean) g n [.ref d, .int (nI i)] (aw_Pi (fun r_ g2 n2 => r_ = aw_b (sp_wh xs) ∧ g2 = g ∧ n2 = n)) := by
  refine aw_enter "AddressTermsModel" [some (.ref d), some (.int (nI i)), none, none, none] (by decide) rfl rfl (Nat.le_of_ble_eq_true rfl) ?_
  intro p e s m args below meth c S hnm
  have hwh : sp_wh xs = ((decide (1 ≤ xs.length - sp_sgn xs) && decide (xs.length - sp_sgn xs ≤ 18)) && (xs.drop (sp_sgn xs)).all sp_dig) := by rw [sp_wh, Bool.and_assoc]
  have hsg := sp_sgn_le xs
  have l61 : ∀ (j k : Nat) (b : Bool), k + j = xs.length → (b && (xs.drop k).all sp_dig) = sp_wh xs → AW p l e { frames := 2, cells := 0, slots := 0, locals := 40 * 2 } s m args below meth c E 5 (aw_Z E (aw_Pi (fun r_ g2 n2 => r_ = aw_b (sp_wh xs) ∧ g2 = g ∧ n2 = n)) below args s 0 0) 0 0 g n 61 [some (.ref d), some (.int (nI i)), some (.int (nI (sp_sgn xs))), some (.int (aw_b b)), some (.int (nI k))] [] := by
    intro j
    induction j with
    | zero =>
      intro k b hk hv
      rw [List.drop_eq_nil_iff.mpr (show xs.length ≤ k by omega), List.all_nil, Bool.and_true] at hv
      refine aw_iload_4 S d_Md_isWhole_61 ?_
      refine aw_aload_0 S d_Md_isWhole_63 ?_
      refine aw_getf S I_Md 5 hM.2.1 n_fl_Md_19 d_Md_isWhole_64 rfl (by decide) ?_
      refine aw_iload_1 S d_Md_isWhole_67 ?_
      refine aw_mld S hM 3 (by decide) (hz) (show _ < 60 by omega) d_Md_isWhole_68 ?_
      refine aw_icmp_ge S 106 d_Md_isWhole_69 (by decide) (fun c69 => ?_) (fun c69 => ?_)
      · refine aw_iload_3 S d_Md_isWhole_106 ?_
        refine aw_zret S .boolean rfl (aw_bz _) d_Md_isWhole_107 ?_ (by decide) (by decide)
        exact ⟨by rw [hv], rfl, rfl⟩
      · exact absurd (nI_le (by omega) (by omega)) c69
    | succ j ih =>
      intro k b hk hv
      rw [drop_cons (show k < xs.length by omega), List.all_cons] at hv
      refine aw_iload_4 S d_Md_isWhole_61 ?_
      refine aw_aload_0 S d_Md_isWhole_63 ?_
      refine aw_getf S I_Md 5 hM.2.1 n_fl_Md_19 d_Md_isWhole_64 rfl (by decide) ?_
      refine aw_iload_1 S d_Md_isWhole_67 ?_
      refine aw_mld S hM 3 (by decide) (hz) (show _ < 60 by omega) d_Md_isWhole_68 ?_
      refine aw_icmp_ge S 106 d_Md_isWhole_69 (by decide) (fun c69 => ?_) (fun c69 => ?_)
      · exact absurd c69 (nI_ge (by omega) (by omega))
      · refine aw_iload_3 S d_Md_isWhole_72 ?_
        refine aw_if_eq S 98 d_Md_isWhole_73 (by decide) (fun c73 => ?_) (fun c73 => ?_)
        · refine aw_iconst (v := 0) S d_Md_isWhole_98 (by decide) ?_
          refine aw_istore_3 S d_Md_isWhole_99 ?_
          refine aw_iinc_4 (v := nI (k + 1)) S d_Md_isWhole_100 ((nI_succ (k)).symm) ?_
          refine aw_goto S 61 d_Md_isWhole_103 (by decide) ?_
          exact ih (k + 1) false (by omega) (by rw [← hv, aw_b_f c73]; rfl)
        · refine aw_aload_0 S d_Md_isWhole_76 ?_
          refine aw_getf S I_Md 6 hM.2.1 n_fl_Md_22 d_Md_isWhole_77 rfl (by decide) ?_
          refine aw_bipush (v := 100) S d_Md_isWhole_80 (by decide) ?_
          refine aw_iload_1 S d_Md_isWhole_82 ?_
          refine aw_imul S d_Md_isWhole_83 ?_
          refine aw_iload_4 S d_Md_isWhole_84 ?_
          refine aw_iadd S d_Md_isWhole_86 ?_
          refine aw_topi (ix100 (i) (k)) ?_
          refine aw_mld S hM 4 (by decide) (hB k (by omega)) (show _ < 6000 by omega) d_Md_isWhole_87 ?_
          refine aw_callSiR S (ev_Md_isDigit (xs.getD k (-1))) mb_Md_isDigit n_st_Md_isDigit n_ml_Md_85 d_Md_isWhole_88 rfl rfl ?_
          refine aw_if_eq S 98 d_Md_isWhole_91 (by decide) (fun c91 => ?_) (fun c91 => ?_)
          · refine aw_iconst (v := 0) S d_Md_isWhole_98 (by decide) ?_
            refine aw_istore_3 S d_Md_isWhole_99 ?_
            refine aw_iinc_4 (v := nI (k + 1)) S d_Md_isWhole_100 ((nI_succ (k)).symm) ?_
            refine aw_goto S 61 d_Md_isWhole_103 (by decide) ?_
            exact ih (k + 1) false (by omega) (by rw [← hv, aw_b_f c91, Bool.false_and, Bool.and_false])
          · refine aw_iconst (v := 1) S d_Md_isWhole_94 (by decide) ?_
            refine aw_goto S 99 d_Md_isWhole_95 (by decide) ?_
            refine aw_istore_3 S d_Md_isWhole_99 ?_
            refine aw_iinc_4 (v := nI (k + 1)) S d_Md_isWhole_100 ((nI_succ (k)).symm) ?_
            refine aw_goto S 61 d_Md_isWhole_103 (by decide) ?_
            exact ih (k + 1) true (by omega) (by rw [← hv, aw_b_t c91, aw_b_t c73]; rfl)
  have s43 : ∀ (q : Int32), q = nI (sp_sgn xs) → AW p l e { frames := 2, cells := 0, slots := 0, locals := 40 * 2 } s m args below meth c E 5 (aw_Z E (aw_Pi (fun r_ g2 n2 => r_ = aw_b (sp_wh xs) ∧ g2 = g ∧ n2 = n)) below args s 0 0) 0 0 g n 43 [some (.ref d), some (.int (nI i)), some (.int q), none, none] [] := by
    intro q hq
    rw [hq]
    refine aw_aload_0 S d_Md_isWhole_43 ?_
    refine aw_getf S I_Md 5 hM.2.1 n_fl_Md_19 d_Md_isWhole_44 rfl (by decide) ?_
    refine aw_iload_1 S d_Md_isWhole_47 ?_
    refine aw_mld S hM 3 (by decide) (hz) (show _ < 60 by omega) d_Md_isWhole_48 ?_
    refine aw_iload_2 S d_Md_isWhole_49 ?_
    refine aw_isub S d_Md_isWhole_50 ?_
    refine aw_topi (nI_subt hsg) ?_
    refine aw_iconst (v := 1) S d_Md_isWhole_51 (by decide) ?_
    refine aw_bipush (v := 18) S d_Md_isWhole_52 (by decide) ?_
    refine aw_callSiR S (ev_Md_is (nI (xs.length - sp_sgn xs)) 1 18) mb_Md_is n_st_Md_is n_ml_Md_77 d_Md_isWhole_54 rfl rfl ?_
    rw [in_18 (by omega)]
    refine aw_istore_3 S d_Md_isWhole_57 ?_
    refine aw_iload_2 S d_Md_isWhole_58 ?_
    refine aw_istore_4 S d_Md_isWhole_59 ?_
    exact l61 (xs.length - sp_sgn xs) (sp_sgn xs) _ (by omega) hwh.symm
  refine aw_aload_0 S d_Md_isWhole_0 ?_
  refine aw_getf S I_Md 5 hM.2.1 n_fl_Md_19 d_Md_isWhole_1 rfl (by decide) ?_
  refine aw_iload_1 S d_Md_isWhole_4 ?_
  refine aw_mld S hM 3 (by decide) (hz) (show _ < 60 by omega) d_Md_isWhole_5 ?_
  refine aw_if_le S 41 d_Md_isWhole_6 (by decide) (fun c6 => ?_) (fun c6 => ?_)
  · refine aw_iconst (v := 0) S d_Md_isWhole_41 (by decide) ?_
    refine aw_istore_2 S d_Md_isWhole_42 ?_
    refine s43 _ ?_
    have h0 : xs.length = 0 := by rcases Nat.eq_zero_or_pos xs.length with z | z; exact z; exact absurd c6 (nI_nle z (by omega))
    rw [sp_sgn, if_neg (by rw [getD_out (by omega)]; decide)]; rfl
  · have h0 := nI_gt c6
    refine aw_aload_0 S d_Md_isWhole_9 ?_
    refine aw_getf S I_Md 6 hM.2.1 n_fl_Md_22 d_Md_isWhole_10 rfl (by decide) ?_
    refine aw_bipush (v := 100) S d_Md_isWhole_13 (by decide) ?_
    refine aw_iload_1 S d_Md_isWhole_15 ?_
    refine aw_imul S d_Md_isWhole_16 ?_
    refine aw_topi (ix100z i) ?_
    refine aw_mld (j := 100 * i) S hM 4 (by decide) (hB 0 h0) (show _ < 6000 by omega) d_Md_isWhole_17 ?_
    refine aw_bipush (v := 43) S d_Md_isWhole_18 (by decide) ?_
    refine aw_icmp_eq S 37 d_Md_isWhole_20 (by decide) (fun c20 => ?_) (fun c20 => ?_)
    · refine aw_iconst (v := 1) S d_Md_isWhole_37 (by decide) ?_
      refine aw_goto S 42 d_Md_isWhole_38 (by decide) ?_
      refine aw_istore_2 S d_Md_isWhole_42 ?_
      exact s43 _ (by rw [sp_sgn, if_pos (Or.inl c20)]; rfl)
    · refine aw_aload_0 S d_Md_isWhole_23 ?_
      refine aw_getf S I_Md 6 hM.2.1 n_fl_Md_22 d_Md_isWhole_24 rfl (by decide) ?_
      refine aw_bipush (v := 100) S d_Md_isWhole_27 (by decide) ?_
      refine aw_iload_1 S d_Md_isWhole_29 ?_
      refine aw_imul S d_Md_isWhole_30 ?_
      refine aw_topi (ix100z i) ?_
      refine aw_mld (j := 100 * i) S hM 4 (by decide) (hB 0 h0) (show _ < 6000 by omega) d_Md_isWhole_31 ?_
      refine aw_bipush (v := 45) S d_Md_isWhole_32 (by decide) ?_
      refine aw_icmp_ne S 41 d_Md_isWhole_34 (by decide) (fun c34 => ?_) (fun c34 => ?_)
      · refine aw_iconst (v := 0) S d_Md_isWhole_41 (by decide) ?_
        refine aw_istore_2 S d_Md_isWhole_42 ?_
        exact s43 _ (by rw [sp_sgn, if_neg (fun z => z.elim c20 c34)]; rfl)
      · refine aw_iconst (v := 1) S d_Md_isWhole_37 (by decide) ?_
        refine aw_goto S 42 d_Md_isWhole_38 (by decide) ?_
        refine aw_istore_2 S d_Md_isWhole_42 ?_
        exact s43 _ (by rw [sp_sgn, if_pos (Or.inr c34)]; rfl)
theorem wv_step {b : Int32} (V : Int64) (h : sp_dig b = true) : (10 : Int64) * V + b.toInt64 - 48 = V * 10 + (b - 48).toInt64 := by
  obtain ⟨j, h1, h2, rfl⟩ := in_nat (lo := 48) (hi := 57) (by decide) (by decide) h
  have e : ∀ j, j < 58 → 48 ≤ j → (nI j - 48).toInt64 = (nI j).toInt64 - 48 := by decide +kernel
  rw [e j (by omega) h2, Int64.mul_comm, Int64.sub_eq_add_neg, Int64.sub_eq_add_neg, Int64.add_assoc]
set_option maxRecDepth 100000 in
set_option maxHeartbeats 4000000 in
theorem ev_Md_whole {l : Launch} {E : aw_E} {g : AH} {n : Nat} {g0 : AH} {d : Nat} {v : Nat → Int32} {f : Nat → Nat → Int32}{xs : List Int32} (i : Nat) (hM : mG E g0 d v f g) (ht : i < 60) (hz : f 3 i = nI xs.length) (hl : xs.length ≤ 100) (hB : mL (f 4) (100 * i) xs) (hw : sp_wh xs = true) : EV l E 2 0 0 y_Md_whole c_Md_whole 5 (some .long) g n [.ref d, .int (nI i)] (aw_Pl (fun r_ g2 n2 => r_ = sp_wv xs ∧ g2 = g ∧ n2 = n)) := by
  refine aw_enter "AddressTermsModel" [some (.ref d), some (.int (nI i)), none, none, none] (by decide) rfl rfl (Nat.le_of_ble_eq_true rfl) ?_
  intro p e s m args below meth c S hnm
  have hsg := sp_sgn_le xs
  rw [sp_wh, Bool.and_eq_true, Bool.and_eq_true] at hw
  have hdg := List.all_eq_true.mp hw.2.2
  have h1 : 1 ≤ xs.length - sp_sgn xs := of_decide_eq_true hw.1
  have l5 : ∀ (j k : Nat) (V : Int64), k + j = xs.length → sp_sgn xs ≤ k → sp_wvF V (xs.drop k) = sp_wvF 0 (xs.drop (sp_sgn xs)) → AW p l e { frames := 2, cells := 0, slots := 0, locals := 40 * 2 } s m args below meth c E 5 (aw_Z E (aw_Pl (fun r_ g2 n2 => r_ = sp_wv xs ∧ g2 = g ∧ n2 = n)) below args s 0 0) 0 0 g n 5 [some (.ref d), some (.int (nI i)), some (.long V), none, some (.int (nI k))] [] := by
    intro j
    induction j with
    | zero =>
      intro k V hk hs hv
      rw [List.drop_eq_nil_iff.mpr (show xs.length ≤ k by omega), sp_wvF] at hv
      refine aw_iload_4 S d_Md_whole_5 ?_
      refine aw_aload_0 S d_Md_whole_7 ?_
      refine aw_getf S I_Md 5 hM.2.1 n_fl_Md_19 d_Md_whole_8 rfl (by decide) ?_
      refine aw_iload_1 S d_Md_whole_11 ?_
      refine aw_mld S hM 3 (by decide) (hz) (show _ < 60 by omega) d_Md_whole_12 ?_
      refine aw_icmp_ge S 68 d_Md_whole_13 (by decide) (fun c13 => ?_) (fun c13 => ?_)
      · refine aw_aload_0 S d_Md_whole_68 ?_
        refine aw_getf S I_Md 6 hM.2.1 n_fl_Md_22 d_Md_whole_69 rfl (by decide) ?_
        refine aw_bipush (v := 100) S d_Md_whole_72 (by decide) ?_
        refine aw_iload_1 S d_Md_whole_74 ?_
        refine aw_imul S d_Md_whole_75 ?_
        refine aw_topi (ix100z i) ?_
        refine aw_mld (j := 100 * i) S hM 4 (by decide) (hB 0 (by omega)) (show _ < 6000 by omega) d_Md_whole_76 ?_
        refine aw_bipush (v := 45) S d_Md_whole_77 (by decide) ?_
        refine aw_icmp_ne S 87 d_Md_whole_79 (by decide) (fun c79 => ?_) (fun c79 => ?_)
        · refine aw_lload_2 S d_Md_whole_87 ?_
          refine aw_lret S rfl d_Md_whole_88 ?_ (by decide) (by decide)
          exact ⟨by rw [sp_wv, if_neg c79, ← hv], rfl, rfl⟩
        · refine aw_lload_2 S d_Md_whole_82 ?_
          refine aw_lneg S d_Md_whole_83 ?_
          refine aw_goto S 88 d_Md_whole_84 (by decide) ?_
          refine aw_lret S rfl d_Md_whole_88 ?_ (by decide) (by decide)
          exact ⟨by rw [sp_wv, if_pos c79, ← hv], rfl, rfl⟩
      · exact absurd (nI_le (by omega) (by omega)) c13
    | succ j ih =>
      intro k V hk hs hv
      have hd : sp_dig (xs.getD k (-1)) = true := by
        refine hdg _ ?_
        have := getD_mem (xs := xs.drop (sp_sgn xs)) (i := k - sp_sgn xs) (by rw [List.length_drop]; omega)
        rwa [getD_drop, show sp_sgn xs + (k - sp_sgn xs) = k by omega] at this
      rw [drop_cons (show k < xs.length by omega), sp_wvF] at hv
      refine aw_iload_4 S d_Md_whole_5 ?_
      refine aw_aload_0 S d_Md_whole_7 ?_
      refine aw_getf S I_Md 5 hM.2.1 n_fl_Md_19 d_Md_whole_8 rfl (by decide) ?_
      refine aw_iload_1 S d_Md_whole_11 ?_
      refine aw_mld S hM 3 (by decide) (hz) (show _ < 60 by omega) d_Md_whole_12 ?_
      refine aw_icmp_ge S 68 d_Md_whole_13 (by decide) (fun c13 => ?_) (fun c13 => ?_)
      · exact absurd c13 (nI_ge (by omega) (by omega))
      · refine aw_aload_0 S d_Md_whole_16 ?_
        refine aw_getf S I_Md 6 hM.2.1 n_fl_Md_22 d_Md_whole_17 rfl (by decide) ?_
        refine aw_bipush (v := 100) S d_Md_whole_20 (by decide) ?_
        refine aw_iload_1 S d_Md_whole_22 ?_
        refine aw_imul S d_Md_whole_23 ?_
        refine aw_iload_4 S d_Md_whole_24 ?_
        refine aw_iadd S d_Md_whole_26 ?_
        refine aw_topi (ix100 (i) (k)) ?_
        refine aw_mld S hM 4 (by decide) (hB k (by omega)) (show _ < 6000 by omega) d_Md_whole_27 ?_
        refine aw_callSiR S (ev_Md_isDigit (xs.getD k (-1))) mb_Md_isDigit n_st_Md_isDigit n_ml_Md_85 d_Md_whole_28 rfl rfl ?_
        refine aw_if_eq S 60 d_Md_whole_31 (by decide) (fun c31 => ?_) (fun c31 => ?_)
        · rw [hd] at c31; exact absurd c31 (by decide)
        · refine aw_ldc2 S n_ct_Md_190 d_Md_whole_34 ?_
          refine aw_lload_2 S d_Md_whole_37 ?_
          refine aw_lmul S d_Md_whole_38 ?_
          refine aw_aload_0 S d_Md_whole_39 ?_
          refine aw_getf S I_Md 6 hM.2.1 n_fl_Md_22 d_Md_whole_40 rfl (by decide) ?_
          refine aw_bipush (v := 100) S d_Md_whole_43 (by decide) ?_
          refine aw_iload_1 S d_Md_whole_45 ?_
          refine aw_imul S d_Md_whole_46 ?_
          refine aw_iload_4 S d_Md_whole_47 ?_
          refine aw_iadd S d_Md_whole_49 ?_
          refine aw_topi (ix100 (i) (k)) ?_
          refine aw_mld S hM 4 (by decide) (hB k (by omega)) (show _ < 6000 by omega) d_Md_whole_50 ?_
          refine aw_i2l S d_Md_whole_51 ?_
          refine aw_ladd S d_Md_whole_52 ?_
          refine aw_ldc2 S n_ct_Md_192 d_Md_whole_53 ?_
          refine aw_lsub S d_Md_whole_56 ?_
          refine aw_goto S 61 d_Md_whole_57 (by decide) ?_
          refine aw_lstore_2 S d_Md_whole_61 ?_
          refine aw_iinc_4 (v := nI (k + 1)) S d_Md_whole_62 ((nI_succ (k)).symm) ?_
          refine aw_goto S 5 d_Md_whole_65 (by decide) ?_
          refine ih (k + 1) _ (by omega) (by omega) ?_
          rw [← hv, ← wv_step V hd]
  by_cases hz1 : xs.getD 0 (-1) = 43 ∨ xs.getD 0 (-1) = 45
  · have e1 : sp_sgn xs = 1 := by rw [sp_sgn, if_pos hz1]
    have hnd : sp_dig (xs.getD 0 (-1)) = false := by rcases hz1 with z | z <;> rw [z] <;> decide
    refine aw_lconst (v := 0) S d_Md_whole_0 (by decide) ?_
    refine aw_lstore_2 S d_Md_whole_1 ?_
    refine aw_iconst (v := 0) S d_Md_whole_2 (by decide) ?_
    refine aw_topi nI_0.symm ?_
    refine aw_istore_4 S d_Md_whole_3 ?_
    refine aw_iload_4 S d_Md_whole_5 ?_
    refine aw_aload_0 S d_Md_whole_7 ?_
    refine aw_getf S I_Md 5 hM.2.1 n_fl_Md_19 d_Md_whole_8 rfl (by decide) ?_
    refine aw_iload_1 S d_Md_whole_11 ?_
    refine aw_mld S hM 3 (by decide) (hz) (show _ < 60 by omega) d_Md_whole_12 ?_
    refine aw_icmp_ge S 68 d_Md_whole_13 (by decide) (fun c13 => ?_) (fun c13 => ?_)
    · exact absurd c13 (nI_ge (a := 0) (by omega) (by omega))
    · refine aw_aload_0 S d_Md_whole_16 ?_
      refine aw_getf S I_Md 6 hM.2.1 n_fl_Md_22 d_Md_whole_17 rfl (by decide) ?_
      refine aw_bipush (v := 100) S d_Md_whole_20 (by decide) ?_
      refine aw_iload_1 S d_Md_whole_22 ?_
      refine aw_imul S d_Md_whole_23 ?_
      refine aw_iload_4 S d_Md_whole_24 ?_
      refine aw_iadd S d_Md_whole_26 ?_
      refine aw_topi (ix100 (i) (0)) ?_
      refine aw_mld (j := 100 * i + 0) S hM 4 (by decide) (hB 0 (by omega)) (show _ < 6000 by omega) d_Md_whole_27 ?_
      refine aw_callSiR S (ev_Md_isDigit (xs.getD 0 (-1))) mb_Md_isDigit n_st_Md_isDigit n_ml_Md_85 d_Md_whole_28 rfl rfl ?_
      refine aw_if_eq S 60 d_Md_whole_31 (by decide) (fun c31 => ?_) (fun c31 => ?_)
      · refine aw_lload_2 S d_Md_whole_60 ?_
        refine aw_lstore_2 S d_Md_whole_61 ?_
        refine aw_iinc_4 (v := nI 1) S d_Md_whole_62 (rfl) ?_
        refine aw_goto S 5 d_Md_whole_65 (by decide) ?_
        exact l5 (xs.length - 1) 1 0 (by omega) (by omega) (by rw [e1])
      · rw [hnd] at c31; exact absurd rfl c31
  · have e1 : sp_sgn xs = 0 := by rw [sp_sgn, if_neg hz1]
    refine aw_lconst (v := 0) S d_Md_whole_0 (by decide) ?_
    refine aw_lstore_2 S d_Md_whole_1 ?_
    refine aw_iconst (v := 0) S d_Md_whole_2 (by decide) ?_
    refine aw_topi nI_0.symm ?_
    refine aw_istore_4 S d_Md_whole_3 ?_
    exact l5 xs.length 0 0 (by omega) (by omega) (by rw [e1])
set_option maxRecDepth 100000 in
set_option maxHeartbeats 4000000 in
theorem ev_Md_isBytes {l : Launch} {E : aw_E} {g : AH} {n : Nat} {g0 : AH} {d : Nat} {v : Nat → Int32} {f : Nat → Nat → Int32}{xs : List Int32} (i : Nat) {N : Nat} {W_ : Int64} {L : List Int32} (hM : mG E g0 d v f g) (ht : i < 60) (hz : f 3 i = nI xs.length) (hl : xs.length ≤ 100) (hB : mL (f 4) (100 * i) xs) (hN : N < 8) (hL : L.length = N) (hW : ∀ k, k < N → ((W_ >>> ((8 * (nI N - 1 - nI k)).toInt64 &&& 63)) &&& 255).toInt32 = L.getD k (-1)) : EV l E 0 0 0 y_Md_isBytes c_Md_isBytes 7 (some .boolean) g n [.ref d, .int (nI i), .int (nI N), .long W_] (aw_Pi (fun r_ g2 n2 => r_ = aw_b (decide (xs = L)) ∧ g2 = g ∧ n2 = n)) := by
  refine aw_enter "AddressTermsModel" [some (.ref d), some (.int (nI i)), some (.int (nI N)), some (.long W_), none, none, none] (by decide) rfl rfl (Nat.le_of_ble_eq_true rfl) ?_
  intro p e s m args below meth c S hnm
  have s75 : ∀ (b : Bool) (x : Option Value), (b = true ↔ xs = L) → AW p l e { frames := 0, cells := 0, slots := 0, locals := 40 * 0 } s m args below meth c E 7 (aw_Z E (aw_Pi (fun r_ g2 n2 => r_ = aw_b (decide (xs = L)) ∧ g2 = g ∧ n2 = n)) below args s 0 0) 0 0 g n 75 [some (.ref d), some (.int (nI i)), some (.int (nI N)), some (.long W_), none, some (.int (aw_b b)), x] [] := by
    intro b x hb
    refine aw_iload_5 S d_Md_isBytes_75 ?_
    refine aw_zret S .boolean rfl (aw_bz _) d_Md_isBytes_77 ?_ (by decide) (by decide)
    refine ⟨?_, rfl, rfl⟩
    congr 1
    by_cases q : xs = L
    · rw [decide_eq_true q, hb.mpr q]
    · rw [decide_eq_false q, Bool.eq_false_iff]; exact fun z => q (hb.mp z)
  have s20f : ∀ (k : Nat), ¬ xs = L → AW p l e { frames := 0, cells := 0, slots := 0, locals := 40 * 0 } s m args below meth c E 7 (aw_Z E (aw_Pi (fun r_ g2 n2 => r_ = aw_b (decide (xs = L)) ∧ g2 = g ∧ n2 = n)) below args s 0 0) 0 0 g n 20 [some (.ref d), some (.int (nI i)), some (.int (nI N)), some (.long W_), none, some (.int 0), some (.int (nI k))] [] := by
    intro k hne
    refine aw_iload_6 S d_Md_isBytes_20 ?_
    refine aw_iload_2 S d_Md_isBytes_22 ?_
    refine aw_icmp_ge S 75 d_Md_isBytes_23 (by decide) (fun c23 => ?_) (fun c23 => ?_)
    · exact s75 false _ ⟨fun h => (by cases h), fun h => absurd h hne⟩
    · refine aw_iload_5 S d_Md_isBytes_26 ?_
      refine aw_if_eq S 75 d_Md_isBytes_28 (by decide) (fun c28 => ?_) (fun c28 => ?_)
      · exact s75 false _ ⟨fun h => (by cases h), fun h => absurd h hne⟩
      · exact absurd rfl c28
  have l20 : ∀ (j k : Nat), k + j = N → xs.length = N → (∀ z, z < k → xs.getD z (-1) = L.getD z (-1)) → AW p l e { frames := 0, cells := 0, slots := 0, locals := 40 * 0 } s m args below meth c E 7 (aw_Z E (aw_Pi (fun r_ g2 n2 => r_ = aw_b (decide (xs = L)) ∧ g2 = g ∧ n2 = n)) below args s 0 0) 0 0 g n 20 [some (.ref d), some (.int (nI i)), some (.int (nI N)), some (.long W_), none, some (.int 1), some (.int (nI k))] [] := by
    intro j
    induction j with
    | zero =>
      intro k hk hx hq
      refine aw_iload_6 S d_Md_isBytes_20 ?_
      refine aw_iload_2 S d_Md_isBytes_22 ?_
      refine aw_icmp_ge S 75 d_Md_isBytes_23 (by decide) (fun c23 => ?_) (fun c23 => ?_)
      · exact s75 true _ ⟨fun _ => getD_ext (by omega) (fun z h => hq z (by omega)), fun _ => rfl⟩
      · exact absurd (nI_le (by omega) (by omega)) c23
    | succ j ih =>
      intro k hk hx hq
      refine aw_iload_6 S d_Md_isBytes_20 ?_
      refine aw_iload_2 S d_Md_isBytes_22 ?_
      refine aw_icmp_ge S 75 d_Md_isBytes_23 (by decide) (fun c23 => ?_) (fun c23 => ?_)
      · exact absurd c23 (nI_ge (by omega) (by omega))
      · refine aw_iload_5 S d_Md_isBytes_26 ?_
        refine aw_if_eq S 75 d_Md_isBytes_28 (by decide) (fun c28 => ?_) (fun c28 => ?_)
        · exact absurd c28 (by decide)
        · refine aw_aload_0 S d_Md_isBytes_31 ?_
          refine aw_getf S I_Md 6 hM.2.1 n_fl_Md_22 d_Md_isBytes_32 rfl (by decide) ?_
          refine aw_bipush (v := 100) S d_Md_isBytes_35 (by decide) ?_
          refine aw_iload_1 S d_Md_isBytes_37 ?_
          refine aw_imul S d_Md_isBytes_38 ?_
          refine aw_iload_6 S d_Md_isBytes_39 ?_
          refine aw_iadd S d_Md_isBytes_41 ?_
          refine aw_topi (ix100 (i) (k)) ?_
          refine aw_mld S hM 4 (by decide) (hB k (by omega)) (show _ < 6000 by omega) d_Md_isBytes_42 ?_
          refine aw_lload_3 S d_Md_isBytes_43 ?_
          refine aw_bipush (v := 8) S d_Md_isBytes_44 (by decide) ?_
          refine aw_iload_2 S d_Md_isBytes_46 ?_
          refine aw_iconst (v := 1) S d_Md_isBytes_47 (by decide) ?_
          refine aw_isub S d_Md_isBytes_48 ?_
          refine aw_iload_6 S d_Md_isBytes_49 ?_
          refine aw_isub S d_Md_isBytes_51 ?_
          refine aw_imul S d_Md_isBytes_52 ?_
          refine aw_lshr S d_Md_isBytes_53 ?_
          refine aw_ldc2 S n_ct_Md_88 d_Md_isBytes_54 ?_
          refine aw_land S d_Md_isBytes_57 ?_
          refine aw_l2i S d_Md_isBytes_58 ?_
          refine aw_topi (hW k (by omega)) ?_
          refine aw_icmp_ne S 66 d_Md_isBytes_59 (by decide) (fun c59 => ?_) (fun c59 => ?_)
          · refine aw_iconst (v := 0) S d_Md_isBytes_66 (by decide) ?_
            refine aw_istore_5 S d_Md_isBytes_67 ?_
            refine aw_iinc_6 (v := nI (k + 1)) S d_Md_isBytes_69 ((nI_succ (k)).symm) ?_
            refine aw_goto S 20 d_Md_isBytes_72 (by decide) ?_
            exact s20f _ (fun h => c59 (by rw [h]))
          · refine aw_iconst (v := 1) S d_Md_isBytes_62 (by decide) ?_
            refine aw_goto S 67 d_Md_isBytes_63 (by decide) ?_
            refine aw_istore_5 S d_Md_isBytes_67 ?_
            refine aw_iinc_6 (v := nI (k + 1)) S d_Md_isBytes_69 ((nI_succ (k)).symm) ?_
            refine aw_goto S 20 d_Md_isBytes_72 (by decide) ?_
            exact ih (k + 1) (by omega) hx (fun z y => by rcases Nat.lt_or_ge z k with h | h; exact hq z h; rw [show z = k by omega]; exact c59)
  refine aw_aload_0 S d_Md_isBytes_0 ?_
  refine aw_getf S I_Md 5 hM.2.1 n_fl_Md_19 d_Md_isBytes_1 rfl (by decide) ?_
  refine aw_iload_1 S d_Md_isBytes_4 ?_
  refine aw_mld S hM 3 (by decide) (hz) (show _ < 60 by omega) d_Md_isBytes_5 ?_
  refine aw_iload_2 S d_Md_isBytes_6 ?_
  refine aw_icmp_ne S 14 d_Md_isBytes_7 (by decide) (fun c7 => ?_) (fun c7 => ?_)
  · refine aw_iconst (v := 0) S d_Md_isBytes_14 (by decide) ?_
    refine aw_istore_5 S d_Md_isBytes_15 ?_
    refine aw_iconst (v := 0) S d_Md_isBytes_17 (by decide) ?_
    refine aw_topi nI_0.symm ?_
    refine aw_istore_6 S d_Md_isBytes_18 ?_
    exact s20f 0 (fun h => c7 (by rw [h, hL]))
  · refine aw_iconst (v := 1) S d_Md_isBytes_10 (by decide) ?_
    refine aw_goto S 15 d_Md_isBytes_11 (by decide) ?_
    refine aw_istore_5 S d_Md_isBytes_15 ?_
    refine aw_iconst (v := 0) S d_Md_isBytes_17 (by decide) ?_
    refine aw_topi nI_0.symm ?_
    refine aw_istore_6 S d_Md_isBytes_18 ?_
    exact l20 N 0 (Nat.zero_add _) ((nI_eq (by omega) (by omega)).mp c7) (fun z h => absurd h (Nat.not_lt_zero z))
def mtr (xs : List Int32) : Int32 := if sp_tr xs then 1 else if sp_fa xs then 0 else -1
theorem wd_true : ∀ k, k < 4 → (((1953658213 : Int64) >>> ((8 * (nI 4 - 1 - nI k)).toInt64 &&& 63)) &&& 255).toInt32 = ([116, 114, 117, 101] : List Int32).getD k (-1) := by decide +kernel
theorem wd_1 : ∀ k, k < 1 → (((49 : Int64) >>> ((8 * (nI 1 - 1 - nI k)).toInt64 &&& 63)) &&& 255).toInt32 = ([49] : List Int32).getD k (-1) := by decide +kernel
theorem wd_false : ∀ k, k < 5 → (((439721161573 : Int64) >>> ((8 * (nI 5 - 1 - nI k)).toInt64 &&& 63)) &&& 255).toInt32 = ([102, 97, 108, 115, 101] : List Int32).getD k (-1) := by decide +kernel
theorem wd_0 : ∀ k, k < 1 → (((48 : Int64) >>> ((8 * (nI 1 - 1 - nI k)).toInt64 &&& 63)) &&& 255).toInt32 = ([48] : List Int32).getD k (-1) := by decide +kernel
theorem mtr_same (xs ys : List Int32) : (0 ≤ mtr xs ∧ mtr xs = mtr ys) ↔ ((sp_tr xs && sp_tr ys) || (sp_fa xs && sp_fa ys)) = true := by
  have ex : ∀ zs : List Int32, sp_tr zs = true → sp_fa zs = false := by
    intro zs h
    unfold sp_tr at h
    unfold sp_fa
    rw [Bool.or_eq_true] at h
    rcases h with h | h
    · rw [of_decide_eq_true h]; decide
    · rw [of_decide_eq_true h]; decide
  unfold mtr
  cases hx : sp_tr xs <;> cases hy : sp_tr ys <;> cases hx2 : sp_fa xs <;> cases hy2 : sp_fa ys <;> simp_all <;> decide
set_option maxRecDepth 100000 in
set_option maxHeartbeats 4000000 in
theorem ev_Md_truth {l : Launch} {E : aw_E} {g : AH} {n : Nat} {g0 : AH} {d : Nat} {v : Nat → Int32} {f : Nat → Nat → Int32}{xs : List Int32} (i : Nat) (hM : mG E g0 d v f g) (ht : i < 60) (hz : f 3 i = nI xs.length) (hl : xs.length ≤ 100) (hB : mL (f 4) (100 * i) xs) : EV l E 1 0 0 y_Md_truth c_Md_truth 2 (some .int) g n [.ref d, .int (nI i)] (aw_Pi (fun r_ g2 n2 => r_ = mtr xs ∧ g2 = g ∧ n2 = n)) := by
  refine aw_enter "AddressTermsModel" [some (.ref d), some (.int (nI i))] (by decide) rfl rfl (Nat.le_of_ble_eq_true rfl) ?_
  intro p e s m args below meth c S hnm
  refine aw_aload_0 S d_Md_truth_0 ?_
  refine aw_iload_1 S d_Md_truth_1 ?_
  refine aw_iconst (v := 4) S d_Md_truth_2 (by decide) ?_
  refine aw_topi (show (4 : Int32) = nI 4 from rfl) ?_
  refine aw_ldc2 S n_ct_Md_194 d_Md_truth_3 ?_
  refine aw_callViR S (ev_Md_isBytes i (N := 4) (W_ := 1953658213) (L := [116, 114, 117, 101]) hM ht hz hl hB (by decide) rfl wd_true) mb_Md_isBytes mi_Md_isBytes n_ml_Md_196 d_Md_truth_6 I_Md hM.2.1 rfl rfl rfl ?_
  refine aw_if_ne S 24 d_Md_truth_9 (by decide) (fun c9 => ?_) (fun c9 => ?_)
  · refine aw_iconst (v := 1) S d_Md_truth_24 (by decide) ?_
    refine aw_goto S 57 d_Md_truth_25 (by decide) ?_
    refine aw_iret S rfl d_Md_truth_57 ?_ (by decide) (by decide)
    exact ⟨by rw [mtr, sp_tr, aw_b_t c9]; rfl, rfl, rfl⟩
  · refine aw_aload_0 S d_Md_truth_12 ?_
    refine aw_iload_1 S d_Md_truth_13 ?_
    refine aw_iconst (v := 1) S d_Md_truth_14 (by decide) ?_
    refine aw_topi (show (1 : Int32) = nI 1 from rfl) ?_
    refine aw_ldc2 S n_ct_Md_200 d_Md_truth_15 ?_
    refine aw_callViR S (ev_Md_isBytes i (N := 1) (W_ := 49) (L := [49]) hM ht hz hl hB (by decide) rfl wd_1) mb_Md_isBytes mi_Md_isBytes n_ml_Md_196 d_Md_truth_18 I_Md hM.2.1 rfl rfl rfl ?_
    refine aw_if_eq S 28 d_Md_truth_21 (by decide) (fun c21 => ?_) (fun c21 => ?_)
    · refine aw_aload_0 S d_Md_truth_28 ?_
      refine aw_iload_1 S d_Md_truth_29 ?_
      refine aw_iconst (v := 5) S d_Md_truth_30 (by decide) ?_
      refine aw_topi (show (5 : Int32) = nI 5 from rfl) ?_
      refine aw_ldc2 S n_ct_Md_202 d_Md_truth_31 ?_
      refine aw_callViR S (ev_Md_isBytes i (N := 5) (W_ := 439721161573) (L := [102, 97, 108, 115, 101]) hM ht hz hl hB (by decide) rfl wd_false) mb_Md_isBytes mi_Md_isBytes n_ml_Md_196 d_Md_truth_34 I_Md hM.2.1 rfl rfl rfl ?_
      refine aw_if_ne S 52 d_Md_truth_37 (by decide) (fun c37 => ?_) (fun c37 => ?_)
      · refine aw_iconst (v := 0) S d_Md_truth_52 (by decide) ?_
        refine aw_goto S 57 d_Md_truth_53 (by decide) ?_
        refine aw_iret S rfl d_Md_truth_57 ?_ (by decide) (by decide)
        exact ⟨by rw [mtr, sp_tr, aw_b_f c9, aw_b_f c21, sp_fa, aw_b_t c37]; rfl, rfl, rfl⟩
      · refine aw_aload_0 S d_Md_truth_40 ?_
        refine aw_iload_1 S d_Md_truth_41 ?_
        refine aw_iconst (v := 1) S d_Md_truth_42 (by decide) ?_
        refine aw_topi (show (1 : Int32) = nI 1 from rfl) ?_
        refine aw_ldc2 S n_ct_Md_192 d_Md_truth_43 ?_
        refine aw_callViR S (ev_Md_isBytes i (N := 1) (W_ := 48) (L := [48]) hM ht hz hl hB (by decide) rfl wd_0) mb_Md_isBytes mi_Md_isBytes n_ml_Md_196 d_Md_truth_46 I_Md hM.2.1 rfl rfl rfl ?_
        refine aw_if_eq S 56 d_Md_truth_49 (by decide) (fun c49 => ?_) (fun c49 => ?_)
        · refine aw_iconst (v := -1) S d_Md_truth_56 (by decide) ?_
          refine aw_iret S rfl d_Md_truth_57 ?_ (by decide) (by decide)
          exact ⟨by rw [mtr, sp_tr, aw_b_f c9, aw_b_f c21, sp_fa, aw_b_f c37, aw_b_f c49]; rfl, rfl, rfl⟩
        · refine aw_iconst (v := 0) S d_Md_truth_52 (by decide) ?_
          refine aw_goto S 57 d_Md_truth_53 (by decide) ?_
          refine aw_iret S rfl d_Md_truth_57 ?_ (by decide) (by decide)
          exact ⟨by rw [mtr, sp_tr, aw_b_f c9, aw_b_f c21, sp_fa, aw_b_t c49, Bool.or_true]; rfl, rfl, rfl⟩
    · refine aw_iconst (v := 1) S d_Md_truth_24 (by decide) ?_
      refine aw_goto S 57 d_Md_truth_25 (by decide) ?_
      refine aw_iret S rfl d_Md_truth_57 ?_ (by decide) (by decide)
      exact ⟨by rw [mtr, sp_tr, aw_b_t c21, Bool.or_true]; rfl, rfl, rfl⟩
set_option maxRecDepth 100000 in
set_option maxHeartbeats 4000000 in
theorem ev_Md_alike {l : Launch} {E : aw_E} {g : AH} {n : Nat} {g0 : AH} {d : Nat} {v : Nat → Int32} {f : Nat → Nat → Int32} {tape : List Int32} {ts : List Tmv} {bt : Int32} {ps : List Pfv} {pr : List Int32} (a b : Int32) (hM : mG E g0 d v f g) (hs : mSt v f tape ts bt ps pr) : EV l E 3 0 0 y_Md_alike c_Md_alike 3 (some .int) g n [.ref d, .int a, .int b] (aw_Pi (fun r_ g2 n2 => r_ = op_alike ts a b ∧ g2 = g ∧ n2 = n)) := by
  obtain ⟨⟨tl, t0, tL⟩, ⟨nl, n1, nT⟩, b2, ⟨pl, p3, pP⟩, ⟨ql, q6, qL⟩⟩ := id hs
  refine aw_enter "AddressTermsModel" [some (.ref d), some (.int a), some (.int b)] (by decide) rfl rfl (Nat.le_of_ble_eq_true rfl) ?_
  intro p e s m args below meth c S hnm
  refine aw_aload_0 S d_Md_alike_0 ?_
  refine aw_iload_1 S d_Md_alike_1 ?_
  refine aw_callViR S (ev_Md_isTerm a hM hs) mb_Md_isTerm mi_Md_isTerm n_ml_Md_103 d_Md_alike_2 I_Md hM.2.1 rfl rfl rfl ?_
  refine aw_if_eq S 16 d_Md_alike_5 (by decide) (fun c5 => ?_) (fun c5 => ?_)
  · refine aw_iconst (v := -1) S d_Md_alike_16 (by decide) ?_
    refine aw_iret S rfl d_Md_alike_17 ?_ (by decide) (by decide)
    have hn : ixOf ts.length a = none := Option.isNone_iff_eq_none.mp (Option.isSome_eq_false_iff.mp (aw_b_f c5))
    refine ⟨?_, rfl, rfl⟩
    rw [op_alike, hn]
  · refine aw_aload_0 S d_Md_alike_8 ?_
    refine aw_iload_2 S d_Md_alike_9 ?_
    refine aw_callViR S (ev_Md_isTerm b hM hs) mb_Md_isTerm mi_Md_isTerm n_ml_Md_103 d_Md_alike_10 I_Md hM.2.1 rfl rfl rfl ?_
    refine aw_if_ne S 18 d_Md_alike_13 (by decide) (fun c13 => ?_) (fun c13 => ?_)
    · obtain hn | ⟨i, hi, rfl, hxi⟩ := ixOf_cases a (show ts.length < 2 ^ 31 by omega)
      · have := aw_b_t c5; rw [hn] at this; cases this
      obtain hn | ⟨j, hj, rfl, hxj⟩ := ixOf_cases b (show ts.length < 2 ^ 31 by omega)
      · have := aw_b_t c13; rw [hn] at this; cases this
      have hTi := nT i hi
      have hTj := nT j hj
      refine aw_iload_1 S d_Md_alike_18 ?_
      refine aw_iload_2 S d_Md_alike_19 ?_
      refine aw_icmp_ne S 25 d_Md_alike_20 (by decide) (fun c20 => ?_) (fun c20 => ?_)
      · refine aw_aload_0 S d_Md_alike_25 ?_
        refine aw_getf S I_Md 3 hM.2.1 n_fl_Md_13 d_Md_alike_26 rfl (by decide) ?_
        refine aw_iload_1 S d_Md_alike_29 ?_
        refine aw_mld S hM 1 (by decide) (hTi.1) (show _ < 60 by omega) d_Md_alike_30 ?_
        refine aw_iconst (v := 2) S d_Md_alike_31 (by decide) ?_
        refine aw_icmp_ne S 60 d_Md_alike_32 (by decide) (fun c32 => ?_) (fun c32 => ?_)
        · refine aw_iconst (v := 0) S d_Md_alike_60 (by decide) ?_
          refine aw_iret S rfl d_Md_alike_61 ?_ (by decide) (by decide)
          refine ⟨?_, rfl, rfl⟩
          rw [op_alike, hxi, hxj]; dsimp only; rw [if_neg c20]
          rw [sp_same]
          rw [if_neg (fun z => c32 z.1)]; rfl
        · refine aw_aload_0 S d_Md_alike_35 ?_
          refine aw_getf S I_Md 3 hM.2.1 n_fl_Md_13 d_Md_alike_36 rfl (by decide) ?_
          refine aw_iload_2 S d_Md_alike_39 ?_
          refine aw_mld S hM 1 (by decide) (hTj.1) (show _ < 60 by omega) d_Md_alike_40 ?_
          refine aw_iconst (v := 2) S d_Md_alike_41 (by decide) ?_
          refine aw_icmp_ne S 60 d_Md_alike_42 (by decide) (fun c42 => ?_) (fun c42 => ?_)
          · refine aw_iconst (v := 0) S d_Md_alike_60 (by decide) ?_
            refine aw_iret S rfl d_Md_alike_61 ?_ (by decide) (by decide)
            refine ⟨?_, rfl, rfl⟩
            rw [op_alike, hxi, hxj]; dsimp only; rw [if_neg c20]
            rw [sp_same]
            rw [if_neg (fun z => c42 z.2.1)]; rfl
          · refine aw_aload_0 S d_Md_alike_45 ?_
            refine aw_getf S I_Md 4 hM.2.1 n_fl_Md_16 d_Md_alike_46 rfl (by decide) ?_
            refine aw_iload_1 S d_Md_alike_49 ?_
            refine aw_mld S hM 2 (by decide) (hTi.2.1) (show _ < 60 by omega) d_Md_alike_50 ?_
            refine aw_aload_0 S d_Md_alike_51 ?_
            refine aw_getf S I_Md 4 hM.2.1 n_fl_Md_16 d_Md_alike_52 rfl (by decide) ?_
            refine aw_iload_2 S d_Md_alike_55 ?_
            refine aw_mld S hM 2 (by decide) (hTj.2.1) (show _ < 60 by omega) d_Md_alike_56 ?_
            refine aw_icmp_eq S 62 d_Md_alike_57 (by decide) (fun c57 => ?_) (fun c57 => ?_)
            · have hki : ¬ (tmG ts i).1 = 1 := by rw [c32]; decide
              have hkj : ¬ (tmG ts j).1 = 1 := by rw [c42]; decide
              have hmi : mN (tmG ts i) = (tmG ts i).2.1 := if_neg hki
              have hmj : mN (tmG ts j) = (tmG ts j).2.1 := if_neg hkj
              have hcc : (tmG ts i).1 = 2 ∧ (tmG ts j).1 = 2 ∧ (tmG ts i).2.1 = (tmG ts j).2.1 := ⟨c32, c42, by rw [← hmi, ← hmj]; exact c57⟩
              refine aw_aload_0 S d_Md_alike_62 ?_
              refine aw_getf S I_Md 4 hM.2.1 n_fl_Md_16 d_Md_alike_63 rfl (by decide) ?_
              refine aw_iload_1 S d_Md_alike_66 ?_
              refine aw_mld S hM 2 (by decide) (hTi.2.1) (show _ < 60 by omega) d_Md_alike_67 ?_
              refine aw_iconst (v := 2) S d_Md_alike_68 (by decide) ?_
              refine aw_icmp_ne S 108 d_Md_alike_69 (by decide) (fun c69 => ?_) (fun c69 => ?_)
              · refine aw_aload_0 S d_Md_alike_108 ?_
                refine aw_getf S I_Md 4 hM.2.1 n_fl_Md_16 d_Md_alike_109 rfl (by decide) ?_
                refine aw_iload_1 S d_Md_alike_112 ?_
                refine aw_mld S hM 2 (by decide) (hTi.2.1) (show _ < 60 by omega) d_Md_alike_113 ?_
                refine aw_iconst (v := 3) S d_Md_alike_114 (by decide) ?_
                refine aw_icmp_ne S 143 d_Md_alike_115 (by decide) (fun c115 => ?_) (fun c115 => ?_)
                · refine aw_iconst (v := 0) S d_Md_alike_143 (by decide) ?_
                  refine aw_iret S rfl d_Md_alike_144 ?_ (by decide) (by decide)
                  refine ⟨?_, rfl, rfl⟩
                  rw [op_alike, hxi, hxj]; dsimp only; rw [if_neg c20]
                  rw [sp_same]
                  rw [if_pos hcc, if_neg (by rw [← hmi]; exact c69), if_neg (by rw [← hmi]; exact c115)]; rfl
                · refine aw_aload_0 S d_Md_alike_118 ?_
                  refine aw_iload_1 S d_Md_alike_119 ?_
                  refine aw_callViR S (ev_Md_truth i hM (by omega) hTi.2.2.1 hTi.2.2.2.1 hTi.2.2.2.2.1) mb_Md_truth mi_Md_truth n_ml_Md_211 d_Md_alike_120 I_Md hM.2.1 rfl rfl rfl ?_
                  refine aw_if_lt S 143 d_Md_alike_123 (by decide) (fun c123 => ?_) (fun c123 => ?_)
                  · refine aw_iconst (v := 0) S d_Md_alike_143 (by decide) ?_
                    refine aw_iret S rfl d_Md_alike_144 ?_ (by decide) (by decide)
                    refine ⟨?_, rfl, rfl⟩
                    rw [op_alike, hxi, hxj]; dsimp only; rw [if_neg c20]
                    rw [sp_same]
                    rw [if_pos hcc, if_neg (by rw [← hmi]; exact c69), if_pos (by rw [← hmi]; exact c115)]
                    rw [Bool.eq_false_iff.mpr (fun z => absurd c123 (Int32.not_lt.mpr ((mtr_same _ _).mpr z).1))]; rfl
                  · refine aw_aload_0 S d_Md_alike_126 ?_
                    refine aw_iload_1 S d_Md_alike_127 ?_
                    refine aw_callViR S (ev_Md_truth i hM (by omega) hTi.2.2.1 hTi.2.2.2.1 hTi.2.2.2.2.1) mb_Md_truth mi_Md_truth n_ml_Md_211 d_Md_alike_128 I_Md hM.2.1 rfl rfl rfl ?_
                    refine aw_aload_0 S d_Md_alike_131 ?_
                    refine aw_iload_2 S d_Md_alike_132 ?_
                    refine aw_callViR S (ev_Md_truth j hM (by omega) hTj.2.2.1 hTj.2.2.2.1 hTj.2.2.2.2.1) mb_Md_truth mi_Md_truth n_ml_Md_211 d_Md_alike_133 I_Md hM.2.1 rfl rfl rfl ?_
                    refine aw_icmp_ne S 143 d_Md_alike_136 (by decide) (fun c136 => ?_) (fun c136 => ?_)
                    · refine aw_iconst (v := 0) S d_Md_alike_143 (by decide) ?_
                      refine aw_iret S rfl d_Md_alike_144 ?_ (by decide) (by decide)
                      refine ⟨?_, rfl, rfl⟩
                      rw [op_alike, hxi, hxj]; dsimp only; rw [if_neg c20]
                      rw [sp_same]
                      rw [if_pos hcc, if_neg (by rw [← hmi]; exact c69), if_pos (by rw [← hmi]; exact c115)]
                      rw [Bool.eq_false_iff.mpr (fun z => c136 ((mtr_same _ _).mpr z).2)]; rfl
                    · refine aw_iconst (v := 1) S d_Md_alike_139 (by decide) ?_
                      refine aw_goto S 144 d_Md_alike_140 (by decide) ?_
                      refine aw_iret S rfl d_Md_alike_144 ?_ (by decide) (by decide)
                      refine ⟨?_, rfl, rfl⟩
                      rw [op_alike, hxi, hxj]; dsimp only; rw [if_neg c20]
                      rw [sp_same]
                      rw [if_pos hcc, if_neg (by rw [← hmi]; exact c69), if_pos (by rw [← hmi]; exact c115)]
                      rw [(mtr_same _ _).mp ⟨Int32.not_lt.mp c123, c136⟩]; rfl
              · refine aw_aload_0 S d_Md_alike_72 ?_
                refine aw_iload_1 S d_Md_alike_73 ?_
                refine aw_callViR S (ev_Md_isWhole i hM (by omega) hTi.2.2.1 hTi.2.2.2.1 hTi.2.2.2.2.1) mb_Md_isWhole mi_Md_isWhole n_ml_Md_204 d_Md_alike_74 I_Md hM.2.1 rfl rfl rfl ?_
                refine aw_if_eq S 106 d_Md_alike_77 (by decide) (fun c77 => ?_) (fun c77 => ?_)
                · refine aw_iconst (v := 0) S d_Md_alike_106 (by decide) ?_
                  refine aw_iret S rfl d_Md_alike_107 ?_ (by decide) (by decide)
                  refine ⟨?_, rfl, rfl⟩
                  rw [op_alike, hxi, hxj]; dsimp only; rw [if_neg c20]
                  rw [sp_same]
                  rw [if_pos hcc, if_pos (by rw [← hmi]; exact c69), aw_b_f c77]; rfl
                · refine aw_aload_0 S d_Md_alike_80 ?_
                  refine aw_iload_2 S d_Md_alike_81 ?_
                  refine aw_callViR S (ev_Md_isWhole j hM (by omega) hTj.2.2.1 hTj.2.2.2.1 hTj.2.2.2.2.1) mb_Md_isWhole mi_Md_isWhole n_ml_Md_204 d_Md_alike_82 I_Md hM.2.1 rfl rfl rfl ?_
                  refine aw_if_eq S 106 d_Md_alike_85 (by decide) (fun c85 => ?_) (fun c85 => ?_)
                  · refine aw_iconst (v := 0) S d_Md_alike_106 (by decide) ?_
                    refine aw_iret S rfl d_Md_alike_107 ?_ (by decide) (by decide)
                    refine ⟨?_, rfl, rfl⟩
                    rw [op_alike, hxi, hxj]; dsimp only; rw [if_neg c20]
                    rw [sp_same]
                    rw [if_pos hcc, if_pos (by rw [← hmi]; exact c69), aw_b_f c85, Bool.false_and, Bool.and_false]; rfl
                  · refine aw_aload_0 S d_Md_alike_88 ?_
                    refine aw_iload_1 S d_Md_alike_89 ?_
                    refine aw_callVlR S (ev_Md_whole i hM (by omega) hTi.2.2.1 hTi.2.2.2.1 hTi.2.2.2.2.1 (aw_b_t c77)) mb_Md_whole mi_Md_whole n_ml_Md_207 d_Md_alike_90 I_Md hM.2.1 rfl rfl rfl ?_
                    refine aw_aload_0 S d_Md_alike_93 ?_
                    refine aw_iload_2 S d_Md_alike_94 ?_
                    refine aw_callVlR S (ev_Md_whole j hM (by omega) hTj.2.2.1 hTj.2.2.2.1 hTj.2.2.2.2.1 (aw_b_t c85)) mb_Md_whole mi_Md_whole n_ml_Md_207 d_Md_alike_95 I_Md hM.2.1 rfl rfl rfl ?_
                    refine aw_lcmp S d_Md_alike_98 ?_
                    refine aw_if_ne S 106 d_Md_alike_99 (by decide) (fun c99 => ?_) (fun c99 => ?_)
                    · refine aw_iconst (v := 0) S d_Md_alike_106 (by decide) ?_
                      refine aw_iret S rfl d_Md_alike_107 ?_ (by decide) (by decide)
                      refine ⟨?_, rfl, rfl⟩
                      rw [op_alike, hxi, hxj]; dsimp only; rw [if_neg c20]
                      rw [sp_same]
                      rw [if_pos hcc, if_pos (by rw [← hmi]; exact c69), decide_eq_false (fun z => c99 (cmp0.mpr z)), Bool.and_false, Bool.and_false]; rfl
                    · refine aw_iconst (v := 1) S d_Md_alike_102 (by decide) ?_
                      refine aw_goto S 107 d_Md_alike_103 (by decide) ?_
                      refine aw_iret S rfl d_Md_alike_107 ?_ (by decide) (by decide)
                      refine ⟨?_, rfl, rfl⟩
                      rw [op_alike, hxi, hxj]; dsimp only; rw [if_neg c20]
                      rw [sp_same]
                      rw [if_pos hcc, if_pos (by rw [← hmi]; exact c69), aw_b_t c77, aw_b_t c85, decide_eq_true (cmp0.mp c99)]; rfl
            · refine aw_iconst (v := 0) S d_Md_alike_60 (by decide) ?_
              refine aw_iret S rfl d_Md_alike_61 ?_ (by decide) (by decide)
              refine ⟨?_, rfl, rfl⟩
              rw [op_alike, hxi, hxj]; dsimp only; rw [if_neg c20]
              rw [sp_same]
              rw [if_neg (fun z => c57 (by rw [mN, mN, if_neg (by rw [z.1]; decide), if_neg (by rw [z.2.1]; decide)]; exact z.2.2))]; rfl
      · refine aw_iconst (v := 1) S d_Md_alike_23 (by decide) ?_
        refine aw_iret S rfl d_Md_alike_24 ?_ (by decide) (by decide)
        refine ⟨?_, rfl, rfl⟩
        rw [op_alike, hxi, hxj]; dsimp only; rw [if_pos c20]
    · refine aw_iconst (v := -1) S d_Md_alike_16 (by decide) ?_
      refine aw_iret S rfl d_Md_alike_17 ?_ (by decide) (by decide)
      have hn : ixOf ts.length b = none := Option.isNone_iff_eq_none.mp (Option.isSome_eq_false_iff.mp (aw_b_f c13))
      refine ⟨?_, rfl, rfl⟩
      rw [op_alike, hn]
      cases ixOf ts.length a <;> rfl
