/-! the reference: addresses told, print -/
theorem pre_iff : ∀ {ys xs : List Int32}, sp_pre ys xs = true ↔ ys.length ≤ xs.length ∧ ∀ z, z < ys.length → xs.getD z (-1) = ys.getD z (-1) := by
  intro ys
  induction ys with
  | nil => intro xs; simp [sp_pre]
  | cons a ys ih =>
    intro xs
    cases xs with
    | nil => simp [sp_pre]
    | cons b xs =>
      rw [sp_pre, Bool.and_eq_true, ih, decide_eq_true_iff]
      constructor
      · rintro ⟨h1, h2, h3⟩
        refine ⟨by simpa using h2, fun z hz => ?_⟩
        cases z with
        | zero => simpa using h1
        | succ z => simpa using h3 z (by simpa using hz)
      · rintro ⟨h1, h2⟩
        refine ⟨by simpa using h2 0 (by simp), by simpa using h1, fun z hz => ?_⟩
        simpa using h2 (z + 1) (by simpa using hz)
theorem tells_iff {ys xs : List Int32} : sp_tells ys xs = true ↔ ys.length ≤ xs.length ∧ (∀ z, z < ys.length → xs.getD z (-1) = ys.getD z (-1)) ∧ ∀ z, ys.length ≤ z → z < xs.length → sp_safe (xs.getD z (-1)) = true := by
  rw [sp_tells, Bool.and_eq_true, pre_iff, List.all_eq_true]
  constructor
  · rintro ⟨⟨h1, h2⟩, h3⟩
    refine ⟨h1, h2, fun z h4 h5 => h3 _ ?_⟩
    have := getD_mem (xs := xs.drop ys.length) (i := z - ys.length) (by rw [List.length_drop]; omega)
    rwa [getD_drop, show ys.length + (z - ys.length) = z by omega] at this
  · rintro ⟨h1, h2, h3⟩
    refine ⟨⟨h1, h2⟩, fun x hx => ?_⟩
    obtain ⟨i, hi, e⟩ := List.getElem_of_mem hx
    have := h3 (ys.length + i) (by omega) (by rw [List.length_drop] at hi; omega)
    rw [← getD_drop, getD_at hi, e] at this
    exact this
theorem safe_iff {b : Int32} : sp_safe b = true ↔ sp_let b = true ∨ sp_dig b = true ∨ b = 95 ∨ b = 45 := by
  simp only [sp_safe, sp_ld, Bool.or_eq_true, decide_eq_true_iff]
  constructor
  · rintro ((h | h) | h | h)
    · exact Or.inl h
    · exact Or.inr (Or.inl h)
    · exact Or.inr (Or.inr (Or.inl h))
    · exact Or.inr (Or.inr (Or.inr h))
  · rintro (h | h | h | h)
    · exact Or.inl (Or.inl h)
    · exact Or.inl (Or.inr h)
    · exact Or.inr (Or.inl h)
    · exact Or.inr (Or.inr h)
set_option maxRecDepth 100000 in
set_option maxHeartbeats 4000000 in
theorem ev_Md_shortens {l : Launch} {E : aw_E} {g : AH} {n : Nat} {g0 : AH} {d : Nat} {v : Nat → Int32} {f : Nat → Nat → Int32} {xs ys : List Int32} (q i t : Nat) (hM : mG E g0 d v f g) (hq : q < 8) (hi : i < 60) (ht : t < 60) (ha9 : f 9 q = nI t) (hz1 : f 3 i = nI xs.length) (hz2 : f 3 t = nI ys.length) (hl1 : xs.length ≤ 100) (hl2 : ys.length ≤ 100) (hB1 : mL (f 4) (100 * i) xs) (hB2 : mL (f 4) (100 * t) ys) : EV l E 3 0 0 y_Md_shortens c_Md_shortens 7 (some .boolean) g n [.ref d, .int (nI q), .int (nI i)] (aw_Pi (fun r_ g2 n2 => r_ = aw_b (sp_tells ys xs) ∧ g2 = g ∧ n2 = n)) := by
  refine aw_enter "AddressTermsModel" [some (.ref d), some (.int (nI q)), some (.int (nI i)), none, none, none, none] (by decide) rfl rfl (Nat.le_of_ble_eq_true rfl) ?_
  intro p e s m args below meth c S hnm
  have s141 : ∀ (b : Bool) (x y : Option Value), b = sp_tells ys xs → AW p l e { frames := 3, cells := 0, slots := 0, locals := 40 * 3 } s m args below meth c E 7 (aw_Z E (aw_Pi (fun r_ g2 n2 => r_ = aw_b (sp_tells ys xs) ∧ g2 = g ∧ n2 = n)) below args s 0 0) 0 0 g n 141 [some (.ref d), some (.int (nI q)), some (.int (nI i)), some (.int (nI t)), some (.int (aw_b b)), x, y] [] := by
    intro b x y hb
    refine aw_iload_4 S d_Md_shortens_141 ?_
    refine aw_zret S .boolean rfl (aw_bz _) d_Md_shortens_143 ?_ (by decide) (by decide)
    exact ⟨by rw [hb], rfl, rfl⟩
  have s32f : ∀ (k : Nat) (y : Option Value), sp_tells ys xs = false → AW p l e { frames := 3, cells := 0, slots := 0, locals := 40 * 3 } s m args below meth c E 7 (aw_Z E (aw_Pi (fun r_ g2 n2 => r_ = aw_b (sp_tells ys xs) ∧ g2 = g ∧ n2 = n)) below args s 0 0) 0 0 g n 32 [some (.ref d), some (.int (nI q)), some (.int (nI i)), some (.int (nI t)), some (.int 0), some (.int (nI k)), y] [] := by
    intro k y hne
    refine aw_iload_5 S d_Md_shortens_32 ?_
    refine aw_aload_0 S d_Md_shortens_34 ?_
    refine aw_getf S I_Md 5 hM.2.1 n_fl_Md_19 d_Md_shortens_35 rfl (by decide) ?_
    refine aw_iload_2 S d_Md_shortens_38 ?_
    refine aw_mld S hM 3 (by decide) (hz1) (show _ < 60 by omega) d_Md_shortens_39 ?_
    refine aw_icmp_ge S 141 d_Md_shortens_40 (by decide) (fun c40 => ?_) (fun c40 => ?_)
    · exact s141 false _ _ hne.symm
    · refine aw_iload_4 S d_Md_shortens_43 ?_
      refine aw_if_eq S 141 d_Md_shortens_45 (by decide) (fun c45 => ?_) (fun c45 => ?_)
      · exact s141 false _ _ hne.symm
      · exact absurd rfl c45
  have l32 : ∀ (j k : Nat) (y : Option Value), k + j = xs.length → ys.length ≤ xs.length → (∀ z, z < k → z < ys.length → xs.getD z (-1) = ys.getD z (-1)) → (∀ z, z < k → ys.length ≤ z → sp_safe (xs.getD z (-1)) = true) → AW p l e { frames := 3, cells := 0, slots := 0, locals := 40 * 3 } s m args below meth c E 7 (aw_Z E (aw_Pi (fun r_ g2 n2 => r_ = aw_b (sp_tells ys xs) ∧ g2 = g ∧ n2 = n)) below args s 0 0) 0 0 g n 32 [some (.ref d), some (.int (nI q)), some (.int (nI i)), some (.int (nI t)), some (.int 1), some (.int (nI k)), y] [] := by
    intro j
    induction j with
    | zero =>
      intro k y hk hle h1 h2
      refine aw_iload_5 S d_Md_shortens_32 ?_
      refine aw_aload_0 S d_Md_shortens_34 ?_
      refine aw_getf S I_Md 5 hM.2.1 n_fl_Md_19 d_Md_shortens_35 rfl (by decide) ?_
      refine aw_iload_2 S d_Md_shortens_38 ?_
      refine aw_mld S hM 3 (by decide) (hz1) (show _ < 60 by omega) d_Md_shortens_39 ?_
      refine aw_icmp_ge S 141 d_Md_shortens_40 (by decide) (fun c40 => ?_) (fun c40 => ?_)
      · exact s141 true _ _ (tells_iff.mpr ⟨hle, fun z hz => h1 z (by omega) hz, fun z ha hb => h2 z (by omega) ha⟩).symm
      · exact absurd (nI_le (by omega) (by omega)) c40
    | succ j ih =>
      intro k y hk hle h1 h2
      have hkx : k < xs.length := by omega
      refine aw_iload_5 S d_Md_shortens_32 ?_
      refine aw_aload_0 S d_Md_shortens_34 ?_
      refine aw_getf S I_Md 5 hM.2.1 n_fl_Md_19 d_Md_shortens_35 rfl (by decide) ?_
      refine aw_iload_2 S d_Md_shortens_38 ?_
      refine aw_mld S hM 3 (by decide) (hz1) (show _ < 60 by omega) d_Md_shortens_39 ?_
      refine aw_icmp_ge S 141 d_Md_shortens_40 (by decide) (fun c40 => ?_) (fun c40 => ?_)
      · exact absurd c40 (nI_ge (by omega) (by omega))
      · refine aw_iload_4 S d_Md_shortens_43 ?_
        refine aw_if_eq S 141 d_Md_shortens_45 (by decide) (fun c45 => ?_) (fun c45 => ?_)
        · exact absurd c45 (by decide)
        · refine aw_aload_0 S d_Md_shortens_48 ?_
          refine aw_getf S I_Md 6 hM.2.1 n_fl_Md_22 d_Md_shortens_49 rfl (by decide) ?_
          refine aw_bipush (v := 100) S d_Md_shortens_52 (by decide) ?_
          refine aw_iload_2 S d_Md_shortens_54 ?_
          refine aw_imul S d_Md_shortens_55 ?_
          refine aw_iload_5 S d_Md_shortens_56 ?_
          refine aw_iadd S d_Md_shortens_58 ?_
          refine aw_topi (ix100 (i) (k)) ?_
          refine aw_mld S hM 4 (by decide) (hB1 k hkx) (show _ < 6000 by omega) d_Md_shortens_59 ?_
          refine aw_istore_6 S d_Md_shortens_60 ?_
          refine aw_iload_5 S d_Md_shortens_62 ?_
          refine aw_aload_0 S d_Md_shortens_64 ?_
          refine aw_getf S I_Md 5 hM.2.1 n_fl_Md_19 d_Md_shortens_65 rfl (by decide) ?_
          refine aw_iload_3 S d_Md_shortens_68 ?_
          refine aw_mld S hM 3 (by decide) (hz2) (show _ < 60 by omega) d_Md_shortens_69 ?_
          refine aw_icmp_ge S 98 d_Md_shortens_70 (by decide) (fun c70 => ?_) (fun c70 => ?_)
          · rw [nI_leI (by omega) (by omega)] at c70
            refine aw_iload_6 S d_Md_shortens_98 ?_
            refine aw_callSiR S (ev_Md_isLetter (xs.getD k (-1))) mb_Md_isLetter n_st_Md_isLetter n_ml_Md_116 d_Md_shortens_100 rfl rfl ?_
            refine aw_if_ne S 128 d_Md_shortens_103 (by decide) (fun c103 => ?_) (fun c103 => ?_)
            · refine aw_iconst (v := 1) S d_Md_shortens_128 (by decide) ?_
              refine aw_goto S 133 d_Md_shortens_129 (by decide) ?_
              refine aw_istore_4 S d_Md_shortens_133 ?_
              refine aw_iinc_5 (v := nI (k + 1)) S d_Md_shortens_135 ((nI_succ (k)).symm) ?_
              refine aw_goto S 32 d_Md_shortens_138 (by decide) ?_
              refine ih (k + 1) _ (by omega) hle (fun z hz hy => ?_) (fun z hz hy => ?_)
              · rcases Nat.lt_or_ge z k with h | h
                · exact h1 z h hy
                · omega
              · rcases Nat.lt_or_ge z k with h | h
                · exact h2 z h hy
                · rw [show z = k by omega]; exact safe_iff.mpr (Or.inl (aw_b_t c103))
            · refine aw_iload_6 S d_Md_shortens_106 ?_
              refine aw_callSiR S (ev_Md_isDigit (xs.getD k (-1))) mb_Md_isDigit n_st_Md_isDigit n_ml_Md_85 d_Md_shortens_108 rfl rfl ?_
              refine aw_if_ne S 128 d_Md_shortens_111 (by decide) (fun c111 => ?_) (fun c111 => ?_)
              · refine aw_iconst (v := 1) S d_Md_shortens_128 (by decide) ?_
                refine aw_goto S 133 d_Md_shortens_129 (by decide) ?_
                refine aw_istore_4 S d_Md_shortens_133 ?_
                refine aw_iinc_5 (v := nI (k + 1)) S d_Md_shortens_135 ((nI_succ (k)).symm) ?_
                refine aw_goto S 32 d_Md_shortens_138 (by decide) ?_
                refine ih (k + 1) _ (by omega) hle (fun z hz hy => ?_) (fun z hz hy => ?_)
                · rcases Nat.lt_or_ge z k with h | h
                  · exact h1 z h hy
                  · omega
                · rcases Nat.lt_or_ge z k with h | h
                  · exact h2 z h hy
                  · rw [show z = k by omega]; exact safe_iff.mpr (Or.inr (Or.inl (aw_b_t c111)))
              · refine aw_iload_6 S d_Md_shortens_114 ?_
                refine aw_bipush (v := 95) S d_Md_shortens_116 (by decide) ?_
                refine aw_icmp_eq S 128 d_Md_shortens_118 (by decide) (fun c118 => ?_) (fun c118 => ?_)
                · refine aw_iconst (v := 1) S d_Md_shortens_128 (by decide) ?_
                  refine aw_goto S 133 d_Md_shortens_129 (by decide) ?_
                  refine aw_istore_4 S d_Md_shortens_133 ?_
                  refine aw_iinc_5 (v := nI (k + 1)) S d_Md_shortens_135 ((nI_succ (k)).symm) ?_
                  refine aw_goto S 32 d_Md_shortens_138 (by decide) ?_
                  refine ih (k + 1) _ (by omega) hle (fun z hz hy => ?_) (fun z hz hy => ?_)
                  · rcases Nat.lt_or_ge z k with h | h
                    · exact h1 z h hy
                    · omega
                  · rcases Nat.lt_or_ge z k with h | h
                    · exact h2 z h hy
                    · rw [show z = k by omega]; exact safe_iff.mpr (Or.inr (Or.inr (Or.inl c118)))
                · refine aw_iload_6 S d_Md_shortens_121 ?_
                  refine aw_bipush (v := 45) S d_Md_shortens_123 (by decide) ?_
                  refine aw_icmp_ne S 132 d_Md_shortens_125 (by decide) (fun c125 => ?_) (fun c125 => ?_)
                  · refine aw_iconst (v := 0) S d_Md_shortens_132 (by decide) ?_
                    refine aw_istore_4 S d_Md_shortens_133 ?_
                    refine aw_iinc_5 (v := nI (k + 1)) S d_Md_shortens_135 ((nI_succ (k)).symm) ?_
                    refine aw_goto S 32 d_Md_shortens_138 (by decide) ?_
                    refine s32f _ _ ?_
                    rw [Bool.eq_false_iff, Ne, tells_iff]
                    exact fun z => absurd (safe_iff.mp (z.2.2 k (by omega) hkx)) (by rw [aw_b_f c103, aw_b_f c111]; rintro (h | h | h | h); cases h; cases h; exact c118 h; exact c125 h)
                  · refine aw_iconst (v := 1) S d_Md_shortens_128 (by decide) ?_
                    refine aw_goto S 133 d_Md_shortens_129 (by decide) ?_
                    refine aw_istore_4 S d_Md_shortens_133 ?_
                    refine aw_iinc_5 (v := nI (k + 1)) S d_Md_shortens_135 ((nI_succ (k)).symm) ?_
                    refine aw_goto S 32 d_Md_shortens_138 (by decide) ?_
                    refine ih (k + 1) _ (by omega) hle (fun z hz hy => ?_) (fun z hz hy => ?_)
                    · rcases Nat.lt_or_ge z k with h | h
                      · exact h1 z h hy
                      · omega
                    · rcases Nat.lt_or_ge z k with h | h
                      · exact h2 z h hy
                      · rw [show z = k by omega]; exact safe_iff.mpr (Or.inr (Or.inr (Or.inr c125)))
          · rw [nI_leI (by omega) (by omega)] at c70
            refine aw_iload_6 S d_Md_shortens_73 ?_
            refine aw_aload_0 S d_Md_shortens_75 ?_
            refine aw_getf S I_Md 6 hM.2.1 n_fl_Md_22 d_Md_shortens_76 rfl (by decide) ?_
            refine aw_bipush (v := 100) S d_Md_shortens_79 (by decide) ?_
            refine aw_iload_3 S d_Md_shortens_81 ?_
            refine aw_imul S d_Md_shortens_82 ?_
            refine aw_iload_5 S d_Md_shortens_83 ?_
            refine aw_iadd S d_Md_shortens_85 ?_
            refine aw_topi (ix100 (t) (k)) ?_
            refine aw_mld S hM 4 (by decide) (hB2 k (by omega)) (show _ < 6000 by omega) d_Md_shortens_86 ?_
            refine aw_icmp_ne S 94 d_Md_shortens_87 (by decide) (fun c87 => ?_) (fun c87 => ?_)
            · refine aw_iconst (v := 0) S d_Md_shortens_94 (by decide) ?_
              refine aw_goto S 133 d_Md_shortens_95 (by decide) ?_
              refine aw_istore_4 S d_Md_shortens_133 ?_
              refine aw_iinc_5 (v := nI (k + 1)) S d_Md_shortens_135 ((nI_succ (k)).symm) ?_
              refine aw_goto S 32 d_Md_shortens_138 (by decide) ?_
              refine s32f _ _ ?_
              rw [Bool.eq_false_iff, Ne, tells_iff]
              exact fun z => c87 (z.2.1 k (by omega))
            · refine aw_iconst (v := 1) S d_Md_shortens_90 (by decide) ?_
              refine aw_goto S 133 d_Md_shortens_91 (by decide) ?_
              refine aw_istore_4 S d_Md_shortens_133 ?_
              refine aw_iinc_5 (v := nI (k + 1)) S d_Md_shortens_135 ((nI_succ (k)).symm) ?_
              refine aw_goto S 32 d_Md_shortens_138 (by decide) ?_
              refine ih (k + 1) _ (by omega) hle (fun z hz hy => ?_) (fun z hz hy => ?_)
              · rcases Nat.lt_or_ge z k with h | h
                · exact h1 z h hy
                · rw [show z = k by omega]; exact c87
              · rcases Nat.lt_or_ge z k with h | h
                · exact h2 z h hy
                · omega
  refine aw_aload_0 S d_Md_shortens_0 ?_
  refine aw_getf S I_Md 13 hM.2.1 n_fl_Md_41 d_Md_shortens_1 rfl (by decide) ?_
  refine aw_iload_1 S d_Md_shortens_4 ?_
  refine aw_mld S hM 9 (by decide) (ha9) (show _ < 8 by omega) d_Md_shortens_5 ?_
  refine aw_istore_3 S d_Md_shortens_6 ?_
  refine aw_aload_0 S d_Md_shortens_7 ?_
  refine aw_getf S I_Md 5 hM.2.1 n_fl_Md_19 d_Md_shortens_8 rfl (by decide) ?_
  refine aw_iload_3 S d_Md_shortens_11 ?_
  refine aw_mld S hM 3 (by decide) (hz2) (show _ < 60 by omega) d_Md_shortens_12 ?_
  refine aw_aload_0 S d_Md_shortens_13 ?_
  refine aw_getf S I_Md 5 hM.2.1 n_fl_Md_19 d_Md_shortens_14 rfl (by decide) ?_
  refine aw_iload_2 S d_Md_shortens_17 ?_
  refine aw_mld S hM 3 (by decide) (hz1) (show _ < 60 by omega) d_Md_shortens_18 ?_
  refine aw_icmp_gt S 26 d_Md_shortens_19 (by decide) (fun c19 => ?_) (fun c19 => ?_)
  · refine aw_iconst (v := 0) S d_Md_shortens_26 (by decide) ?_
    refine aw_istore_4 S d_Md_shortens_27 ?_
    refine aw_iconst (v := 0) S d_Md_shortens_29 (by decide) ?_
    refine aw_topi nI_0.symm ?_
    refine aw_istore_5 S d_Md_shortens_30 ?_
    refine s32f _ _ ?_
    rw [Bool.eq_false_iff, Ne, tells_iff]
    exact fun z => absurd c19 (nI_nlt z.1 (by omega))
  · refine aw_iconst (v := 1) S d_Md_shortens_22 (by decide) ?_
    refine aw_goto S 27 d_Md_shortens_23 (by decide) ?_
    refine aw_istore_4 S d_Md_shortens_27 ?_
    refine aw_iconst (v := 0) S d_Md_shortens_29 (by decide) ?_
    refine aw_topi nI_0.symm ?_
    refine aw_istore_5 S d_Md_shortens_30 ?_
    exact l32 _ 0 _ (Nat.zero_add _) (Nat.not_lt.mp (fun z => c19 (nI_lt z (by omega)))) (fun z h => absurd h (Nat.not_lt_zero z)) (fun z h => absurd h (Nat.not_lt_zero z))
theorem ord_lt {a b : Int32} : sp_ord a b < 0 ↔ a < b := by
  unfold sp_ord
  by_cases h : a = b
  · rw [if_pos h, h]
    exact ⟨fun z => absurd z (by decide), fun z => absurd z Int32.lt_irrefl⟩
  · rw [if_neg h]
    by_cases h2 : a < b
    · rw [if_pos h2]; exact ⟨fun _ => h2, fun _ => by decide⟩
    · rw [if_neg h2]; exact ⟨fun z => absurd z (by decide), fun z => absurd z h2⟩
set_option maxRecDepth 100000 in
set_option maxHeartbeats 4000000 in
theorem ev_Md_isNameBefore {l : Launch} {E : aw_E} {g : AH} {n : Nat} {g0 : AH} {d : Nat} {v : Nat → Int32} {f : Nat → Nat → Int32} {xs ys : List Int32} (i j0 : Nat) (hM : mG E g0 d v f g) (hi : i < 8) (hj : j0 < 8) (hz1 : f 7 i = nI xs.length) (hz2 : f 7 j0 = nI ys.length) (hl1 : xs.length ≤ 6) (hl2 : ys.length ≤ 6) (hB1 : mL (f 8) (6 * i) xs) (hB2 : mL (f 8) (6 * j0) ys) : EV l E 0 0 0 y_Md_isNameBefore c_Md_isNameBefore 4 (some .boolean) g n [.ref d, .int (nI i), .int (nI j0)] (aw_Pi (fun r_ g2 n2 => r_ = aw_b (decide (sp_cmp xs ys < 0)) ∧ g2 = g ∧ n2 = n)) := by
  refine aw_enter "AddressTermsModel" [some (.ref d), some (.int (nI i)), some (.int (nI j0)), none] (by decide) rfl rfl (Nat.le_of_ble_eq_true rfl) ?_
  intro p e s m args below meth c S hnm
  have loop : ∀ (j k : Nat), k + j = min xs.length ys.length → sp_cmp (xs.drop k) (ys.drop k) = sp_cmp xs ys → AW p l e { frames := 0, cells := 0, slots := 0, locals := 40 * 0 } s m args below meth c E 4 (aw_Z E (aw_Pi (fun r_ g2 n2 => r_ = aw_b (decide (sp_cmp xs ys < 0)) ∧ g2 = g ∧ n2 = n)) below args s 0 0) 0 0 g n 2 [some (.ref d), some (.int (nI i)), some (.int (nI j0)), some (.int (nI k))] [] := by
    intro j
    induction j with
    | zero =>
      intro k hk hv
      have hend : sp_cmp xs ys < 0 ↔ xs.length < ys.length := by
        rw [← hv, sp_cmp_end (by rcases Nat.le_total xs.length ys.length with h | h; exact Or.inl (List.drop_eq_nil_iff.mpr (by omega)); exact Or.inr (List.drop_eq_nil_iff.mpr (by omega))), List.length_drop, List.length_drop]
        by_cases h1 : xs.length = ys.length
        · rw [if_pos (by omega)]; exact ⟨fun z => absurd z (by decide), fun z => by omega⟩
        · rw [if_neg (by omega)]
          by_cases h2 : xs.length < ys.length
          · rw [if_pos (by omega)]; exact ⟨fun _ => h2, fun _ => by decide⟩
          · rw [if_neg (by omega)]; exact ⟨fun z => absurd z (by decide), fun z => absurd z h2⟩
      have fin : AW p l e { frames := 0, cells := 0, slots := 0, locals := 40 * 0 } s m args below meth c E 4 (aw_Z E (aw_Pi (fun r_ g2 n2 => r_ = aw_b (decide (sp_cmp xs ys < 0)) ∧ g2 = g ∧ n2 = n)) below args s 0 0) 0 0 g n 84 [some (.ref d), some (.int (nI i)), some (.int (nI j0)), some (.int (nI k))] [] := by
        refine aw_aload_0 S d_Md_isNameBefore_84 ?_
        refine aw_getf S I_Md 11 hM.2.1 n_fl_Md_35 d_Md_isNameBefore_85 rfl (by decide) ?_
        refine aw_iload_1 S d_Md_isNameBefore_88 ?_
        refine aw_mld S hM 7 (by decide) (hz1) (show _ < 8 by omega) d_Md_isNameBefore_89 ?_
        refine aw_aload_0 S d_Md_isNameBefore_90 ?_
        refine aw_getf S I_Md 11 hM.2.1 n_fl_Md_35 d_Md_isNameBefore_91 rfl (by decide) ?_
        refine aw_iload_2 S d_Md_isNameBefore_94 ?_
        refine aw_mld S hM 7 (by decide) (hz2) (show _ < 8 by omega) d_Md_isNameBefore_95 ?_
        refine aw_icmp_ge S 103 d_Md_isNameBefore_96 (by decide) (fun c96 => ?_) (fun c96 => ?_)
        · refine aw_iconst (v := 0) S d_Md_isNameBefore_103 (by decide) ?_
          refine aw_zret S .boolean rfl (by rfl) d_Md_isNameBefore_104 ?_ (by decide) (by decide)
          exact ⟨aw_b0 (decide_eq_false (fun z => absurd c96 (nI_ge (hend.mp z) (by omega)))), rfl, rfl⟩
        · refine aw_iconst (v := 1) S d_Md_isNameBefore_99 (by decide) ?_
          refine aw_goto S 104 d_Md_isNameBefore_100 (by decide) ?_
          refine aw_zret S .boolean rfl (by rfl) d_Md_isNameBefore_104 ?_ (by decide) (by decide)
          exact ⟨aw_b1 (decide_eq_true (hend.mpr (Nat.not_le.mp (fun z => c96 (nI_le z (by omega)))))), rfl, rfl⟩
      refine aw_iload_3 S d_Md_isNameBefore_2 ?_
      refine aw_aload_0 S d_Md_isNameBefore_3 ?_
      refine aw_getf S I_Md 11 hM.2.1 n_fl_Md_35 d_Md_isNameBefore_4 rfl (by decide) ?_
      refine aw_iload_1 S d_Md_isNameBefore_7 ?_
      refine aw_mld S hM 7 (by decide) (hz1) (show _ < 8 by omega) d_Md_isNameBefore_8 ?_
      refine aw_icmp_ge S 84 d_Md_isNameBefore_9 (by decide) (fun c9 => ?_) (fun c9 => ?_)
      · exact fin
      · rw [nI_leI (by omega) (by omega)] at c9
        refine aw_iload_3 S d_Md_isNameBefore_12 ?_
        refine aw_aload_0 S d_Md_isNameBefore_13 ?_
        refine aw_getf S I_Md 11 hM.2.1 n_fl_Md_35 d_Md_isNameBefore_14 rfl (by decide) ?_
        refine aw_iload_2 S d_Md_isNameBefore_17 ?_
        refine aw_mld S hM 7 (by decide) (hz2) (show _ < 8 by omega) d_Md_isNameBefore_18 ?_
        refine aw_icmp_ge S 84 d_Md_isNameBefore_19 (by decide) (fun c19 => ?_) (fun c19 => ?_)
        · exact fin
        · rw [nI_leI (by omega) (by omega)] at c19
          omega
    | succ j ih =>
      intro k hk hv
      have hkx : k < xs.length := by omega
      have hky : k < ys.length := by omega
      rw [drop_cons hkx, drop_cons hky, sp_cmp] at hv
      refine aw_iload_3 S d_Md_isNameBefore_2 ?_
      refine aw_aload_0 S d_Md_isNameBefore_3 ?_
      refine aw_getf S I_Md 11 hM.2.1 n_fl_Md_35 d_Md_isNameBefore_4 rfl (by decide) ?_
      refine aw_iload_1 S d_Md_isNameBefore_7 ?_
      refine aw_mld S hM 7 (by decide) (hz1) (show _ < 8 by omega) d_Md_isNameBefore_8 ?_
      refine aw_icmp_ge S 84 d_Md_isNameBefore_9 (by decide) (fun c9 => ?_) (fun c9 => ?_)
      · exact absurd c9 (nI_ge (by omega) (by omega))
      · refine aw_iload_3 S d_Md_isNameBefore_12 ?_
        refine aw_aload_0 S d_Md_isNameBefore_13 ?_
        refine aw_getf S I_Md 11 hM.2.1 n_fl_Md_35 d_Md_isNameBefore_14 rfl (by decide) ?_
        refine aw_iload_2 S d_Md_isNameBefore_17 ?_
        refine aw_mld S hM 7 (by decide) (hz2) (show _ < 8 by omega) d_Md_isNameBefore_18 ?_
        refine aw_icmp_ge S 84 d_Md_isNameBefore_19 (by decide) (fun c19 => ?_) (fun c19 => ?_)
        · exact absurd c19 (nI_ge (by omega) (by omega))
        · refine aw_aload_0 S d_Md_isNameBefore_22 ?_
          refine aw_getf S I_Md 12 hM.2.1 n_fl_Md_38 d_Md_isNameBefore_23 rfl (by decide) ?_
          refine aw_bipush (v := 6) S d_Md_isNameBefore_26 (by decide) ?_
          refine aw_iload_1 S d_Md_isNameBefore_28 ?_
          refine aw_imul S d_Md_isNameBefore_29 ?_
          refine aw_iload_3 S d_Md_isNameBefore_30 ?_
          refine aw_iadd S d_Md_isNameBefore_31 ?_
          refine aw_topi (ix6 (i) (k)) ?_
          refine aw_mld S hM 8 (by decide) (hB1 k hkx) (show _ < 48 by omega) d_Md_isNameBefore_32 ?_
          refine aw_aload_0 S d_Md_isNameBefore_33 ?_
          refine aw_getf S I_Md 12 hM.2.1 n_fl_Md_38 d_Md_isNameBefore_34 rfl (by decide) ?_
          refine aw_bipush (v := 6) S d_Md_isNameBefore_37 (by decide) ?_
          refine aw_iload_2 S d_Md_isNameBefore_39 ?_
          refine aw_imul S d_Md_isNameBefore_40 ?_
          refine aw_iload_3 S d_Md_isNameBefore_41 ?_
          refine aw_iadd S d_Md_isNameBefore_42 ?_
          refine aw_topi (ix6 (j0) (k)) ?_
          refine aw_mld S hM 8 (by decide) (hB2 k hky) (show _ < 48 by omega) d_Md_isNameBefore_43 ?_
          refine aw_icmp_eq S 78 d_Md_isNameBefore_44 (by decide) (fun c44 => ?_) (fun c44 => ?_)
          · refine aw_iinc_3 (v := nI (k + 1)) S d_Md_isNameBefore_78 ((nI_succ (k)).symm) ?_
            refine aw_goto S 2 d_Md_isNameBefore_81 (by decide) ?_
            rw [if_pos (ord0.mpr c44)] at hv
            exact ih (k + 1) (by omega) hv
          · rw [if_neg (fun z => c44 (ord0.mp z))] at hv
            refine aw_aload_0 S d_Md_isNameBefore_47 ?_
            refine aw_getf S I_Md 12 hM.2.1 n_fl_Md_38 d_Md_isNameBefore_48 rfl (by decide) ?_
            refine aw_bipush (v := 6) S d_Md_isNameBefore_51 (by decide) ?_
            refine aw_iload_1 S d_Md_isNameBefore_53 ?_
            refine aw_imul S d_Md_isNameBefore_54 ?_
            refine aw_iload_3 S d_Md_isNameBefore_55 ?_
            refine aw_iadd S d_Md_isNameBefore_56 ?_
            refine aw_topi (ix6 (i) (k)) ?_
            refine aw_mld S hM 8 (by decide) (hB1 k hkx) (show _ < 48 by omega) d_Md_isNameBefore_57 ?_
            refine aw_aload_0 S d_Md_isNameBefore_58 ?_
            refine aw_getf S I_Md 12 hM.2.1 n_fl_Md_38 d_Md_isNameBefore_59 rfl (by decide) ?_
            refine aw_bipush (v := 6) S d_Md_isNameBefore_62 (by decide) ?_
            refine aw_iload_2 S d_Md_isNameBefore_64 ?_
            refine aw_imul S d_Md_isNameBefore_65 ?_
            refine aw_iload_3 S d_Md_isNameBefore_66 ?_
            refine aw_iadd S d_Md_isNameBefore_67 ?_
            refine aw_topi (ix6 (j0) (k)) ?_
            refine aw_mld S hM 8 (by decide) (hB2 k hky) (show _ < 48 by omega) d_Md_isNameBefore_68 ?_
            refine aw_icmp_ge S 76 d_Md_isNameBefore_69 (by decide) (fun c69 => ?_) (fun c69 => ?_)
            · refine aw_iconst (v := 0) S d_Md_isNameBefore_76 (by decide) ?_
              refine aw_zret S .boolean rfl (by rfl) d_Md_isNameBefore_77 ?_ (by decide) (by decide)
              exact ⟨aw_b0 (decide_eq_false (by rw [← hv]; exact fun z => absurd (ord_lt.mp z) (Int32.not_lt.mpr c69))), rfl, rfl⟩
            · refine aw_iconst (v := 1) S d_Md_isNameBefore_72 (by decide) ?_
              refine aw_goto S 77 d_Md_isNameBefore_73 (by decide) ?_
              refine aw_zret S .boolean rfl (by rfl) d_Md_isNameBefore_77 ?_ (by decide) (by decide)
              exact ⟨aw_b1 (decide_eq_true (by rw [← hv]; exact ord_lt.mpr (Int32.not_le.mp c69))), rfl, rfl⟩
  refine aw_iconst (v := 0) S d_Md_isNameBefore_0 (by decide) ?_
  refine aw_topi nI_0.symm ?_
  refine aw_istore_3 S d_Md_isNameBefore_1 ?_
  exact loop _ 0 (Nat.zero_add _) rfl
set_option maxRecDepth 100000 in
set_option maxHeartbeats 4000000 in
theorem ev_Md_tellAddress {l : Launch} {E : aw_E} {g : AH} {n : Nat} {g0 : AH} {d : Nat} {v : Nat → Int32} {f : Nat → Nat → Int32} {tape : List Int32} {ts : List Tmv} {bt : Int32} {ps : List Pfv} {pr : List Int32} (i : Nat) (sh : Bool) (hM : mG E g0 d v f g) (hs : mSt v f tape ts bt ps pr) (h6 : v 6 = nI 0) (hi : i < ts.length) (hP : okP ts ps) : EV l E 4 0 0 y_Md_tellAddress c_Md_tellAddress 6 none g n [.ref d, .int (nI i), .int (aw_b sh)] (aw_Pv (fun g2 n2 => n2 = n ∧ ∃ v2 f2, mG E g0 d v2 f2 g2 ∧ mfr [6] [12] v v2 f f2 ∧ v2 6 = nI (sp_padr ts ps (tmG ts i).2.2.2.1 sh).length ∧ mL (f2 12) 0 (sp_padr ts ps (tmG ts i).2.2.2.1 sh))) := by
  obtain ⟨⟨tl, t0, tL⟩, ⟨nl, n1, nT⟩, b2, ⟨pl, p3, pP⟩, -⟩ := id hs
  refine aw_enter "AddressTermsModel" [some (.ref d), some (.int (nI i)), some (.int (aw_b sh)), none, none, none] (by decide) rfl rfl (Nat.le_of_ble_eq_true rfl) ?_
  intro p e s m args below meth c S hnm
  obtain ⟨T1, T2, T3, T4, T5, -⟩ := id (nT i hi)
  have pf : ∀ j, j < ps.length → f 9 j = nI (pfG ps j).2 ∧ f 7 j = nI (pfG ps j).1.length ∧ (pfG ps j).1.length ≤ 6 ∧ mL (f 8) (6 * j) (pfG ps j).1 ∧ (pfG ps j).2 < 60 ∧ f 3 (pfG ps j).2 = nI (pA ts ps j).length ∧ (pA ts ps j).length ≤ 100 ∧ mL (f 4) (100 * (pfG ps j).2) (pA ts ps j) := by
    intro j hj
    obtain ⟨y1, y2, y3, y4⟩ := pP j hj
    have hb := (hP j hj).1
    obtain ⟨-, -, z3, z4, z5, -⟩ := nT _ hb
    exact ⟨y4, y1, y2, y3, by omega, z3, z4, z5⟩
  have l195 : ∀ (b : Option Nat) (k0 j k : Nat) (v1 : Nat → Int32) (f1 : Nat → Nat → Int32) (g : AH) (R R0 : List Int32) (x : Option Value), mG E g0 d v1 f1 g → v1 6 = nI R.length → mL (f1 12) 0 R → mfr [6] [12] v v1 f f1 → (∀ j, b = some j → j < ps.length) → k + j = (tmG ts i).2.2.2.1.length → k0 ≤ k → R = R0 ++ ((tmG ts i).2.2.2.1.take k).drop k0 → R0.length ≤ 10 → R0 ++ (tmG ts i).2.2.2.1.drop k0 ++ (if b = none then [62] else []) = sp_padr ts ps (tmG ts i).2.2.2.1 sh → AW p l e { frames := 4, cells := 0, slots := 0, locals := 40 * 4 } s m args below meth c E 6 (aw_Z E (aw_Pv (fun g2 n2 => n2 = n ∧ ∃ v2 f2, mG E g0 d v2 f2 g2 ∧ mfr [6] [12] v v2 f f2 ∧ v2 6 = nI (sp_padr ts ps (tmG ts i).2.2.2.1 sh).length ∧ mL (f2 12) 0 (sp_padr ts ps (tmG ts i).2.2.2.1 sh))) below args s 0 0) 0 0 g n 195 [some (.ref d), some (.int (nI i)), some (.int (aw_b sh)), some (.int (oi b)), some (.int (nI k)), x] [] := by
    intro b k0 j
    induction j with
    | zero =>
      intro k v1 f1 g R R0 x hM h6 hL hf hbl hk hk0 hR hR0 he
      rw [List.take_of_length_le (by omega)] at hR
      have hRl := congrArg List.length hR
      rw [List.length_append, List.length_drop] at hRl
      cases b with
      | none =>
        rw [if_pos rfl, ← hR] at he
        refine aw_iload_4 S d_Md_tellAddress_195 ?_
        refine aw_aload_0 S d_Md_tellAddress_197 ?_
        refine aw_getf S I_Md 5 hM.2.1 n_fl_Md_19 d_Md_tellAddress_198 rfl (by decide) ?_
        refine aw_iload_1 S d_Md_tellAddress_201 ?_
        refine aw_mld S hM 3 (by decide) (((congrFun (hf.2 3 (by decide)) _).trans (T3))) (show _ < 60 by omega) d_Md_tellAddress_202 ?_
        refine aw_icmp_ge S 228 d_Md_tellAddress_203 (by decide) (fun c203 => ?_) (fun c203 => ?_)
        · refine aw_iload_3 S d_Md_tellAddress_228 ?_
          refine aw_if_ge S 238 d_Md_tellAddress_229 (by decide) (fun c229 => ?_) (fun c229 => ?_)
          · exact absurd c229 (by decide)
          · refine aw_aload_0 S d_Md_tellAddress_232 ?_
            refine aw_bipush (v := 62) S d_Md_tellAddress_233 (by decide) ?_
            refine aw_callVv0 S (ev_Md_tell 62 hM h6 hL (by omega)) mb_Md_tell mi_Md_tell n_ml_Md_229 d_Md_tellAddress_235 I_Md hM.2.1 rfl rfl rfl (fun g2_ n2_ h_ => ?_)
            obtain ⟨rfl, v3, f3, hM, hf3, h6, hL⟩ := h_
            refine aw_vret S rfl d_Md_tellAddress_238 ?_ (by decide) (by decide)
            rw [he] at h6 hL
            exact ⟨rfl, v3, f3, hM, hf.tr hf3, h6, hL⟩
        · exact absurd (nI_le (by omega) (by omega)) c203
      | some j0 =>
        rw [if_neg (by simp), List.append_nil, ← hR] at he
        have hjl := hbl j0 rfl
        refine aw_iload_4 S d_Md_tellAddress_195 ?_
        refine aw_aload_0 S d_Md_tellAddress_197 ?_
        refine aw_getf S I_Md 5 hM.2.1 n_fl_Md_19 d_Md_tellAddress_198 rfl (by decide) ?_
        refine aw_iload_1 S d_Md_tellAddress_201 ?_
        refine aw_mld S hM 3 (by decide) (((congrFun (hf.2 3 (by decide)) _).trans (T3))) (show _ < 60 by omega) d_Md_tellAddress_202 ?_
        refine aw_icmp_ge S 228 d_Md_tellAddress_203 (by decide) (fun c203 => ?_) (fun c203 => ?_)
        · refine aw_iload_3 S d_Md_tellAddress_228 ?_
          refine aw_if_ge S 238 d_Md_tellAddress_229 (by decide) (fun c229 => ?_) (fun c229 => ?_)
          · refine aw_vret S rfl d_Md_tellAddress_238 ?_ (by decide) (by decide)
            rw [he] at h6 hL
            exact ⟨rfl, v1, f1, hM, hf, h6, hL⟩
          · exact absurd (nI_pos' (n := j0) (by omega)) c229
        · exact absurd (nI_le (by omega) (by omega)) c203
    | succ j ih =>
      intro k v1 f1 g R R0 x hM h6 hL hf hbl hk hk0 hR hR0 he
      have hRl := congrArg List.length hR
      rw [List.length_append, seg_len (by omega)] at hRl
      refine aw_iload_4 S d_Md_tellAddress_195 ?_
      refine aw_aload_0 S d_Md_tellAddress_197 ?_
      refine aw_getf S I_Md 5 hM.2.1 n_fl_Md_19 d_Md_tellAddress_198 rfl (by decide) ?_
      refine aw_iload_1 S d_Md_tellAddress_201 ?_
      refine aw_mld S hM 3 (by decide) (((congrFun (hf.2 3 (by decide)) _).trans (T3))) (show _ < 60 by omega) d_Md_tellAddress_202 ?_
      refine aw_icmp_ge S 228 d_Md_tellAddress_203 (by decide) (fun c203 => ?_) (fun c203 => ?_)
      · exact absurd c203 (nI_ge (by omega) (by omega))
      · refine aw_aload_0 S d_Md_tellAddress_206 ?_
        refine aw_aload_0 S d_Md_tellAddress_207 ?_
        refine aw_getf S I_Md 6 hM.2.1 n_fl_Md_22 d_Md_tellAddress_208 rfl (by decide) ?_
        refine aw_bipush (v := 100) S d_Md_tellAddress_211 (by decide) ?_
        refine aw_iload_1 S d_Md_tellAddress_213 ?_
        refine aw_imul S d_Md_tellAddress_214 ?_
        refine aw_iload_4 S d_Md_tellAddress_215 ?_
        refine aw_iadd S d_Md_tellAddress_217 ?_
        refine aw_topi (ix100 (i) (k)) ?_
        refine aw_mld S hM 4 (by decide) (((congrFun (hf.2 4 (by decide)) _).trans (T5 k (by omega)))) (show _ < 6000 by omega) d_Md_tellAddress_218 ?_
        refine aw_callVv0 S (ev_Md_tell ((tmG ts i).2.2.2.1.getD k (-1)) hM h6 hL (by omega)) mb_Md_tell mi_Md_tell n_ml_Md_229 d_Md_tellAddress_219 I_Md hM.2.1 rfl rfl rfl (fun g2_ n2_ h_ => ?_)
        obtain ⟨rfl, v3, f3, hM, hf3, h6, hL⟩ := h_
        refine aw_iinc_4 (v := nI (k + 1)) S d_Md_tellAddress_222 ((nI_succ (k)).symm) ?_
        refine aw_goto S 195 d_Md_tellAddress_225 (by decide) ?_
        exact ih (k + 1) v3 f3 _ _ R0 _ hM h6 hL (hf.tr hf3) hbl (by omega) (by omega) (by rw [hR, seg_step hk0 (by omega), List.append_assoc]) hR0 he
  have l135 : ∀ (j0 j k : Nat) (v1 : Nat → Int32) (f1 : Nat → Nat → Int32) (g : AH) (R : List Int32) (x : Option Value), mG E g0 d v1 f1 g → v1 6 = nI R.length → mL (f1 12) 0 R → mfr [6] [12] v v1 f f1 → j0 < ps.length → k + j = (pfG ps j0).1.length → R = (pfG ps j0).1.take k → sp_padr ts ps (tmG ts i).2.2.2.1 sh = (pfG ps j0).1 ++ (58 :: (tmG ts i).2.2.2.1.drop (pA ts ps j0).length) → (pA ts ps j0).length ≤ (tmG ts i).2.2.2.1.length → AW p l e { frames := 4, cells := 0, slots := 0, locals := 40 * 4 } s m args below meth c E 6 (aw_Z E (aw_Pv (fun g2 n2 => n2 = n ∧ ∃ v2 f2, mG E g0 d v2 f2 g2 ∧ mfr [6] [12] v v2 f f2 ∧ v2 6 = nI (sp_padr ts ps (tmG ts i).2.2.2.1 sh).length ∧ mL (f2 12) 0 (sp_padr ts ps (tmG ts i).2.2.2.1 sh))) below args s 0 0) 0 0 g n 135 [some (.ref d), some (.int (nI i)), some (.int (aw_b sh)), some (.int (nI j0)), some (.int (nI k)), x] [] := by
    intro j0 j
    induction j with
    | zero =>
      intro k v1 f1 g R x hM h6 hL hf hjl hk hR he hle
      obtain ⟨y1, y2, y3, y4, y5, y6, y7, y8⟩ := pf j0 hjl
      rw [List.take_of_length_le (by omega)] at hR
      have hRl := congrArg List.length hR
      refine aw_iload_4 S d_Md_tellAddress_135 ?_
      refine aw_aload_0 S d_Md_tellAddress_137 ?_
      refine aw_getf S I_Md 11 hM.2.1 n_fl_Md_35 d_Md_tellAddress_138 rfl (by decide) ?_
      refine aw_iload_3 S d_Md_tellAddress_141 ?_
      refine aw_mld S hM 7 (by decide) (((congrFun (hf.2 7 (by decide)) _).trans (y2))) (show _ < 8 by omega) d_Md_tellAddress_142 ?_
      refine aw_icmp_ge S 168 d_Md_tellAddress_143 (by decide) (fun c143 => ?_) (fun c143 => ?_)
      · refine aw_aload_0 S d_Md_tellAddress_168 ?_
        refine aw_bipush (v := 58) S d_Md_tellAddress_169 (by decide) ?_
        refine aw_callVv0 S (ev_Md_tell 58 hM h6 hL (by omega)) mb_Md_tell mi_Md_tell n_ml_Md_229 d_Md_tellAddress_171 I_Md hM.2.1 rfl rfl rfl (fun g2_ n2_ h_ => ?_)
        obtain ⟨rfl, v3, f3, hM, hf3, h6, hL⟩ := h_
        refine aw_iload_3 S d_Md_tellAddress_174 ?_
        refine aw_if_ge S 182 d_Md_tellAddress_175 (by decide) (fun c175 => ?_) (fun c175 => ?_)
        · refine aw_aload_0 S d_Md_tellAddress_182 ?_
          refine aw_getf S I_Md 5 hM.2.1 n_fl_Md_19 d_Md_tellAddress_183 rfl (by decide) ?_
          refine aw_aload_0 S d_Md_tellAddress_186 ?_
          refine aw_getf S I_Md 13 hM.2.1 n_fl_Md_41 d_Md_tellAddress_187 rfl (by decide) ?_
          refine aw_iload_3 S d_Md_tellAddress_190 ?_
          refine aw_mld S hM 9 (by decide) ((congrFun ((hf.tr hf3).2 9 (by decide)) _).trans y1) (show _ < 8 by omega) d_Md_tellAddress_191 ?_
          refine aw_mld S hM 3 (by decide) ((congrFun ((hf.tr hf3).2 3 (by decide)) _).trans y6) (show _ < 60 by omega) d_Md_tellAddress_192 ?_
          refine aw_istore_4 S d_Md_tellAddress_193 ?_
          refine l195 (some j0) (pA ts ps j0).length (_ - (pA ts ps j0).length) (pA ts ps j0).length v3 f3 _ _ (R ++ [58]) _ hM h6 hL (hf.tr hf3) (fun j z => by cases z; exact hjl) (Nat.add_sub_cancel' hle) (Nat.le_refl _) (by rw [seg_nil, List.append_nil]) (by rw [List.length_append, List.length_singleton]; omega) ?_
          rw [if_neg (by simp), List.append_nil, he, hR]; simp
        · exact absurd (nI_pos' (by omega)) c175
      · exact absurd (nI_le (by omega) (by omega)) c143
    | succ j ih =>
      intro k v1 f1 g R x hM h6 hL hf hjl hk hR he hle
      obtain ⟨y1, y2, y3, y4, y5, y6, y7, y8⟩ := pf j0 hjl
      have hRl := congrArg List.length hR
      rw [List.length_take] at hRl
      refine aw_iload_4 S d_Md_tellAddress_135 ?_
      refine aw_aload_0 S d_Md_tellAddress_137 ?_
      refine aw_getf S I_Md 11 hM.2.1 n_fl_Md_35 d_Md_tellAddress_138 rfl (by decide) ?_
      refine aw_iload_3 S d_Md_tellAddress_141 ?_
      refine aw_mld S hM 7 (by decide) (((congrFun (hf.2 7 (by decide)) _).trans (y2))) (show _ < 8 by omega) d_Md_tellAddress_142 ?_
      refine aw_icmp_ge S 168 d_Md_tellAddress_143 (by decide) (fun c143 => ?_) (fun c143 => ?_)
      · exact absurd c143 (nI_ge (by omega) (by omega))
      · refine aw_aload_0 S d_Md_tellAddress_146 ?_
        refine aw_aload_0 S d_Md_tellAddress_147 ?_
        refine aw_getf S I_Md 12 hM.2.1 n_fl_Md_38 d_Md_tellAddress_148 rfl (by decide) ?_
        refine aw_bipush (v := 6) S d_Md_tellAddress_151 (by decide) ?_
        refine aw_iload_3 S d_Md_tellAddress_153 ?_
        refine aw_imul S d_Md_tellAddress_154 ?_
        refine aw_iload_4 S d_Md_tellAddress_155 ?_
        refine aw_iadd S d_Md_tellAddress_157 ?_
        refine aw_topi (ix6 (j0) (k)) ?_
        refine aw_mld S hM 8 (by decide) (((congrFun (hf.2 8 (by decide)) _).trans (y4 k (by omega)))) (show _ < 48 by omega) d_Md_tellAddress_158 ?_
        refine aw_callVv0 S (ev_Md_tell ((pfG ps j0).1.getD k (-1)) hM h6 hL (by omega)) mb_Md_tell mi_Md_tell n_ml_Md_229 d_Md_tellAddress_159 I_Md hM.2.1 rfl rfl rfl (fun g2_ n2_ h_ => ?_)
        obtain ⟨rfl, v3, f3, hM, hf3, h6, hL⟩ := h_
        refine aw_iinc_4 (v := nI (k + 1)) S d_Md_tellAddress_162 ((nI_succ (k)).symm) ?_
        refine aw_goto S 135 d_Md_tellAddress_165 (by decide) ?_
        exact ih (k + 1) v3 f3 _ _ _ hM h6 hL (hf.tr hf3) hjl (by omega) (by rw [hR, take_step (by omega)]) he hle
  have s119 : ∀ (b : Option Nat) (kk : Int32) (x : Option Value), b = (if sh then sp_bst ts ps (tmG ts i).2.2.2.1 ps.length else none) → AW p l e { frames := 4, cells := 0, slots := 0, locals := 40 * 4 } s m args below meth c E 6 (aw_Z E (aw_Pv (fun g2 n2 => n2 = n ∧ ∃ v2 f2, mG E g0 d v2 f2 g2 ∧ mfr [6] [12] v v2 f f2 ∧ v2 6 = nI (sp_padr ts ps (tmG ts i).2.2.2.1 sh).length ∧ mL (f2 12) 0 (sp_padr ts ps (tmG ts i).2.2.2.1 sh))) below args s 0 0) 0 0 g n 119 [some (.ref d), some (.int (nI i)), some (.int (aw_b sh)), some (.int (oi b)), some (.int kk), x] [] := by
    intro b kk x hb
    cases b with
    | none =>
      have he : sp_padr ts ps (tmG ts i).2.2.2.1 sh = 60 :: ((tmG ts i).2.2.2.1 ++ [62]) := by rw [sp_padr, ← hb]
      refine aw_iload_3 S d_Md_tellAddress_119 ?_
      refine aw_if_ge S 132 d_Md_tellAddress_120 (by decide) (fun c120 => ?_) (fun c120 => ?_)
      · exact absurd c120 (by decide)
      · refine aw_aload_0 S d_Md_tellAddress_123 ?_
        refine aw_bipush (v := 60) S d_Md_tellAddress_124 (by decide) ?_
        refine aw_callVv0 S (ev_Md_tell (xs := []) 60 hM h6 mL.nil (by decide)) mb_Md_tell mi_Md_tell n_ml_Md_229 d_Md_tellAddress_126 I_Md hM.2.1 rfl rfl rfl (fun g2_ n2_ h_ => ?_)
        obtain ⟨rfl, v3, f3, hM, hf3, h6, hL⟩ := h_
        refine aw_goto S 174 d_Md_tellAddress_129 (by decide) ?_
        refine aw_iload_3 S d_Md_tellAddress_174 ?_
        refine aw_if_ge S 182 d_Md_tellAddress_175 (by decide) (fun c175 => ?_) (fun c175 => ?_)
        · exact absurd c175 (by decide)
        · refine aw_iconst (v := 0) S d_Md_tellAddress_178 (by decide) ?_
          refine aw_topi nI_0.symm ?_
          refine aw_goto S 193 d_Md_tellAddress_179 (by decide) ?_
          refine aw_istore_4 S d_Md_tellAddress_193 ?_
          refine l195 none 0 _ 0 v3 f3 _ _ [60] _ hM h6 hL hf3 (fun j z => by cases z) (Nat.zero_add _) (Nat.le_refl _) (by rw [seg_nil]; rfl) (by decide) ?_
          rw [if_pos rfl, he]; rfl
    | some j0 =>
      have hsh : sh = true := by cases sh with | true => rfl | false => cases hb
      rw [hsh] at hb
      have hb : some j0 = sp_bst ts ps (tmG ts i).2.2.2.1 ps.length := hb
      have hjl := bst_lt hb.symm
      have htl := (tells_iff.mp (bst_tells hb.symm)).1
      have he : sp_padr ts ps (tmG ts i).2.2.2.1 sh = (pfG ps j0).1 ++ (58 :: (tmG ts i).2.2.2.1.drop (pA ts ps j0).length) := by rw [sp_padr, hsh, if_pos rfl, ← hb]
      refine aw_iload_3 S d_Md_tellAddress_119 ?_
      refine aw_if_ge S 132 d_Md_tellAddress_120 (by decide) (fun c120 => ?_) (fun c120 => ?_)
      · refine aw_iconst (v := 0) S d_Md_tellAddress_132 (by decide) ?_
        refine aw_topi nI_0.symm ?_
        refine aw_istore_4 S d_Md_tellAddress_133 ?_
        exact l135 j0 _ 0 v f _ [] _ hM h6 mL.nil mfr.rf hjl (Nat.zero_add _) (by rw [List.take_zero]) he htl
      · exact absurd (nI_pos' (n := j0) (by omega)) c120
  have l5 : ∀ (j k : Nat) (x : Option Value), sh = true → k + j = ps.length → AW p l e { frames := 4, cells := 0, slots := 0, locals := 40 * 4 } s m args below meth c E 6 (aw_Z E (aw_Pv (fun g2 n2 => n2 = n ∧ ∃ v2 f2, mG E g0 d v2 f2 g2 ∧ mfr [6] [12] v v2 f f2 ∧ v2 6 = nI (sp_padr ts ps (tmG ts i).2.2.2.1 sh).length ∧ mL (f2 12) 0 (sp_padr ts ps (tmG ts i).2.2.2.1 sh))) below args s 0 0) 0 0 g n 5 [some (.ref d), some (.int (nI i)), some (.int (aw_b sh)), some (.int (oi (sp_bst ts ps (tmG ts i).2.2.2.1 k))), some (.int (nI k)), x] [] := by
    intro j
    induction j with
    | zero =>
      intro k x hsh hk
      refine aw_iload_4 S d_Md_tellAddress_5 ?_
      refine aw_aload_0 S d_Md_tellAddress_7 ?_
      refine aw_getf S I_Md 10 hM.2.1 n_fl_Md_187 d_Md_tellAddress_8 rfl (by decide) ?_
      refine aw_topi p3 ?_
      refine aw_icmp_ge S 119 d_Md_tellAddress_11 (by decide) (fun c11 => ?_) (fun c11 => ?_)
      · exact s119 _ _ _ (by rw [hsh, if_pos rfl, show k = ps.length by omega])
      · exact absurd (nI_le (by omega) (by omega)) c11
    | succ j ih =>
      intro k x hsh hk
      have hkl : k < ps.length := by omega
      obtain ⟨y1, y2, y3, y4, y5, y6, y7, y8⟩ := pf k hkl
      have hst : sp_bst ts ps (tmG ts i).2.2.2.1 (k + 1) = if sp_bc ts ps (tmG ts i).2.2.2.1 (sp_bst ts ps (tmG ts i).2.2.2.1 k) k = true then some k else sp_bst ts ps (tmG ts i).2.2.2.1 k := rfl
      have hbl : ∀ j, sp_bst ts ps (tmG ts i).2.2.2.1 k = some j → j < ps.length := fun j z => Nat.lt_trans (bst_lt z) hkl
      generalize sp_bst ts ps (tmG ts i).2.2.2.1 k = bb at hst hbl
      have s91 : ∀ (q : Bool), sp_bc ts ps (tmG ts i).2.2.2.1 bb k = (sp_tells (pA ts ps k) (tmG ts i).2.2.2.1 && q) → AW p l e { frames := 4, cells := 0, slots := 0, locals := 40 * 4 } s m args below meth c E 6 (aw_Z E (aw_Pv (fun g2 n2 => n2 = n ∧ ∃ v2 f2, mG E g0 d v2 f2 g2 ∧ mfr [6] [12] v v2 f f2 ∧ v2 6 = nI (sp_padr ts ps (tmG ts i).2.2.2.1 sh).length ∧ mL (f2 12) 0 (sp_padr ts ps (tmG ts i).2.2.2.1 sh))) below args s 0 0) 0 0 g n 91 [some (.ref d), some (.int (nI i)), some (.int (aw_b sh)), some (.int (oi bb)), some (.int (nI k)), some (.int (aw_b q))] [] := by
        intro q hq
        refine aw_aload_0 S d_Md_tellAddress_91 ?_
        refine aw_iload_4 S d_Md_tellAddress_92 ?_
        refine aw_iload_1 S d_Md_tellAddress_94 ?_
        refine aw_callViR S (ev_Md_shortens k i (pfG ps k).2 hM (by omega) (by omega) y5 y1 T3 y6 T4 y7 T5 y8) mb_Md_shortens mi_Md_shortens n_ml_Md_246 d_Md_tellAddress_95 I_Md hM.2.1 rfl rfl rfl ?_
        refine aw_if_eq S 111 d_Md_tellAddress_98 (by decide) (fun c98 => ?_) (fun c98 => ?_)
        · refine aw_iload_3 S d_Md_tellAddress_111 ?_
          refine aw_istore_3 S d_Md_tellAddress_112 ?_
          refine aw_iinc_4 (v := nI (k + 1)) S d_Md_tellAddress_113 ((nI_succ (k)).symm) ?_
          refine aw_goto S 5 d_Md_tellAddress_116 (by decide) ?_
          rw [if_neg (by rw [hq, aw_b_f c98, Bool.false_and]; decide)] at hst
          have := ih (k + 1) (some (.int (aw_b q))) hsh (by omega)
          rw [hst] at this
          exact this
        · refine aw_iload_5 S d_Md_tellAddress_101 ?_
          refine aw_if_eq S 111 d_Md_tellAddress_103 (by decide) (fun c103 => ?_) (fun c103 => ?_)
          · refine aw_iload_3 S d_Md_tellAddress_111 ?_
            refine aw_istore_3 S d_Md_tellAddress_112 ?_
            refine aw_iinc_4 (v := nI (k + 1)) S d_Md_tellAddress_113 ((nI_succ (k)).symm) ?_
            refine aw_goto S 5 d_Md_tellAddress_116 (by decide) ?_
            rw [if_neg (by rw [hq, aw_b_f c103, Bool.and_false]; decide)] at hst
            have := ih (k + 1) (some (.int (aw_b q))) hsh (by omega)
            rw [hst] at this
            exact this
          · refine aw_iload_4 S d_Md_tellAddress_106 ?_
            refine aw_goto S 112 d_Md_tellAddress_108 (by decide) ?_
            refine aw_istore_3 S d_Md_tellAddress_112 ?_
            refine aw_iinc_4 (v := nI (k + 1)) S d_Md_tellAddress_113 ((nI_succ (k)).symm) ?_
            refine aw_goto S 5 d_Md_tellAddress_116 (by decide) ?_
            rw [if_pos (by rw [hq, aw_b_t c98, aw_b_t c103]; rfl)] at hst
            have := ih (k + 1) (some (.int (aw_b q))) hsh (by omega)
            rw [hst] at this
            exact this
      cases bb with
      | none =>
        refine aw_iload_4 S d_Md_tellAddress_5 ?_
        refine aw_aload_0 S d_Md_tellAddress_7 ?_
        refine aw_getf S I_Md 10 hM.2.1 n_fl_Md_187 d_Md_tellAddress_8 rfl (by decide) ?_
        refine aw_topi p3 ?_
        refine aw_icmp_ge S 119 d_Md_tellAddress_11 (by decide) (fun c11 => ?_) (fun c11 => ?_)
        · exact absurd c11 (nI_ge (by omega) (by omega))
        · refine aw_iload_2 S d_Md_tellAddress_14 ?_
          refine aw_if_eq S 119 d_Md_tellAddress_15 (by decide) (fun c15 => ?_) (fun c15 => ?_)
          · rw [hsh] at c15; exact absurd c15 (by decide)
          · refine aw_iload_3 S d_Md_tellAddress_18 ?_
            refine aw_if_lt S 84 d_Md_tellAddress_19 (by decide) (fun c19 => ?_) (fun c19 => ?_)
            · refine aw_iconst (v := 1) S d_Md_tellAddress_84 (by decide) ?_
              refine aw_goto S 89 d_Md_tellAddress_85 (by decide) ?_
              refine aw_istore_5 S d_Md_tellAddress_89 ?_
              exact s91 true rfl
            · exact absurd (show (-1 : Int32) < 0 by decide) c19
      | some j0 =>
        have hjl := hbl j0 rfl
        obtain ⟨u1, u2, u3, u4, u5, u6, u7, u8⟩ := pf j0 hjl
        have hbc : sp_bc ts ps (tmG ts i).2.2.2.1 (some j0) k = (sp_tells (pA ts ps k) (tmG ts i).2.2.2.1 && sp_better (pA ts ps k).length (pfG ps k).1 (pA ts ps j0).length (pfG ps j0).1) := rfl
        refine aw_iload_4 S d_Md_tellAddress_5 ?_
        refine aw_aload_0 S d_Md_tellAddress_7 ?_
        refine aw_getf S I_Md 10 hM.2.1 n_fl_Md_187 d_Md_tellAddress_8 rfl (by decide) ?_
        refine aw_topi p3 ?_
        refine aw_icmp_ge S 119 d_Md_tellAddress_11 (by decide) (fun c11 => ?_) (fun c11 => ?_)
        · exact absurd c11 (nI_ge (by omega) (by omega))
        · refine aw_iload_2 S d_Md_tellAddress_14 ?_
          refine aw_if_eq S 119 d_Md_tellAddress_15 (by decide) (fun c15 => ?_) (fun c15 => ?_)
          · rw [hsh] at c15; exact absurd c15 (by decide)
          · refine aw_iload_3 S d_Md_tellAddress_18 ?_
            refine aw_if_lt S 84 d_Md_tellAddress_19 (by decide) (fun c19 => ?_) (fun c19 => ?_)
            · exact absurd c19 (nI_pos (n := j0) (by omega))
            · refine aw_aload_0 S d_Md_tellAddress_22 ?_
              refine aw_getf S I_Md 5 hM.2.1 n_fl_Md_19 d_Md_tellAddress_23 rfl (by decide) ?_
              refine aw_aload_0 S d_Md_tellAddress_26 ?_
              refine aw_getf S I_Md 13 hM.2.1 n_fl_Md_41 d_Md_tellAddress_27 rfl (by decide) ?_
              refine aw_iload_4 S d_Md_tellAddress_30 ?_
              refine aw_mld S hM 9 (by decide) (y1) (show _ < 8 by omega) d_Md_tellAddress_32 ?_
              refine aw_mld S hM 3 (by decide) (y6) (show _ < 60 by omega) d_Md_tellAddress_33 ?_
              refine aw_aload_0 S d_Md_tellAddress_34 ?_
              refine aw_getf S I_Md 5 hM.2.1 n_fl_Md_19 d_Md_tellAddress_35 rfl (by decide) ?_
              refine aw_aload_0 S d_Md_tellAddress_38 ?_
              refine aw_getf S I_Md 13 hM.2.1 n_fl_Md_41 d_Md_tellAddress_39 rfl (by decide) ?_
              refine aw_iload_3 S d_Md_tellAddress_42 ?_
              refine aw_mld S hM 9 (by decide) (u1) (show _ < 8 by omega) d_Md_tellAddress_43 ?_
              refine aw_mld S hM 3 (by decide) (u6) (show _ < 60 by omega) d_Md_tellAddress_44 ?_
              refine aw_icmp_gt S 84 d_Md_tellAddress_45 (by decide) (fun c45 => ?_) (fun c45 => ?_)
              · refine aw_iconst (v := 1) S d_Md_tellAddress_84 (by decide) ?_
                refine aw_goto S 89 d_Md_tellAddress_85 (by decide) ?_
                refine aw_istore_5 S d_Md_tellAddress_89 ?_
                refine s91 true (hbc.trans ?_)
                congr 1
                rw [sp_better, if_neg (fun z => absurd (ord0.mp z) (fun e => absurd c45 (by rw [e]; exact Int32.lt_irrefl))), decide_eq_true (ord_lt.mpr c45)]
              · refine aw_aload_0 S d_Md_tellAddress_48 ?_
                refine aw_getf S I_Md 5 hM.2.1 n_fl_Md_19 d_Md_tellAddress_49 rfl (by decide) ?_
                refine aw_aload_0 S d_Md_tellAddress_52 ?_
                refine aw_getf S I_Md 13 hM.2.1 n_fl_Md_41 d_Md_tellAddress_53 rfl (by decide) ?_
                refine aw_iload_4 S d_Md_tellAddress_56 ?_
                refine aw_mld S hM 9 (by decide) (y1) (show _ < 8 by omega) d_Md_tellAddress_58 ?_
                refine aw_mld S hM 3 (by decide) (y6) (show _ < 60 by omega) d_Md_tellAddress_59 ?_
                refine aw_aload_0 S d_Md_tellAddress_60 ?_
                refine aw_getf S I_Md 5 hM.2.1 n_fl_Md_19 d_Md_tellAddress_61 rfl (by decide) ?_
                refine aw_aload_0 S d_Md_tellAddress_64 ?_
                refine aw_getf S I_Md 13 hM.2.1 n_fl_Md_41 d_Md_tellAddress_65 rfl (by decide) ?_
                refine aw_iload_3 S d_Md_tellAddress_68 ?_
                refine aw_mld S hM 9 (by decide) (u1) (show _ < 8 by omega) d_Md_tellAddress_69 ?_
                refine aw_mld S hM 3 (by decide) (u6) (show _ < 60 by omega) d_Md_tellAddress_70 ?_
                refine aw_icmp_ne S 88 d_Md_tellAddress_71 (by decide) (fun c71 => ?_) (fun c71 => ?_)
                · refine aw_iconst (v := 0) S d_Md_tellAddress_88 (by decide) ?_
                  refine aw_istore_5 S d_Md_tellAddress_89 ?_
                  refine s91 false (hbc.trans ?_)
                  congr 1
                  rw [sp_better, if_neg (fun z => c71 (ord0.mp z).symm), decide_eq_false (fun z => c45 (ord_lt.mp z))]
                · refine aw_aload_0 S d_Md_tellAddress_74 ?_
                  refine aw_iload_4 S d_Md_tellAddress_75 ?_
                  refine aw_iload_3 S d_Md_tellAddress_77 ?_
                  refine aw_callViR S (ev_Md_isNameBefore k j0 hM (by omega) (by omega) y2 u2 y3 u3 y4 u4) mb_Md_isNameBefore mi_Md_isNameBefore n_ml_Md_242 d_Md_tellAddress_78 I_Md hM.2.1 rfl rfl rfl ?_
                  refine aw_if_eq S 88 d_Md_tellAddress_81 (by decide) (fun c81 => ?_) (fun c81 => ?_)
                  · refine aw_iconst (v := 0) S d_Md_tellAddress_88 (by decide) ?_
                    refine aw_istore_5 S d_Md_tellAddress_89 ?_
                    refine s91 false (hbc.trans ?_)
                    congr 1
                    rw [sp_better, if_pos (ord0.mpr c71.symm)]
                    exact aw_b_f c81
                  · refine aw_iconst (v := 1) S d_Md_tellAddress_84 (by decide) ?_
                    refine aw_goto S 89 d_Md_tellAddress_85 (by decide) ?_
                    refine aw_istore_5 S d_Md_tellAddress_89 ?_
                    refine s91 true (hbc.trans ?_)
                    congr 1
                    rw [sp_better, if_pos (ord0.mpr c71.symm)]
                    exact aw_b_t c81
  refine aw_iconst (v := -1) S d_Md_tellAddress_0 (by decide) ?_
  refine aw_istore_3 S d_Md_tellAddress_1 ?_
  refine aw_iconst (v := 0) S d_Md_tellAddress_2 (by decide) ?_
  refine aw_topi nI_0.symm ?_
  refine aw_istore_4 S d_Md_tellAddress_3 ?_
  cases hsh : sh with
  | true => rw [hsh] at l5; exact l5 ps.length 0 none rfl (Nat.zero_add _)
  | false =>
    rw [hsh] at s119
    refine aw_iload_4 S d_Md_tellAddress_5 ?_
    refine aw_aload_0 S d_Md_tellAddress_7 ?_
    refine aw_getf S I_Md 10 hM.2.1 n_fl_Md_187 d_Md_tellAddress_8 rfl (by decide) ?_
    refine aw_topi p3 ?_
    refine aw_icmp_ge S 119 d_Md_tellAddress_11 (by decide) (fun c11 => ?_) (fun c11 => ?_)
    · exact s119 none _ _ rfl
    · refine aw_iload_2 S d_Md_tellAddress_14 ?_
      refine aw_if_eq S 119 d_Md_tellAddress_15 (by decide) (fun c15 => ?_) (fun c15 => ?_)
      · exact s119 none _ _ rfl
      · exact absurd rfl c15
theorem padr_len {ts : List Tmv} {ps : List Pfv} {xs : List Int32} {sh : Bool} (hx : xs.length ≤ 100) (hN : ∀ j, j < ps.length → (pfG ps j).1.length ≤ 6) : (sp_padr ts ps xs sh).length ≤ 300 := by
  unfold sp_padr
  cases hb : (if sh then sp_bst ts ps xs ps.length else none) with
  | none => simp; omega
  | some j =>
    cases sh with
    | false => cases hb
    | true =>
      have hb : sp_bst ts ps xs ps.length = some j := hb
      have := hN j (bst_lt hb)
      simp only [List.length_append, List.length_cons, List.length_drop]
      omega
theorem fm01 {fm : Int32} : sp_in fm 0 1 = true ↔ fm = 0 ∨ fm = 1 := by
  constructor
  · intro h
    obtain ⟨j, hj, -, rfl⟩ := in_nat (lo := 0) (hi := 1) (by decide) (by decide) h
    have : ∀ j, j < 2 → (nI j = 0 ∨ nI j = 1) := by decide +kernel
    exact this j (by omega)
  · rintro (h | h) <;> rw [h] <;> decide
set_option maxRecDepth 100000 in
set_option maxHeartbeats 4000000 in
theorem ev_Md_print {l : Launch} {E : aw_E} {g : AH} {n : Nat} {g0 : AH} {d : Nat} {v : Nat → Int32} {f : Nat → Nat → Int32} {tape : List Int32} {ts : List Tmv} {bt : Int32} {ps : List Pfv} {pr : List Int32} (q fm : Int32) (hM : mG E g0 d v f g) (hs : mSt v f tape ts bt ps pr) (hok : okT ts) (hP : okP ts ps) : EV l E 5 0 0 y_Md_print c_Md_print 3 (some .int) g n [.ref d, .int q, .int fm] (aw_Pi (fun r_ g2 n2 => r_ = op_prtR ts ps q fm ∧ n2 = n ∧ mS E g0 d g2 (tape) (ts) (bt) (ps) (op_prtP ts ps pr q fm))) := by
  obtain ⟨⟨tl, t0, tL⟩, ⟨nl, n1, nT⟩, b2, ⟨pl, p3, pP⟩, ⟨ql, q6, qL⟩⟩ := id hs
  refine aw_enter "AddressTermsModel" [some (.ref d), some (.int q), some (.int fm)] (by decide) rfl rfl (Nat.le_of_ble_eq_true rfl) ?_
  intro p e s m args below meth c S hnm
  have s87 : ∀ (i : Nat) (v1 : Nat → Int32) (f1 : Nat → Nat → Int32) (g : AH), mG E g0 d v1 f1 g → ixOf ts.length q = some i → (fm = 0 ∨ fm = 1) → v1 6 = nI (sp_prt ts ps i (decide (fm = 1))).length → mSt v1 f1 tape ts bt ps (sp_prt ts ps i (decide (fm = 1))) → AW p l e { frames := 5, cells := 0, slots := 0, locals := 40 * 5 } s m args below meth c E 3 (aw_Z E (aw_Pi (fun r_ g2 n2 => r_ = op_prtR ts ps q fm ∧ n2 = n ∧ mS E g0 d g2 (tape) (ts) (bt) (ps) (op_prtP ts ps pr q fm))) below args s 0 0) 0 0 g n 87 [some (.ref d), some (.int (nI i)), some (.int fm)] [] := by
    intro i v1 f1 g hM hx hf h6 hs1
    refine aw_aload_0 S d_Md_print_87 ?_
    refine aw_getf S I_Md 18 hM.2.1 n_fl_Md_226 d_Md_print_88 rfl (by decide) ?_
    refine aw_topi h6 ?_
    refine aw_iret S rfl d_Md_print_91 ?_ (by decide) (by decide)
    refine ⟨?_, rfl, v1, f1, hM, ?_⟩
    · rw [op_prtR, hx]; dsimp only; rw [if_pos hf]
    · rw [op_prtP, hx]; dsimp only; rw [if_pos hf]; exact hs1
  refine aw_aload_0 S d_Md_print_0 ?_
  refine aw_iload_1 S d_Md_print_1 ?_
  refine aw_callViR S (ev_Md_isTerm q hM hs) mb_Md_isTerm mi_Md_isTerm n_ml_Md_103 d_Md_print_2 I_Md hM.2.1 rfl rfl rfl ?_
  refine aw_if_eq S 17 d_Md_print_5 (by decide) (fun c5 => ?_) (fun c5 => ?_)
  · refine aw_iconst (v := -1) S d_Md_print_17 (by decide) ?_
    refine aw_iret S rfl d_Md_print_18 ?_ (by decide) (by decide)
    have hn : ixOf ts.length q = none := Option.isNone_iff_eq_none.mp (Option.isSome_eq_false_iff.mp (aw_b_f c5))
    refine ⟨?_, rfl, v, f, hM, ?_⟩
    · rw [op_prtR, hn]
    · rw [op_prtP, hn]; exact hs
  · refine aw_iload_2 S d_Md_print_8 ?_
    refine aw_iconst (v := 0) S d_Md_print_9 (by decide) ?_
    refine aw_iconst (v := 1) S d_Md_print_10 (by decide) ?_
    refine aw_callSiR S (ev_Md_is fm 0 1) mb_Md_is n_st_Md_is n_ml_Md_77 d_Md_print_11 rfl rfl ?_
    refine aw_if_ne S 19 d_Md_print_14 (by decide) (fun c14 => ?_) (fun c14 => ?_)
    · have hfm := fm01.mp (aw_b_t c14)
      obtain hn | ⟨i, hi, rfl, hx⟩ := ixOf_cases q (show ts.length < 2 ^ 31 by omega)
      · have := aw_b_t c5; rw [hn] at this; cases this
      have hT := nT i hi
      have hokv := hok i hi
      refine aw_aload_0 S d_Md_print_19 ?_
      refine aw_iconst (v := 0) S d_Md_print_20 (by decide) ?_
      refine aw_mput6 S hM n_fl_Md_226 d_Md_print_21 (fun g_ hM => ?_)
      have hs1 : mSt (upd v 6 0) f tape ts bt ps [] := hs.prn (mfr.rf.v (by decide)) rfl mL.nil (by decide)
      refine aw_aload_0 S d_Md_print_24 ?_
      refine aw_getf S I_Md 3 hM.2.1 n_fl_Md_13 d_Md_print_25 rfl (by decide) ?_
      refine aw_iload_1 S d_Md_print_28 ?_
      refine aw_mld S hM 1 (by decide) (hT.1) (show _ < 60 by omega) d_Md_print_29 ?_
      refine aw_if_ne S 51 d_Md_print_30 (by decide) (fun c30 => ?_) (fun c30 => ?_)
      · refine aw_aload_0 S d_Md_print_51 ?_
        refine aw_getf S I_Md 3 hM.2.1 n_fl_Md_13 d_Md_print_52 rfl (by decide) ?_
        refine aw_iload_1 S d_Md_print_55 ?_
        refine aw_mld S hM 1 (by decide) (hT.1) (show _ < 60 by omega) d_Md_print_56 ?_
        refine aw_iconst (v := 1) S d_Md_print_57 (by decide) ?_
        refine aw_icmp_ne S 82 d_Md_print_58 (by decide) (fun c58 => ?_) (fun c58 => ?_)
        · have hk2 : (tmG ts i).1 = 2 := by
            rcases hokv with z | z | z
            · exact absurd z.1 c30
            · exact absurd z.1 c58
            · exact z.1
          have hmk : mN (tmG ts i) = (tmG ts i).2.1 := if_neg c58
          have htx : ∀ x ∈ (tmG ts i).2.2.2.1, sp_txt x = true := by
            rcases hokv with z | z | z
            · exact absurd z.1 c30
            · exact absurd z.1 c58
            · exact z.2.2.2.2.2.1
          have h16 := hT.2.2.2.2.2.2.1
          have h40 := hok.l i hi hk2
          have hfml := fm_len (tmG ts i).2.2.2.1
          refine aw_aload_0 S d_Md_print_82 ?_
          refine aw_iload_1 S d_Md_print_83 ?_
          refine aw_callVv0 S (ev_Md_tellLiteral i hM rfl (by omega) hT hmk (hok.l i hi hk2) htx) mb_Md_tellLiteral mi_Md_tellLiteral n_ml_Md_258 d_Md_print_84 I_Md hM.2.1 rfl rfl rfl (fun g2_ n2_ h_ => ?_)
          obtain ⟨rfl, v3, f3, hM, hf3, h6, hL⟩ := h_
          have e : sp_prt ts ps i (decide (fm = 1)) = sp_plit (tmG ts i) := by rw [sp_prt, if_neg c58, if_pos hk2]
          rw [← e] at h6 hL
          refine s87 i v3 f3 _ hM hx hfm h6 (hs1.prn hf3 h6 hL ?_)
          rw [e, sp_plit, sp_ptl]
          simp only [List.length_cons, List.length_append]
          split
          · simp only [List.length_cons]; omega
          · split
            · simp only [List.length_cons, List.length_nil]; omega
            · split
              · simp only [List.length_cons, List.length_nil]; omega
              · split
                · simp only [List.length_cons, List.length_nil]; omega
                · simp only [List.length_nil]; omega
        · obtain ⟨kn, hkn, hmk⟩ : ∃ k, k < 1000 ∧ mN (tmG ts i) = nI k := mN_nat hokv
          refine aw_aload_0 S d_Md_print_61 ?_
          refine aw_ldc2 S n_ct_Md_253 d_Md_print_62 ?_
          refine aw_iconst (v := 3) S d_Md_print_65 (by decide) ?_
          refine aw_topi (show (3 : Int32) = nI 3 from rfl) ?_
          refine aw_callVv0 S (ev_Md_tellAll (xs := []) 6240866 3 hM rfl mL.nil (by decide) (by decide)) mb_Md_tellAll mi_Md_tellAll n_ml_Md_234 d_Md_print_66 I_Md hM.2.1 rfl rfl rfl (fun g2_ n2_ h_ => ?_)
          obtain ⟨rfl, v3, f3, hM, hf3, h6, hL⟩ := h_
          rw [by_label, List.nil_append] at h6 hL
          refine aw_aload_0 S d_Md_print_69 ?_
          refine aw_aload_0 S d_Md_print_70 ?_
          refine aw_getf S I_Md 4 hM.2.1 n_fl_Md_16 d_Md_print_71 rfl (by decide) ?_
          refine aw_iload_1 S d_Md_print_74 ?_
          refine aw_mld S hM 2 (by decide) ((congrFun (hf3.2 2 (by decide)) _).trans (hT.2.1.trans hmk)) (show _ < 60 by omega) d_Md_print_75 ?_
          refine aw_callVv0 S (ev_Md_tellNumber kn hM h6 hL hkn (by decide)) mb_Md_tellNumber mi_Md_tellNumber n_ml_Md_255 d_Md_print_76 I_Md hM.2.1 rfl rfl rfl (fun g2_ n2_ h_ => ?_)
          obtain ⟨rfl, v4, f4, hM, hf4, h6, hL⟩ := h_
          refine aw_goto S 87 d_Md_print_79 (by decide) ?_
          have e : sp_prt ts ps i (decide (fm = 1)) = [95, 58, 98] ++ sp_num kn := by
            rw [sp_prt, if_pos c58]
            have : (tmG ts i).2.2.1 = nI kn := by rw [← hmk, mN, if_pos c58]
            rw [this, nI_clamp (by omega)]
          rw [← e] at h6 hL
          refine s87 i v4 f4 _ hM hx hfm h6 (hs1.prn (hf3.tr hf4) h6 hL ?_)
          rw [e]
          have := num_len kn
          simp
          omega
      · refine aw_aload_0 S d_Md_print_33 ?_
        refine aw_iload_1 S d_Md_print_34 ?_
        refine aw_iload_2 S d_Md_print_35 ?_
        refine aw_iconst (v := 1) S d_Md_print_36 (by decide) ?_
        refine aw_icmp_ne S 44 d_Md_print_37 (by decide) (fun c37 => ?_) (fun c37 => ?_)
        · refine aw_iconst (v := 0) S d_Md_print_44 (by decide) ?_
          refine aw_callVv0 S (ev_Md_tellAddress i false hM hs1 rfl hi hP) mb_Md_tellAddress mi_Md_tellAddress n_ml_Md_249 d_Md_print_45 I_Md hM.2.1 rfl rfl rfl (fun g2_ n2_ h_ => ?_)
          obtain ⟨rfl, v3, f3, hM, hf3, h6, hL⟩ := h_
          refine aw_goto S 87 d_Md_print_48 (by decide) ?_
          have e : sp_prt ts ps i (decide (fm = 1)) = sp_padr ts ps (tmG ts i).2.2.2.1 false := by rw [sp_prt, if_neg (by rw [c30]; decide), if_neg (by rw [c30]; decide), decide_eq_false c37]
          rw [← e] at h6 hL
          refine s87 i v3 f3 _ hM hx hfm h6 (hs1.prn hf3 h6 hL ?_)
          rw [e]
          exact padr_len hT.2.2.2.1 (fun j hj => (pP j hj).2.1)
        · refine aw_iconst (v := 1) S d_Md_print_40 (by decide) ?_
          refine aw_goto S 45 d_Md_print_41 (by decide) ?_
          refine aw_callVv0 S (ev_Md_tellAddress i true hM hs1 rfl hi hP) mb_Md_tellAddress mi_Md_tellAddress n_ml_Md_249 d_Md_print_45 I_Md hM.2.1 rfl rfl rfl (fun g2_ n2_ h_ => ?_)
          obtain ⟨rfl, v3, f3, hM, hf3, h6, hL⟩ := h_
          refine aw_goto S 87 d_Md_print_48 (by decide) ?_
          have e : sp_prt ts ps i (decide (fm = 1)) = sp_padr ts ps (tmG ts i).2.2.2.1 true := by rw [sp_prt, if_neg (by rw [c30]; decide), if_neg (by rw [c30]; decide), decide_eq_true c37]
          rw [← e] at h6 hL
          refine s87 i v3 f3 _ hM hx hfm h6 (hs1.prn hf3 h6 hL ?_)
          rw [e]
          exact padr_len hT.2.2.2.1 (fun j hj => (pP j hj).2.1)
    · refine aw_iconst (v := -1) S d_Md_print_17 (by decide) ?_
      refine aw_iret S rfl d_Md_print_18 ?_ (by decide) (by decide)
      have hf : ¬ (fm = 0 ∨ fm = 1) := fun z => by have := fm01.mpr z; rw [aw_b_f c14] at this; cases this
      refine ⟨?_, rfl, v, f, hM, ?_⟩
      · rw [op_prtR]; cases ixOf ts.length q with | none => rfl | some i => dsimp only; rw [if_neg hf]
      · rw [op_prtP]; cases ixOf ts.length q with | none => exact hs | some i => dsimp only; rw [if_neg hf]; exact hs
