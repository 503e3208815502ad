/-! the reference: escaped, literal -/
theorem pw16 {T D j : Nat} (h : (T + 1) * 16 ^ (j + 1) ≤ 65536) (hD : D ≤ 15) : (16 * T + D + 1) * 16 ^ j ≤ 65536 := by
  refine Nat.le_trans (Nat.mul_le_mul_right _ (show 16 * T + D + 1 ≤ (T + 1) * 16 by omega)) ?_
  rw [Nat.mul_assoc, Nat.mul_comm 16 (16 ^ j), ← Nat.pow_succ]
  exact h
theorem pwT {T j : Nat} (h : (T + 1) * 16 ^ j ≤ 65536) : T < 65536 := by
  have := Nat.le_mul_of_pos_right (T + 1) (Nat.pow_pos (n := j) (show 0 < 16 by decide))
  omega
theorem in_nat {b : Int32} {lo hi : Nat} (hlo : lo < 200) (hhi : hi < 200) (h : sp_in b (nI lo) (nI hi) = true) : ∃ j, j ≤ hi ∧ lo ≤ j ∧ b = nI j := by
  unfold sp_in at h
  rw [Bool.and_eq_true] at h
  have h1 : ¬ b < nI lo := by simpa using h.1
  have h2 : ¬ nI hi < b := by simpa using h.2
  have h0 : ¬ b < 0 := fun z => h1 (Int32.lt_of_lt_of_le z (nI_pos' (by omega)))
  obtain ⟨j, hj, rfl⟩ := nI_of h0
  rw [nI_ltI hj (by omega)] at h1
  rw [nI_ltI (by omega) hj] at h2
  exact ⟨j, by omega, by omega, rfl⟩
theorem hex_val {b : Int32} (h : ¬ sp_hex b = -1) : ∃ D, D ≤ 15 ∧ sp_hex b = nI D := by
  unfold sp_hex at h ⊢
  by_cases c1 : sp_dig b = true
  · obtain ⟨j, h1, h2, rfl⟩ := in_nat (lo := 48) (hi := 57) (by decide) (by decide) c1
    rw [if_pos c1]
    have : ∀ j, j < 58 → 48 ≤ j → nI j - 48 = nI (j - 48) := by decide +kernel
    exact ⟨j - 48, by omega, this j (by omega) h2⟩
  · rw [if_neg c1] at h ⊢
    by_cases c2 : sp_in b 97 102 = true
    · obtain ⟨j, h1, h2, rfl⟩ := in_nat (lo := 97) (hi := 102) (by decide) (by decide) c2
      rw [if_pos c2]
      have : ∀ j, j < 103 → 97 ≤ j → nI j - 97 + 10 = nI (j - 87) := by decide +kernel
      exact ⟨j - 87, by omega, this j (by omega) h2⟩
    · rw [if_neg c2] at h ⊢
      by_cases c3 : sp_in b 65 70 = true
      · obtain ⟨j, h1, h2, rfl⟩ := in_nat (lo := 65) (hi := 70) (by decide) (by decide) c3
        rw [if_pos c3]
        have : ∀ j, j < 71 → 65 ≤ j → nI j - 65 + 10 = nI (j - 55) := by decide +kernel
        exact ⟨j - 55, by omega, this j (by omega) h2⟩
      · rw [if_neg c3] at h
        exact absurd rfl h
set_option maxRecDepth 100000 in
set_option maxHeartbeats 4000000 in
theorem ev_Md_escaped {l : Launch} {E : aw_E} {g : AH} {n : Nat} {g0 : AH} {d : Nat} {v : Nat → Int32} {f : Nat → Nat → Int32} {tape : List Int32} {ts : List Tmv} {bt : Int32} {ps : List Pfv} {pr : List Int32} (p0 : Nat) (hM : mG E g0 d v f g) (hs : mSt v f tape ts bt ps pr) (hp0 : p0 < 1000) : EV l E 3 0 0 y_Md_escaped c_Md_escaped 6 (some .int) g n [.ref d, .int (nI p0)] (aw_Pi (fun r_ g2 n2 => r_ = sp_esc tape p0 ∧ g2 = g ∧ n2 = n)) := by
  obtain ⟨⟨tl, t0, tL⟩, ⟨nl, n1, nT⟩, b2, ⟨pl, p3, pP⟩, ⟨ql, q6, qL⟩⟩ := id hs
  refine aw_enter "AddressTermsModel" [some (.ref d), some (.int (nI p0)), none, none, none, none] (by decide) rfl rfl (Nat.le_of_ble_eq_true rfl) ?_
  intro p e s m args below meth c S hnm
  have s97 : ∀ (t : Int32) (x y : Option Value), tape.getD (p0 + 1) (-1) = 117 → sp_hxF tape (p0 + 2) 4 0 = (if sp_txt t then t else -1) → AW p l e { frames := 3, cells := 0, slots := 0, locals := 40 * 3 } s m args below meth c E 6 (aw_Z E (aw_Pi (fun r_ g2 n2 => r_ = sp_esc tape p0 ∧ g2 = g ∧ n2 = n)) below args s 0 0) 0 0 g n 97 [some (.ref d), some (.int (nI p0)), some (.int (tape.getD (p0 + 1) (-1))), some (.int t), x, y] [] := by
    intro t x y hu hv
    have hE : sp_esc tape p0 = sp_hxF tape (p0 + 2) 4 0 := by rw [sp_esc, hu, if_neg (by decide), if_neg (by decide), if_neg (by decide), if_neg (by decide), if_neg (by decide), if_pos rfl]
    refine aw_iload_3 S d_Md_escaped_97 ?_
    refine aw_callSiR S (ev_Md_isText t) mb_Md_isText n_st_Md_isText n_ml_Md_181 d_Md_escaped_98 rfl rfl ?_
    refine aw_if_eq S 108 d_Md_escaped_101 (by decide) (fun c101 => ?_) (fun c101 => ?_)
    · refine aw_iconst (v := -1) S d_Md_escaped_108 (by decide) ?_
      refine aw_iret S rfl d_Md_escaped_109 ?_ (by decide) (by decide)
      exact ⟨by rw [hE, hv, aw_b_f c101]; rfl, rfl, rfl⟩
    · refine aw_iload_3 S d_Md_escaped_104 ?_
      refine aw_goto S 109 d_Md_escaped_105 (by decide) ?_
      refine aw_iret S rfl d_Md_escaped_109 ?_ (by decide) (by decide)
      exact ⟨by rw [hE, hv, aw_b_t c101]; rfl, rfl, rfl⟩
  have l34b : ∀ (j k : Nat) (y : Option Value), k + j = 6 → tape.getD (p0 + 1) (-1) = 117 → sp_hxF tape (p0 + 2) 4 0 = -1 → AW p l e { frames := 3, cells := 0, slots := 0, locals := 40 * 3 } s m args below meth c E 6 (aw_Z E (aw_Pi (fun r_ g2 n2 => r_ = sp_esc tape p0 ∧ g2 = g ∧ n2 = n)) below args s 0 0) 0 0 g n 34 [some (.ref d), some (.int (nI p0)), some (.int (tape.getD (p0 + 1) (-1))), some (.int (-1)), some (.int (nI k)), y] [] := by
    intro j
    induction j with
    | zero =>
      intro k y hk hu hv
      refine aw_iload_4 S d_Md_escaped_34 ?_
      refine aw_bipush (v := 6) S d_Md_escaped_36 (by decide) ?_
      refine aw_icmp_ge S 97 d_Md_escaped_38 (by decide) (fun c38 => ?_) (fun c38 => ?_)
      · exact s97 (-1) _ _ hu (by rw [hv]; rfl)
      · exact absurd (nI_le (a := 6) (by omega) (by omega)) c38
    | succ j ih =>
      intro k y hk hu hv
      have s70 : ∀ (x : Int32), AW p l e { frames := 3, cells := 0, slots := 0, locals := 40 * 3 } s m args below meth c E 6 (aw_Z E (aw_Pi (fun r_ g2 n2 => r_ = sp_esc tape p0 ∧ g2 = g ∧ n2 = n)) below args s 0 0) 0 0 g n 70 [some (.ref d), some (.int (nI p0)), some (.int (tape.getD (p0 + 1) (-1))), some (.int (-1)), some (.int (nI k)), some (.int x)] [] := by
        intro x
        refine aw_iload_5 S d_Md_escaped_70 ?_
        refine aw_if_lt S 79 d_Md_escaped_72 (by decide) (fun c72 => ?_) (fun c72 => ?_)
        · refine aw_iconst (v := -1) S d_Md_escaped_79 (by decide) ?_
          refine aw_goto S 90 d_Md_escaped_80 (by decide) ?_
          refine aw_istore_3 S d_Md_escaped_90 ?_
          refine aw_iinc_4 (v := nI (k + 1)) S d_Md_escaped_91 ((nI_succ (k)).symm) ?_
          refine aw_goto S 34 d_Md_escaped_94 (by decide) ?_
          exact ih (k + 1) _ (by omega) hu hv
        · refine aw_iload_3 S d_Md_escaped_75 ?_
          refine aw_if_ge S 83 d_Md_escaped_76 (by decide) (fun c76 => ?_) (fun c76 => ?_)
          · exact absurd c76 (by decide)
          · refine aw_iconst (v := -1) S d_Md_escaped_79 (by decide) ?_
            refine aw_goto S 90 d_Md_escaped_80 (by decide) ?_
            refine aw_istore_3 S d_Md_escaped_90 ?_
            refine aw_iinc_4 (v := nI (k + 1)) S d_Md_escaped_91 ((nI_succ (k)).symm) ?_
            refine aw_goto S 34 d_Md_escaped_94 (by decide) ?_
            exact ih (k + 1) _ (by omega) hu hv
      refine aw_iload_4 S d_Md_escaped_34 ?_
      refine aw_bipush (v := 6) S d_Md_escaped_36 (by decide) ?_
      refine aw_icmp_ge S 97 d_Md_escaped_38 (by decide) (fun c38 => ?_) (fun c38 => ?_)
      · exact absurd c38 (nI_ge (b := 6) (by omega) (by omega))
      · refine aw_iload_1 S d_Md_escaped_41 ?_
        refine aw_iload_4 S d_Md_escaped_42 ?_
        refine aw_iadd S d_Md_escaped_44 ?_
        refine aw_topi (nI_add _ _) ?_
        refine aw_aload_0 S d_Md_escaped_45 ?_
        refine aw_getf S I_Md 0 hM.2.1 n_fl_Md_90 d_Md_escaped_46 rfl (by decide) ?_
        refine aw_topi t0 ?_
        refine aw_icmp_ge S 67 d_Md_escaped_49 (by decide) (fun c49 => ?_) (fun c49 => ?_)
        · refine aw_iconst (v := -1) S d_Md_escaped_67 (by decide) ?_
          refine aw_istore_5 S d_Md_escaped_68 ?_
          exact s70 _
        · rw [nI_leI (by omega) (by omega)] at c49
          refine aw_aload_0 S d_Md_escaped_52 ?_
          refine aw_getf S I_Md 1 hM.2.1 n_fl_Md_7 d_Md_escaped_53 rfl (by decide) ?_
          refine aw_iload_1 S d_Md_escaped_56 ?_
          refine aw_iload_4 S d_Md_escaped_57 ?_
          refine aw_iadd S d_Md_escaped_59 ?_
          refine aw_topi (nI_add _ _) ?_
          refine aw_mld S hM 0 (by decide) (tL.at0 (show p0 + k < tape.length by omega)) (show _ < 96 by omega) d_Md_escaped_60 ?_
          refine aw_callSiR S (ev_Md_hex (tape.getD (p0 + k) (-1))) mb_Md_hex n_st_Md_hex n_ml_Md_126 d_Md_escaped_61 rfl rfl ?_
          refine aw_goto S 68 d_Md_escaped_64 (by decide) ?_
          refine aw_istore_5 S d_Md_escaped_68 ?_
          exact s70 _
  have l34 : ∀ (j k T : Nat) (y : Option Value), k + j = 6 → tape.getD (p0 + 1) (-1) = 117 → (T + 1) * 16 ^ j ≤ 65536 → sp_hxF tape (p0 + k) j (nI T) = sp_hxF tape (p0 + 2) 4 0 → AW p l e { frames := 3, cells := 0, slots := 0, locals := 40 * 3 } s m args below meth c E 6 (aw_Z E (aw_Pi (fun r_ g2 n2 => r_ = sp_esc tape p0 ∧ g2 = g ∧ n2 = n)) below args s 0 0) 0 0 g n 34 [some (.ref d), some (.int (nI p0)), some (.int (tape.getD (p0 + 1) (-1))), some (.int (nI T)), some (.int (nI k)), y] [] := by
    intro j
    induction j with
    | zero =>
      intro k T y hk hu hT hv
      rw [sp_hxF] at hv
      refine aw_iload_4 S d_Md_escaped_34 ?_
      refine aw_bipush (v := 6) S d_Md_escaped_36 (by decide) ?_
      refine aw_icmp_ge S 97 d_Md_escaped_38 (by decide) (fun c38 => ?_) (fun c38 => ?_)
      · exact s97 _ _ _ hu hv.symm
      · exact absurd (nI_le (a := 6) (by omega) (by omega)) c38
    | succ j ih =>
      intro k T y hk hu hT hv
      have hT2 := pwT hT
      rw [sp_hxF] at hv
      have s70 : AW p l e { frames := 3, cells := 0, slots := 0, locals := 40 * 3 } s m args below meth c E 6 (aw_Z E (aw_Pi (fun r_ g2 n2 => r_ = sp_esc tape p0 ∧ g2 = g ∧ n2 = n)) below args s 0 0) 0 0 g n 70 [some (.ref d), some (.int (nI p0)), some (.int (tape.getD (p0 + 1) (-1))), some (.int (nI T)), some (.int (nI k)), some (.int (sp_hex (tape.getD (p0 + k) (-1))))] [] := by
        by_cases hx : sp_hex (tape.getD (p0 + k) (-1)) = -1
        · rw [if_pos hx] at hv
          rw [hx]
          refine aw_iload_5 S d_Md_escaped_70 ?_
          refine aw_if_lt S 79 d_Md_escaped_72 (by decide) (fun c72 => ?_) (fun c72 => ?_)
          · refine aw_iconst (v := -1) S d_Md_escaped_79 (by decide) ?_
            refine aw_goto S 90 d_Md_escaped_80 (by decide) ?_
            refine aw_istore_3 S d_Md_escaped_90 ?_
            refine aw_iinc_4 (v := nI (k + 1)) S d_Md_escaped_91 ((nI_succ (k)).symm) ?_
            refine aw_goto S 34 d_Md_escaped_94 (by decide) ?_
            exact l34b j (k + 1) _ (by omega) hu hv.symm
          · exact absurd (show (-1 : Int32) < 0 by decide) c72
        · rw [if_neg hx] at hv
          obtain ⟨D, hD, e⟩ := hex_val hx
          rw [e] at hv ⊢
          refine aw_iload_5 S d_Md_escaped_70 ?_
          refine aw_if_lt S 79 d_Md_escaped_72 (by decide) (fun c72 => ?_) (fun c72 => ?_)
          · exact absurd c72 (nI_pos (by omega))
          · refine aw_iload_3 S d_Md_escaped_75 ?_
            refine aw_if_ge S 83 d_Md_escaped_76 (by decide) (fun c76 => ?_) (fun c76 => ?_)
            · refine aw_bipush (v := 16) S d_Md_escaped_83 (by decide) ?_
              refine aw_iload_3 S d_Md_escaped_85 ?_
              refine aw_imul S d_Md_escaped_86 ?_
              refine aw_iload_5 S d_Md_escaped_87 ?_
              refine aw_iadd S d_Md_escaped_89 ?_
              refine aw_topi (ix16 T D) ?_
              refine aw_istore_3 S d_Md_escaped_90 ?_
              refine aw_iinc_4 (v := nI (k + 1)) S d_Md_escaped_91 ((nI_succ (k)).symm) ?_
              refine aw_goto S 34 d_Md_escaped_94 (by decide) ?_
              refine ih (k + 1) (16 * T + D) _ (by omega) hu (pw16 hT hD) ?_
              rw [← hv, ← ix16, Int32.mul_comm]; rfl
            · exact absurd (nI_pos' (by omega)) c76
      refine aw_iload_4 S d_Md_escaped_34 ?_
      refine aw_bipush (v := 6) S d_Md_escaped_36 (by decide) ?_
      refine aw_icmp_ge S 97 d_Md_escaped_38 (by decide) (fun c38 => ?_) (fun c38 => ?_)
      · exact absurd c38 (nI_ge (b := 6) (by omega) (by omega))
      · refine aw_iload_1 S d_Md_escaped_41 ?_
        refine aw_iload_4 S d_Md_escaped_42 ?_
        refine aw_iadd S d_Md_escaped_44 ?_
        refine aw_topi (nI_add _ _) ?_
        refine aw_aload_0 S d_Md_escaped_45 ?_
        refine aw_getf S I_Md 0 hM.2.1 n_fl_Md_90 d_Md_escaped_46 rfl (by decide) ?_
        refine aw_topi t0 ?_
        refine aw_icmp_ge S 67 d_Md_escaped_49 (by decide) (fun c49 => ?_) (fun c49 => ?_)
        · refine aw_iconst (v := -1) S d_Md_escaped_67 (by decide) ?_
          refine aw_istore_5 S d_Md_escaped_68 ?_
          rw [nI_leI (by omega) (by omega)] at c49
          rw [getD_out c49, hex_m1] at s70
          exact s70
        · rw [nI_leI (by omega) (by omega)] at c49
          refine aw_aload_0 S d_Md_escaped_52 ?_
          refine aw_getf S I_Md 1 hM.2.1 n_fl_Md_7 d_Md_escaped_53 rfl (by decide) ?_
          refine aw_iload_1 S d_Md_escaped_56 ?_
          refine aw_iload_4 S d_Md_escaped_57 ?_
          refine aw_iadd S d_Md_escaped_59 ?_
          refine aw_topi (nI_add _ _) ?_
          refine aw_mld S hM 0 (by decide) (tL.at0 (show p0 + k < tape.length by omega)) (show _ < 96 by omega) d_Md_escaped_60 ?_
          refine aw_callSiR S (ev_Md_hex (tape.getD (p0 + k) (-1))) mb_Md_hex n_st_Md_hex n_ml_Md_126 d_Md_escaped_61 rfl rfl ?_
          refine aw_goto S 68 d_Md_escaped_64 (by decide) ?_
          refine aw_istore_5 S d_Md_escaped_68 ?_
          exact s70
  have s23 : AW p l e { frames := 3, cells := 0, slots := 0, locals := 40 * 3 } s m args below meth c E 6 (aw_Z E (aw_Pi (fun r_ g2 n2 => r_ = sp_esc tape p0 ∧ g2 = g ∧ n2 = n)) below args s 0 0) 0 0 g n 23 [some (.ref d), some (.int (nI p0)), some (.int (tape.getD (p0 + 1) (-1))), none, none, none] [] := by
    refine aw_iload_2 S d_Md_escaped_23 ?_
    refine aw_bipush (v := 117) S d_Md_escaped_24 (by decide) ?_
    refine aw_icmp_ne S 110 d_Md_escaped_26 (by decide) (fun c26 => ?_) (fun c26 => ?_)
    · refine aw_iload_2 S d_Md_escaped_110 ?_
      refine aw_bipush (v := 116) S d_Md_escaped_111 (by decide) ?_
      refine aw_icmp_ne S 121 d_Md_escaped_113 (by decide) (fun c113 => ?_) (fun c113 => ?_)
      · refine aw_iload_2 S d_Md_escaped_121 ?_
        refine aw_bipush (v := 110) S d_Md_escaped_122 (by decide) ?_
        refine aw_icmp_ne S 132 d_Md_escaped_124 (by decide) (fun c124 => ?_) (fun c124 => ?_)
        · refine aw_iload_2 S d_Md_escaped_132 ?_
          refine aw_bipush (v := 114) S d_Md_escaped_133 (by decide) ?_
          refine aw_icmp_ne S 143 d_Md_escaped_135 (by decide) (fun c135 => ?_) (fun c135 => ?_)
          · refine aw_iload_2 S d_Md_escaped_143 ?_
            refine aw_bipush (v := 34) S d_Md_escaped_144 (by decide) ?_
            refine aw_icmp_eq S 155 d_Md_escaped_146 (by decide) (fun c146 => ?_) (fun c146 => ?_)
            · refine aw_iload_2 S d_Md_escaped_155 ?_
              refine aw_goto S 160 d_Md_escaped_156 (by decide) ?_
              refine aw_iret S rfl d_Md_escaped_160 ?_ (by decide) (by decide)
              exact ⟨by rw [sp_esc, c146]; rfl, rfl, rfl⟩
            · refine aw_iload_2 S d_Md_escaped_149 ?_
              refine aw_bipush (v := 92) S d_Md_escaped_150 (by decide) ?_
              refine aw_icmp_ne S 159 d_Md_escaped_152 (by decide) (fun c152 => ?_) (fun c152 => ?_)
              · refine aw_iconst (v := -1) S d_Md_escaped_159 (by decide) ?_
                refine aw_iret S rfl d_Md_escaped_160 ?_ (by decide) (by decide)
                exact ⟨by rw [sp_esc, if_neg c146, if_neg c152, if_neg c124, if_neg c135, if_neg c113, if_neg c26], rfl, rfl⟩
              · refine aw_iload_2 S d_Md_escaped_155 ?_
                refine aw_goto S 160 d_Md_escaped_156 (by decide) ?_
                refine aw_iret S rfl d_Md_escaped_160 ?_ (by decide) (by decide)
                exact ⟨by rw [sp_esc, c152]; rfl, rfl, rfl⟩
          · refine aw_bipush (v := 13) S d_Md_escaped_138 (by decide) ?_
            refine aw_goto S 160 d_Md_escaped_140 (by decide) ?_
            refine aw_iret S rfl d_Md_escaped_160 ?_ (by decide) (by decide)
            exact ⟨by rw [sp_esc, c135]; rfl, rfl, rfl⟩
        · refine aw_bipush (v := 10) S d_Md_escaped_127 (by decide) ?_
          refine aw_goto S 160 d_Md_escaped_129 (by decide) ?_
          refine aw_iret S rfl d_Md_escaped_160 ?_ (by decide) (by decide)
          exact ⟨by rw [sp_esc, c124]; rfl, rfl, rfl⟩
      · refine aw_bipush (v := 9) S d_Md_escaped_116 (by decide) ?_
        refine aw_goto S 160 d_Md_escaped_118 (by decide) ?_
        refine aw_iret S rfl d_Md_escaped_160 ?_ (by decide) (by decide)
        exact ⟨by rw [sp_esc, c113]; rfl, rfl, rfl⟩
    · refine aw_iconst (v := 0) S d_Md_escaped_29 (by decide) ?_
      refine aw_topi nI_0.symm ?_
      refine aw_istore_3 S d_Md_escaped_30 ?_
      refine aw_iconst (v := 2) S d_Md_escaped_31 (by decide) ?_
      refine aw_topi (show (2 : Int32) = nI 2 from rfl) ?_
      refine aw_istore_4 S d_Md_escaped_32 ?_
      exact l34 4 2 0 none rfl c26 (by decide) rfl
  refine aw_iload_1 S d_Md_escaped_0 ?_
  refine aw_iconst (v := 1) S d_Md_escaped_1 (by decide) ?_
  refine aw_iadd S d_Md_escaped_2 ?_
  refine aw_topi (nI_1 _) ?_
  refine aw_aload_0 S d_Md_escaped_3 ?_
  refine aw_getf S I_Md 0 hM.2.1 n_fl_Md_90 d_Md_escaped_4 rfl (by decide) ?_
  refine aw_topi t0 ?_
  refine aw_icmp_ge S 21 d_Md_escaped_7 (by decide) (fun c7 => ?_) (fun c7 => ?_)
  · refine aw_iconst (v := -1) S d_Md_escaped_21 (by decide) ?_
    refine aw_istore_2 S d_Md_escaped_22 ?_
    rw [nI_leI (by omega) (by omega)] at c7
    rw [getD_out c7] at s23
    exact s23
  · rw [nI_leI (by omega) (by omega)] at c7
    refine aw_aload_0 S d_Md_escaped_10 ?_
    refine aw_getf S I_Md 1 hM.2.1 n_fl_Md_7 d_Md_escaped_11 rfl (by decide) ?_
    refine aw_iload_1 S d_Md_escaped_14 ?_
    refine aw_iconst (v := 1) S d_Md_escaped_15 (by decide) ?_
    refine aw_iadd S d_Md_escaped_16 ?_
    refine aw_topi (nI_1 _) ?_
    refine aw_mld S hM 0 (by decide) (tL.at0 (show p0 + 1 < tape.length by omega)) (show _ < 96 by omega) d_Md_escaped_17 ?_
    refine aw_goto S 22 d_Md_escaped_18 (by decide) ?_
    refine aw_istore_2 S d_Md_escaped_22 ?_
    exact s23
theorem esc_in {xs : List Int32} {p : Nat} (h : ¬ sp_esc xs p = -1) : p + 1 < xs.length := by
  rcases Nat.lt_or_ge (p + 1) xs.length with q | q
  · exact q
  · exfalso
    apply h
    rw [sp_esc, getD_out q]
    rfl
theorem lit_ok {s : Int32} : (s = 0 ∨ s = 2 ∨ s = 3 ∨ s = 4) ↔ sp_in s 0 4 = true ∧ ¬ s = 1 := by
  constructor
  · rintro (h | h | h | h) <;> rw [h] <;> decide
  · rintro ⟨h1, h2⟩
    obtain ⟨j, hj, -, rfl⟩ := in_nat (lo := 0) (hi := 4) (by decide) (by decide) h1
    have : ∀ j, j < 5 → ¬ nI j = 1 → (nI j = 0 ∨ nI j = 2 ∨ nI j = 3 ∨ nI j = 4) := by decide +kernel
    exact this j (by omega) h2
set_option maxRecDepth 100000 in
set_option maxHeartbeats 4000000 in
theorem ev_Md_literal {l : Launch} {E : aw_E} {g : AH} {n : Nat} {g0 : AH} {d : Nat} {v : Nat → Int32} {f : Nat → Nat → Int32} {tape : List Int32} {ts : List Tmv} {bt : Int32} {ps : List Pfv} {pr : List Int32} (s0 : Int32) (hM : mG E g0 d v f g) (hs : mSt v f tape ts bt ps pr) (hok : okT ts) (htb : ∀ x ∈ tape, sp_bt x) : EV l E 4 0 0 y_Md_literal c_Md_literal 6 (some .int) g n [.ref d, .int s0] (aw_Pi (fun r_ g2 n2 => r_ = op_litR tape ts s0 ∧ n2 = n ∧ mS E g0 d g2 ([]) (op_litT tape ts s0) (bt) (ps) (pr))) := by
  obtain ⟨⟨tl, t0, tL⟩, ⟨nl, n1, nT⟩, b2, ⟨pl, p3, pP⟩, ⟨ql, q6, qL⟩⟩ := id hs
  refine aw_enter "AddressTermsModel" [some (.ref d), some (.int s0), none, none, none, none] (by decide) rfl rfl (Nat.le_of_ble_eq_true rfl) ?_
  intro p e s m args below meth c S hnm
  have s138 : ∀ (v1 : Nat → Int32) (f1 : Nat → Nat → Int32) (g : AH) (acc : List Int32) (x y z : Option Value), mG E g0 d v1 f1 g → (s0 = 0 ∨ s0 = 2 ∨ s0 = 3 ∨ s0 = 4) → sp_rdr tape = (none, acc) → acc.length ≤ 400 → v1 4 = nI acc.length → mL (f1 10) 0 acc → v1 5 = nI 0 → mSt v1 f1 tape ts bt ps pr → AW p l e { frames := 4, cells := 0, slots := 0, locals := 40 * 4 } s m args below meth c E 6 (aw_Z E (aw_Pi (fun r_ g2 n2 => r_ = op_litR tape ts s0 ∧ n2 = n ∧ mS E g0 d g2 ([]) (op_litT tape ts s0) (bt) (ps) (pr))) below args s 0 0) 0 0 g n 138 [some (.ref d), some (.int s0), some (.int (nI tape.length)), x, y, z] [] := by
    intro v1 f1 g acc x y z hM hs0 hr ha h4 hL h5 hs1
    refine aw_aload_0 S d_Md_literal_138 ?_
    refine aw_iconst (v := 0) S d_Md_literal_139 (by decide) ?_
    refine aw_mput0 S hM n_fl_Md_90 d_Md_literal_140 (fun g_ hM => ?_)
    refine aw_aload_0 S d_Md_literal_143 ?_
    refine aw_getf S I_Md 14 hM.2.1 n_fl_Md_93 d_Md_literal_144 rfl (by decide) ?_
    refine aw_topi h4 ?_
    refine aw_bipush (v := 40) S d_Md_literal_147 (by decide) ?_
    refine aw_icmp_le S 157 d_Md_literal_149 (by decide) (fun c149 => ?_) (fun c149 => ?_)
    · have hx1 : acc.length ≤ 40 := (nI_leI (b := 40) (by omega) (by omega)).mp c149
      refine aw_aload_0 S d_Md_literal_157 ?_
      refine aw_iconst (v := 2) S d_Md_literal_158 (by decide) ?_
      refine aw_iload_1 S d_Md_literal_159 ?_
      refine aw_callVi0 S (ev_Md_note (w := lt_v s0 acc) hM hs1.clr ⟨⟨Nat.le_trans hx1 (by decide), h4, hL⟩, Nat.zero_le _, h5, mL.nil⟩ (find_eq hok (Or.inr (Or.inr ⟨rfl, rfl⟩)))) mb_Md_note mi_Md_note n_ml_Md_106 d_Md_literal_160 I_Md hM.2.1 rfl rfl rfl (fun v_ g2_ n2_ h_ => ?_)
      obtain ⟨rfl, rfl, hm⟩ := h_
      refine aw_iret S rfl d_Md_literal_163 ?_ (by decide) (by decide)
      refine ⟨?_, rfl, ?_⟩
      · rw [op_litR, if_pos hs0, hr]; dsimp only; rw [if_pos hx1]
      · rw [op_litT, if_pos hs0, hr]; dsimp only; rw [if_pos hx1]; exact hm
    · refine aw_bipush (v := -3) S d_Md_literal_152 (by decide) ?_
      refine aw_goto S 163 d_Md_literal_154 (by decide) ?_
      refine aw_iret S rfl d_Md_literal_163 ?_ (by decide) (by decide)
      have hx1 : ¬ acc.length ≤ 40 := fun q => c149 (nI_le (b := 40) q (by omega))
      refine ⟨?_, rfl, _, f1, hM, ?_⟩
      · rw [op_litR, if_pos hs0, hr]; dsimp only; rw [if_neg hx1]
      · rw [op_litT, if_pos hs0, hr]; dsimp only; rw [if_neg hx1]; exact hs1.clr
  have loop : ∀ (q p0 : Nat) (v1 : Nat → Int32) (f1 : Nat → Nat → Int32) (g : AH) (acc : List Int32) (y z : Option Value), mG E g0 d v1 f1 g → (s0 = 0 ∨ s0 = 2 ∨ s0 = 3 ∨ s0 = 4) → tape.length ≤ p0 + q → p0 + 6 * q ≤ 600 → acc.length + q ≤ 96 → sp_rd tape q p0 acc = sp_rdr tape → v1 4 = nI acc.length → mL (f1 10) 0 acc → v1 5 = nI 0 → mfr [4, 5] [10] v v1 f f1 → AW p l e { frames := 4, cells := 0, slots := 0, locals := 40 * 4 } s m args below meth c E 6 (aw_Z E (aw_Pi (fun r_ g2 n2 => r_ = op_litR tape ts s0 ∧ n2 = n ∧ mS E g0 d g2 ([]) (op_litT tape ts s0) (bt) (ps) (pr))) below args s 0 0) 0 0 g n 38 [some (.ref d), some (.int s0), some (.int (nI tape.length)), some (.int (nI p0)), y, z] [] := by
    intro q
    induction q with
    | zero =>
      intro p0 v1 f1 g acc y z hM hs0 hq hp ha hv h4 hL h5 hf
      rw [sp_rd] at hv
      refine aw_iload_3 S d_Md_literal_38 ?_
      refine aw_iload_2 S d_Md_literal_39 ?_
      refine aw_icmp_ge S 138 d_Md_literal_40 (by decide) (fun c40 => ?_) (fun c40 => ?_)
      · exact s138 v1 f1 _ acc _ _ _ hM hs0 hv.symm (by omega) h4 hL h5 (hs.keep (hf.wd (by decide) (by decide)))
      · exact absurd (nI_le (by omega) (by omega)) c40
    | succ q ih =>
      intro p0 v1 f1 g acc y z hM hs0 hq hp ha hv h4 hL h5 hf
      rw [sp_rd] at hv
      have hs1 := hs.keep (hf.wd (by decide) (by decide))
      have s81 : p0 < tape.length → AW p l e { frames := 4, cells := 0, slots := 0, locals := 40 * 4 } s m args below meth c E 6 (aw_Z E (aw_Pi (fun r_ g2 n2 => r_ = op_litR tape ts s0 ∧ n2 = n ∧ mS E g0 d g2 ([]) (op_litT tape ts s0) (bt) (ps) (pr))) below args s 0 0) 0 0 g n 81 [some (.ref d), some (.int s0), some (.int (nI tape.length)), some (.int (nI p0)), some (.int (tape.getD p0 (-1))), some (.int (sp_rdB tape p0))] [] := by
        intro hpl
        rw [if_neg (by omega)] at hv
        by_cases hb : sp_rdB tape p0 = -1
        · rw [if_pos hb] at hv
          rw [hb]
          refine aw_iload_5 S d_Md_literal_81 ?_
          refine aw_if_ge S 96 d_Md_literal_83 (by decide) (fun c83 => ?_) (fun c83 => ?_)
          · exact absurd c83 (by decide)
          · refine aw_aload_0 S d_Md_literal_86 ?_
            refine aw_iconst (v := 0) S d_Md_literal_87 (by decide) ?_
            refine aw_mput0 S hM n_fl_Md_90 d_Md_literal_88 (fun g_ hM => ?_)
            refine aw_bipush (v := -10) S d_Md_literal_91 (by decide) ?_
            refine aw_iload_3 S d_Md_literal_93 ?_
            refine aw_isub S d_Md_literal_94 ?_
            refine aw_iret S rfl d_Md_literal_95 ?_ (by decide) (by decide)
            refine ⟨?_, rfl, _, f1, hM, ?_⟩
            · rw [op_litR, if_pos hs0, ← hv]
            · rw [op_litT, if_pos hs0, ← hv]; exact hs1.clr
        · rw [if_neg hb] at hv
          have hbb := rdB_bt htb hpl hb
          refine aw_iload_5 S d_Md_literal_81 ?_
          refine aw_if_ge S 96 d_Md_literal_83 (by decide) (fun c83 => ?_) (fun c83 => ?_)
          · refine aw_aload_0 S d_Md_literal_96 ?_
            refine aw_iload_5 S d_Md_literal_97 ?_
            refine aw_callVv0 S (ev_Md_add (sp_rdB tape p0) hM h4 hL (by omega)) mb_Md_add mi_Md_add n_ml_Md_146 d_Md_literal_99 I_Md hM.2.1 rfl rfl rfl (fun g2_ n2_ h_ => ?_)
            obtain ⟨rfl, v3, f3, hM, hf3, h4, hL⟩ := h_
            refine aw_iload_3 S d_Md_literal_102 ?_
            refine aw_iload_4 S d_Md_literal_103 ?_
            refine aw_bipush (v := 92) S d_Md_literal_105 (by decide) ?_
            refine aw_icmp_eq S 114 d_Md_literal_107 (by decide) (fun c107 => ?_) (fun c107 => ?_)
            · have hp1 : p0 + 1 < tape.length := esc_in (by rw [sp_rdB, if_pos c107] at hb; exact hb)
              refine aw_aload_0 S d_Md_literal_114 ?_
              refine aw_getf S I_Md 1 hM.2.1 n_fl_Md_7 d_Md_literal_115 rfl (by decide) ?_
              refine aw_iload_3 S d_Md_literal_118 ?_
              refine aw_iconst (v := 1) S d_Md_literal_119 (by decide) ?_
              refine aw_iadd S d_Md_literal_120 ?_
              refine aw_topi (nI_1 _) ?_
              refine aw_mld S hM 0 (by decide) (((congrFun (hf3.2 0 (by decide)) _).trans (congrFun (hf.2 0 (by decide)) _)).trans (tL.at0 hp1)) (show _ < 96 by omega) d_Md_literal_121 ?_
              refine aw_bipush (v := 117) S d_Md_literal_122 (by decide) ?_
              refine aw_icmp_ne S 132 d_Md_literal_124 (by decide) (fun c124 => ?_) (fun c124 => ?_)
              · refine aw_iconst (v := 2) S d_Md_literal_132 (by decide) ?_
                refine aw_topi (show (2 : Int32) = nI 2 from rfl) ?_
                refine aw_iadd S d_Md_literal_133 ?_
                refine aw_topi (nI_add _ _) ?_
                refine aw_istore_3 S d_Md_literal_134 ?_
                refine aw_goto S 38 d_Md_literal_135 (by decide) ?_
                have eL : sp_rdL tape p0 = 2 := by
                  rw [sp_rdL, if_pos c107, if_neg c124]
                rw [eL] at hv
                exact ih (p0 + 2) v3 f3 _ _ _ _ hM hs0 (by omega) (by omega) (by rw [List.length_append, List.length_singleton]; omega) hv h4 hL ((hf3.1 5 (by decide)).trans h5) (hf.tr (hf3.wd (by decide) (by decide)))
              · refine aw_bipush (v := 6) S d_Md_literal_127 (by decide) ?_
                refine aw_topi (show (6 : Int32) = nI 6 from rfl) ?_
                refine aw_goto S 133 d_Md_literal_129 (by decide) ?_
                refine aw_iadd S d_Md_literal_133 ?_
                refine aw_topi (nI_add _ _) ?_
                refine aw_istore_3 S d_Md_literal_134 ?_
                refine aw_goto S 38 d_Md_literal_135 (by decide) ?_
                have eL : sp_rdL tape p0 = 6 := by
                  rw [sp_rdL, if_pos c107, if_pos c124]
                rw [eL] at hv
                exact ih (p0 + 6) v3 f3 _ _ _ _ hM hs0 (by omega) (by omega) (by rw [List.length_append, List.length_singleton]; omega) hv h4 hL ((hf3.1 5 (by decide)).trans h5) (hf.tr (hf3.wd (by decide) (by decide)))
            · refine aw_iconst (v := 1) S d_Md_literal_110 (by decide) ?_
              refine aw_topi (show (1 : Int32) = nI 1 from rfl) ?_
              refine aw_goto S 133 d_Md_literal_111 (by decide) ?_
              refine aw_iadd S d_Md_literal_133 ?_
              refine aw_topi (nI_add _ _) ?_
              refine aw_istore_3 S d_Md_literal_134 ?_
              refine aw_goto S 38 d_Md_literal_135 (by decide) ?_
              have eL : sp_rdL tape p0 = 1 := by
                rw [sp_rdL, if_neg c107]
              rw [eL] at hv
              exact ih (p0 + 1) v3 f3 _ _ _ _ hM hs0 (by omega) (by omega) (by rw [List.length_append, List.length_singleton]; omega) hv h4 hL ((hf3.1 5 (by decide)).trans h5) (hf.tr (hf3.wd (by decide) (by decide)))
          · exact absurd hbb.1 c83
      refine aw_iload_3 S d_Md_literal_38 ?_
      refine aw_iload_2 S d_Md_literal_39 ?_
      refine aw_icmp_ge S 138 d_Md_literal_40 (by decide) (fun c40 => ?_) (fun c40 => ?_)
      · rw [nI_leI (by omega) (by omega)] at c40
        rw [if_pos c40] at hv
        exact s138 v1 f1 _ acc _ _ _ hM hs0 hv.symm (by omega) h4 hL h5 (hs.keep (hf.wd (by decide) (by decide)))
      · rw [nI_leI (by omega) (by omega)] at c40
        have hpl : p0 < tape.length := by omega
        refine aw_aload_0 S d_Md_literal_43 ?_
        refine aw_getf S I_Md 1 hM.2.1 n_fl_Md_7 d_Md_literal_44 rfl (by decide) ?_
        refine aw_iload_3 S d_Md_literal_47 ?_
        refine aw_mld S hM 0 (by decide) ((congrFun (hf.2 0 (by decide)) _).trans (tL.at0 hpl)) (show _ < 96 by omega) d_Md_literal_48 ?_
        refine aw_istore_4 S d_Md_literal_49 ?_
        refine aw_iload_4 S d_Md_literal_51 ?_
        refine aw_bipush (v := 92) S d_Md_literal_53 (by decide) ?_
        refine aw_icmp_ne S 66 d_Md_literal_55 (by decide) (fun c55 => ?_) (fun c55 => ?_)
        · refine aw_iload_4 S d_Md_literal_66 ?_
          refine aw_bipush (v := 34) S d_Md_literal_68 (by decide) ?_
          refine aw_icmp_ne S 77 d_Md_literal_70 (by decide) (fun c70 => ?_) (fun c70 => ?_)
          · refine aw_iload_4 S d_Md_literal_77 ?_
            refine aw_istore_5 S d_Md_literal_79 ?_
            have := s81 hpl
            rw [sp_rdB, if_neg c55, if_neg c70] at this
            exact this
          · refine aw_iconst (v := -1) S d_Md_literal_73 (by decide) ?_
            refine aw_goto S 79 d_Md_literal_74 (by decide) ?_
            refine aw_istore_5 S d_Md_literal_79 ?_
            have := s81 hpl
            rw [sp_rdB, if_neg c55, if_pos c70] at this
            exact this
        · refine aw_aload_0 S d_Md_literal_58 ?_
          refine aw_iload_3 S d_Md_literal_59 ?_
          refine aw_callViR S (ev_Md_escaped p0 hM hs1 (by omega)) mb_Md_escaped mi_Md_escaped n_ml_Md_184 d_Md_literal_60 I_Md hM.2.1 rfl rfl rfl ?_
          refine aw_goto S 79 d_Md_literal_63 (by decide) ?_
          refine aw_istore_5 S d_Md_literal_79 ?_
          have := s81 hpl
          rw [sp_rdB, if_pos c55] at this
          exact this
  refine aw_aload_0 S d_Md_literal_0 ?_
  refine aw_getf S I_Md 0 hM.2.1 n_fl_Md_90 d_Md_literal_1 rfl (by decide) ?_
  refine aw_topi t0 ?_
  refine aw_istore_2 S d_Md_literal_4 ?_
  refine aw_iload_1 S d_Md_literal_5 ?_
  refine aw_iconst (v := 0) S d_Md_literal_6 (by decide) ?_
  refine aw_iconst (v := 4) S d_Md_literal_7 (by decide) ?_
  refine aw_callSiR S (ev_Md_is s0 0 4) mb_Md_is n_st_Md_is n_ml_Md_77 d_Md_literal_8 rfl rfl ?_
  refine aw_if_eq S 19 d_Md_literal_11 (by decide) (fun c11 => ?_) (fun c11 => ?_)
  · refine aw_aload_0 S d_Md_literal_19 ?_
    refine aw_iconst (v := 0) S d_Md_literal_20 (by decide) ?_
    refine aw_mput0 S hM n_fl_Md_90 d_Md_literal_21 (fun g_ hM => ?_)
    refine aw_iconst (v := -1) S d_Md_literal_24 (by decide) ?_
    refine aw_iret S rfl d_Md_literal_25 ?_ (by decide) (by decide)
    have hb : ¬ (s0 = 0 ∨ s0 = 2 ∨ s0 = 3 ∨ s0 = 4) := fun z => by have := (lit_ok.mp z).1; rw [aw_b_f c11] at this; cases this
    refine ⟨?_, rfl, _, f, hM, ?_⟩
    · rw [op_litR, if_neg hb]
    · rw [op_litT, if_neg hb]; exact hs.clr
  · refine aw_iload_1 S d_Md_literal_14 ?_
    refine aw_iconst (v := 1) S d_Md_literal_15 (by decide) ?_
    refine aw_icmp_ne S 26 d_Md_literal_16 (by decide) (fun c16 => ?_) (fun c16 => ?_)
    · refine aw_aload_0 S d_Md_literal_26 ?_
      refine aw_iconst (v := 0) S d_Md_literal_27 (by decide) ?_
      refine aw_mput4 S hM n_fl_Md_93 d_Md_literal_28 (fun g_ hM => ?_)
      refine aw_aload_0 S d_Md_literal_31 ?_
      refine aw_iconst (v := 0) S d_Md_literal_32 (by decide) ?_
      refine aw_mput5 S hM n_fl_Md_96 d_Md_literal_33 (fun g_ hM => ?_)
      refine aw_iconst (v := 0) S d_Md_literal_36 (by decide) ?_
      refine aw_topi nI_0.symm ?_
      refine aw_istore_3 S d_Md_literal_37 ?_
      exact loop tape.length 0 _ f _ [] none none hM (lit_ok.mpr ⟨aw_b_t c11, c16⟩) (by omega) (by omega) (by simp; omega) rfl rfl mL.nil rfl ((mfr.rf.v (by decide)).v (by decide))
    · refine aw_aload_0 S d_Md_literal_19 ?_
      refine aw_iconst (v := 0) S d_Md_literal_20 (by decide) ?_
      refine aw_mput0 S hM n_fl_Md_90 d_Md_literal_21 (fun g_ hM => ?_)
      refine aw_iconst (v := -1) S d_Md_literal_24 (by decide) ?_
      refine aw_iret S rfl d_Md_literal_25 ?_ (by decide) (by decide)
      have hb : ¬ (s0 = 0 ∨ s0 = 2 ∨ s0 = 3 ∨ s0 = 4) := fun z => (lit_ok.mp z).2 c16
      refine ⟨?_, rfl, _, f, hM, ?_⟩
      · rw [op_litR, if_neg hb]
      · rw [op_litT, if_neg hb]; exact hs.clr
