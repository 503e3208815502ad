/-! references read in parts: the rest -/
def sp_part (xs : List Int32) (w : Nat) : List Int32 := match sp_pt xs w with
  | some q => (xs.take q.2).drop q.1
  | none => []
def sp_plen (xs : List Int32) (w : Nat) : Int32 := match sp_pt xs w with
  | some q => nI (q.2 - q.1)
  | none => 0
theorem sp_pt_le {xs : List Int32} {w : Nat} {q : Nat × Nat} (h : sp_pt xs w = some q) : q.1 ≤ q.2 ∧ q.2 ≤ xs.length := by
  have h1 := sp_p1_le xs
  have h2 := sp_p2_le xs
  have h3 := sp_p3_le xs
  match w, h with
  | 0, h =>
    cases hc : sp_col xs with
    | none => simp [sp_pt, hc] at h
    | some c =>
      simp [sp_pt, hc] at h
      have := sp_col_lt hc
      rw [← h]
      exact ⟨Nat.zero_le _, by show c ≤ _; omega⟩
  | 1, h =>
    rw [sp_pt] at h
    split at h
    · next ha =>
      cases h
      have e : sp_p1 xs = sp_nx [47, 63, 35] xs (sp_p0 xs + 2) := by rw [sp_p1, if_pos ha]
      have := (sp_nx_le (L := [47, 63, 35]) (sp_au_le ha)).1
      rw [← e] at this
      exact ⟨this, h1⟩
    · cases h
  | 2, h => rw [sp_pt] at h; cases h; exact h2
  | 3, h =>
    rw [sp_pt] at h
    split at h
    · next hc =>
      cases h
      have hlt : sp_p2 xs < xs.length := by
        rcases Nat.lt_or_ge (sp_p2 xs) xs.length with q | q
        · exact q
        · rw [getD_out q] at hc; exact absurd hc (by decide)
      refine ⟨?_, h3.2⟩
      show sp_p2 xs + 1 ≤ sp_p3 xs
      have e : sp_p3 xs = sp_nxF [35] (xs.drop (sp_p2 xs)) (sp_p2 xs) := rfl
      rw [drop_cons hlt, sp_nxF, hc, if_neg (by decide)] at e
      rw [e]
      exact (sp_nxF_le _ _ _).1
    · cases h
  | k + 4, h =>
    rw [sp_pt] at h
    split at h
    · next hc =>
      cases h
      have hlt : sp_p3 xs < xs.length := by
        rcases Nat.lt_or_ge (sp_p3 xs) xs.length with q | q
        · exact q
        · rw [getD_out q] at hc; exact absurd hc (by decide)
      exact ⟨hlt, Nat.le_refl _⟩
    · cases h
    · intro z; simp at z
    · intro z; simp at z
    · intro z; simp at z
    · intro z; simp at z
theorem Rfst.note {E : aw_E} {g : AH} {a r k : Nat} {xs : List Int32} {fb fe : Nat → Int32} {x y : Int32} (hF : IsRf E g a r (upd fb k x) (upd fe k y)) (h2 : ∀ w, w < k → okp xs fb fe w) (h3 : ∀ w, k ≤ w → w < 5 → fe w = -1) (hq : okp xs (upd fb k x) (upd fe k y) k) : Rfst E g a r xs (k + 1) := by
  refine ⟨_, _, hF, fun w hw => ?_, fun w h4 h5 => ?_⟩
  · by_cases e : w = k
    · subst e; exact hq
    · exact okp_upd e (h2 w (by omega))
  · rw [pk_un (by omega)]; exact h3 w (by omega) h5
set_option maxRecDepth 100000 in
set_option maxHeartbeats 4000000 in
theorem ev_Rf_colonOfScheme {l : Launch} {E : aw_E} {g : AH} {n : Nat} {a r N : Nat} {fb fe : Nat → Int32} {xs : List Int32} (hF : IsRf E g a r fb fe) (hR : IsRow E g r N xs) : EV l E 3 0 0 y_Rf_colonOfScheme c_Rf_colonOfScheme 3 (some .int) g n [.ref a] (aw_Pi (fun r_ g2 n2 => r_ = oi (sp_col xs) ∧ g2 = g ∧ n2 = n)) := by
  have hN := hR.room
  refine aw_enter "AddressTerms$Reference" [some (.ref a), none, none] (by decide) rfl rfl (Nat.le_of_ble_eq_true rfl) ?_
  intro p e s m args below meth c S hnm
  have loop : ∀ (j k : Nat) (x : Option Value), k + j = xs.length → csch (xs.drop k) k = sp_col xs → AW p l e { frames := 3, cells := 0, slots := 0, locals := 40 * 3 } s m args below meth c E 3 (aw_Z E (aw_Pi (fun r_ g2 n2 => r_ = oi (sp_col xs) ∧ g2 = g ∧ n2 = n)) below args s 0 0) 0 0 g n 18 [some (.ref a), some (.int (nI k)), x] [] := by
    intro j
    induction j with
    | zero =>
      intro k x hk hv
      rw [List.drop_eq_nil_iff.mpr (show xs.length ≤ k by omega), csch] at hv
      refine aw_iload_1 S d_Rf_colonOfScheme_18 ?_
      refine aw_aload_0 S d_Rf_colonOfScheme_19 ?_
      refine aw_getf S I_Rf 2 hF.2.1 n_fl_Rf_23 d_Rf_colonOfScheme_20 rfl (by decide) ?_
      refine aw_callViR S (ev_Rw_size hR) mb_Rw_size mi_Rw_size n_ml_Rf_55 d_Rf_colonOfScheme_23 I_Rw hR.cell rfl rfl rfl ?_
      refine aw_icmp_ge S 79 d_Rf_colonOfScheme_26 (by decide) (fun c26 => ?_) (fun c26 => ?_)
      · refine aw_iconst (v := -1) S d_Rf_colonOfScheme_79 (by decide) ?_
        refine aw_iret S rfl d_Rf_colonOfScheme_80 ?_ (by decide) (by decide)
        exact ⟨by rw [← hv]; rfl, rfl, rfl⟩
      · exact absurd (nI_le (by omega) (by omega)) c26
    | succ j ih =>
      intro k x hk hv
      have hkx : k < xs.length := by omega
      rw [drop_cons hkx, csch] at hv
      refine aw_iload_1 S d_Rf_colonOfScheme_18 ?_
      refine aw_aload_0 S d_Rf_colonOfScheme_19 ?_
      refine aw_getf S I_Rf 2 hF.2.1 n_fl_Rf_23 d_Rf_colonOfScheme_20 rfl (by decide) ?_
      refine aw_callViR S (ev_Rw_size hR) mb_Rw_size mi_Rw_size n_ml_Rf_55 d_Rf_colonOfScheme_23 I_Rw hR.cell rfl rfl rfl ?_
      refine aw_icmp_ge S 79 d_Rf_colonOfScheme_26 (by decide) (fun c26 => ?_) (fun c26 => ?_)
      · exact absurd c26 (nI_ge (by omega) (by omega))
      · refine aw_aload_0 S d_Rf_colonOfScheme_29 ?_
        refine aw_getf S I_Rf 2 hF.2.1 n_fl_Rf_23 d_Rf_colonOfScheme_30 rfl (by decide) ?_
        refine aw_iload_1 S d_Rf_colonOfScheme_33 ?_
        refine aw_callViR S (ev_Rw_byteAt (nI k) hR) mb_Rw_byteAt mi_Rw_byteAt n_ml_Rf_51 d_Rf_colonOfScheme_34 I_Rw hR.cell rfl rfl rfl ?_
        rw [sp_at_nI (by omega)]
        refine aw_istore_2 S d_Rf_colonOfScheme_37 ?_
        refine aw_iload_2 S d_Rf_colonOfScheme_38 ?_
        refine aw_bipush (v := 58) S d_Rf_colonOfScheme_39 (by decide) ?_
        refine aw_icmp_ne S 46 d_Rf_colonOfScheme_41 (by decide) (fun c41 => ?_) (fun c41 => ?_)
        · refine aw_iload_2 S d_Rf_colonOfScheme_46 ?_
          refine aw_callSNiR S (ev_At_isLetterOrDigit (xs.getD k (-1))) mb_At_isLetterOrDigit n_st_At_isLetterOrDigit (S.2.2.1.2.2.1 _ (List.mem_of_getElem? (i := 3) rfl)) d_Rf_colonOfScheme_47 rfl rfl ?_
          refine aw_if_ne S 73 d_Rf_colonOfScheme_50 (by decide) (fun c50 => ?_) (fun c50 => ?_)
          · refine aw_iinc_1 (v := nI (k + 1)) S d_Rf_colonOfScheme_73 ((nI_succ k).symm) ?_
            refine aw_goto S 18 d_Rf_colonOfScheme_76 (by decide) ?_
            have hs : sp_sch (xs.getD k (-1)) = true := by simp_all [sp_sch, aw_b]
            rw [if_neg c41, if_pos hs] at hv
            exact ih (k + 1) _ (by omega) hv
          · refine aw_iload_2 S d_Rf_colonOfScheme_53 ?_
            refine aw_bipush (v := 43) S d_Rf_colonOfScheme_54 (by decide) ?_
            refine aw_icmp_eq S 73 d_Rf_colonOfScheme_56 (by decide) (fun c56 => ?_) (fun c56 => ?_)
            · refine aw_iinc_1 (v := nI (k + 1)) S d_Rf_colonOfScheme_73 ((nI_succ k).symm) ?_
              refine aw_goto S 18 d_Rf_colonOfScheme_76 (by decide) ?_
              have hs : sp_sch (xs.getD k (-1)) = true := by simp_all [sp_sch, aw_b]
              rw [if_neg c41, if_pos hs] at hv
              exact ih (k + 1) _ (by omega) hv
            · refine aw_iload_2 S d_Rf_colonOfScheme_59 ?_
              refine aw_bipush (v := 45) S d_Rf_colonOfScheme_60 (by decide) ?_
              refine aw_icmp_eq S 73 d_Rf_colonOfScheme_62 (by decide) (fun c62 => ?_) (fun c62 => ?_)
              · refine aw_iinc_1 (v := nI (k + 1)) S d_Rf_colonOfScheme_73 ((nI_succ k).symm) ?_
                refine aw_goto S 18 d_Rf_colonOfScheme_76 (by decide) ?_
                have hs : sp_sch (xs.getD k (-1)) = true := by simp_all [sp_sch, aw_b]
                rw [if_neg c41, if_pos hs] at hv
                exact ih (k + 1) _ (by omega) hv
              · refine aw_iload_2 S d_Rf_colonOfScheme_65 ?_
                refine aw_bipush (v := 46) S d_Rf_colonOfScheme_66 (by decide) ?_
                refine aw_icmp_eq S 73 d_Rf_colonOfScheme_68 (by decide) (fun c68 => ?_) (fun c68 => ?_)
                · refine aw_iinc_1 (v := nI (k + 1)) S d_Rf_colonOfScheme_73 ((nI_succ k).symm) ?_
                  refine aw_goto S 18 d_Rf_colonOfScheme_76 (by decide) ?_
                  have hs : sp_sch (xs.getD k (-1)) = true := by simp_all [sp_sch, aw_b]
                  rw [if_neg c41, if_pos hs] at hv
                  exact ih (k + 1) _ (by omega) hv
                · refine aw_iconst (v := -1) S d_Rf_colonOfScheme_71 (by decide) ?_
                  refine aw_iret S rfl d_Rf_colonOfScheme_72 ?_ (by decide) (by decide)
                  have hs : sp_sch (xs.getD k (-1)) = false := by simp_all [sp_sch, aw_b]
                  rw [if_neg c41, hs] at hv
                  exact ⟨by rw [← hv]; rfl, rfl, rfl⟩
        · refine aw_iload_1 S d_Rf_colonOfScheme_44 ?_
          refine aw_iret S rfl d_Rf_colonOfScheme_45 ?_ (by decide) (by decide)
          rw [if_pos c41] at hv
          exact ⟨by rw [← hv]; rfl, rfl, rfl⟩
  refine aw_aload_0 S d_Rf_colonOfScheme_0 ?_
  refine aw_getf S I_Rf 2 hF.2.1 n_fl_Rf_23 d_Rf_colonOfScheme_1 rfl (by decide) ?_
  refine aw_iconst (v := 0) S d_Rf_colonOfScheme_4 (by decide) ?_
  refine aw_topi nI_0.symm ?_
  refine aw_callViR S (ev_Rw_byteAt (nI 0) hR) mb_Rw_byteAt mi_Rw_byteAt n_ml_Rf_51 d_Rf_colonOfScheme_5 I_Rw hR.cell rfl rfl rfl ?_
  rw [sp_at_nI (by decide)]
  refine aw_callSNiR S (ev_At_isLetter (xs.getD 0 (-1))) mb_At_isLetter n_st_At_isLetter (S.2.2.1.2.2.1 _ (List.mem_of_getElem? (i := 2) rfl)) d_Rf_colonOfScheme_8 rfl rfl ?_
  refine aw_if_ne S 16 d_Rf_colonOfScheme_11 (by decide) (fun c11 => ?_) (fun c11 => ?_)
  · refine aw_iconst (v := 1) S d_Rf_colonOfScheme_16 (by decide) ?_
    refine aw_istore_1 S d_Rf_colonOfScheme_17 ?_
    cases xs with
    | nil => exact absurd (show aw_b (sp_let (-1)) = 0 by decide) c11
    | cons b q =>
      have hb : sp_let b = true := aw_b_t c11
      exact loop q.length 1 none (by simp; omega) (by rw [sp_col, if_pos hb]; rfl)
  · refine aw_iconst (v := -1) S d_Rf_colonOfScheme_14 (by decide) ?_
    refine aw_iret S rfl d_Rf_colonOfScheme_15 ?_ (by decide) (by decide)
    cases xs with
    | nil => exact ⟨rfl, rfl, rfl⟩
    | cons b q =>
      have hb : sp_let b = false := aw_b_f c11
      exact ⟨by rw [sp_col, hb]; rfl, rfl, rfl⟩
set_option maxRecDepth 100000 in
set_option maxHeartbeats 4000000 in
theorem ev_Rf_read {l : Launch} {E : aw_E} {g : AH} {n : Nat} {a r0 r N : Nat} {fb fe : Nat → Int32} {xs : List Int32} (hF : IsRf E g a r0 fb fe) (hR : IsRow E g r N xs) (hd : r + 2 ≤ a ∨ a + 3 ≤ r) : EV l E 5 0 0 y_Rf_read c_Rf_read 6 none g n [.ref a, .ref r] (aw_Pv (fun g2 n2 => n2 = n ∧ Rfst E g2 a r xs 5 ∧ aw_fr g g2 a 3)) := by
  have hN := hR.room
  refine aw_enter "AddressTerms$Reference" [some (.ref a), some (.ref r), none, none, none, none] (by decide) rfl rfl (Nat.le_of_ble_eq_true rfl) ?_
  intro p e s m args below meth c S hnm
  have hp1 := sp_p1_le xs
  have hp2 := sp_p2_le xs
  have hp3 := sp_p3_le xs
  have hp0 := sp_p0_le xs
  have s148 : ∀ (g1 : AH) (u v : Option Value), Rfst E g1 a r xs 4 → IsRow E g1 r N xs → aw_fr g g1 a 3 → AW p l e { frames := 5, cells := 0, slots := 0, locals := 40 * 5 } s m args below meth c E 6 (aw_Z E (aw_Pv (fun g2 n2 => n2 = n ∧ Rfst E g2 a r xs 5 ∧ aw_fr g g2 a 3)) below args s 0 0) 0 0 g1 n 148 [some (.ref a), some (.ref r), u, v, some (.int (nI (sp_p2 xs))), some (.int (nI (sp_p3 xs)))] [] := by
    intro g1 u v hk hRk hFk
    obtain ⟨fb1, fe1, hf, ho1, ho2⟩ := id hk
    refine aw_aload_0 S d_Rf_read_148 ?_
    refine aw_getf S I_Rf 2 hf.2.1 n_fl_Rf_23 d_Rf_read_149 rfl (by decide) ?_
    refine aw_iload_5 S d_Rf_read_152 ?_
    refine aw_callViR S (ev_Rw_byteAt (nI (sp_p3 xs)) hRk) mb_Rw_byteAt mi_Rw_byteAt n_ml_Rf_51 d_Rf_read_154 I_Rw hRk.cell rfl rfl rfl ?_
    rw [sp_at_nI (by omega)]
    refine aw_bipush (v := 35) S d_Rf_read_157 (by decide) ?_
    refine aw_icmp_ne S 178 d_Rf_read_159 (by decide) (fun c159 => ?_) (fun c159 => ?_)
    · refine aw_vret S rfl d_Rf_read_178 ?_ (by decide) (by decide)
      exact ⟨rfl, hk.skip (by decide) (by rw [sp_pt, if_neg c159] <;> (intro z; simp at z)), hFk⟩
    · refine aw_aload_0 S d_Rf_read_162 ?_
      refine aw_iconst (v := 4) S d_Rf_read_163 (by decide) ?_
      refine aw_topi (show (4 : Int32) = nI 4 from rfl) ?_
      refine aw_iload_5 S d_Rf_read_164 ?_
      refine aw_iconst (v := 1) S d_Rf_read_166 (by decide) ?_
      refine aw_iadd S d_Rf_read_167 ?_
      refine aw_topi (nI_1 _) ?_
      refine aw_aload_0 S d_Rf_read_168 ?_
      refine aw_getf S I_Rf 2 hf.2.1 n_fl_Rf_23 d_Rf_read_169 rfl (by decide) ?_
      refine aw_callViR S (ev_Rw_size hRk) mb_Rw_size mi_Rw_size n_ml_Rf_55 d_Rf_read_172 I_Rw hRk.cell rfl rfl rfl ?_
      refine aw_callVv0 S (ev_Rf_note 4 (nI (sp_p3 xs + 1)) (nI xs.length) hf (by decide)) mb_Rf_note mi_Rf_note n_ml_Rf_27 d_Rf_read_175 I_Rf hf.2.1 rfl rfl rfl (fun g2_ n2_ h_ => ?_)
      obtain ⟨rfl, hf2, hF2⟩ := h_
      refine aw_vret S rfl d_Rf_read_178 ?_ (by decide) (by decide)
      refine ⟨rfl, Rfst.note hf2 ho1 ho2 ?_, hFk.tr hF2⟩
      have e : sp_pt xs 4 = some (sp_p3 xs + 1, xs.length) := by rw [sp_pt, if_pos c159] <;> (intro z; simp at z)
      unfold okp
      rw [e, pk_us, pk_us]
      exact ⟨rfl, rfl⟩
  have s90 : ∀ (g1 : AH) (u v q : Option Value), Rfst E g1 a r xs 2 → IsRow E g1 r N xs → aw_fr g g1 a 3 → AW p l e { frames := 5, cells := 0, slots := 0, locals := 40 * 5 } s m args below meth c E 6 (aw_Z E (aw_Pv (fun g2 n2 => n2 = n ∧ Rfst E g2 a r xs 5 ∧ aw_fr g g2 a 3)) below args s 0 0) 0 0 g1 n 90 [some (.ref a), some (.ref r), u, some (.int (nI (sp_p1 xs))), v, q] [] := by
    intro g1 u v q hk hRk hFk
    obtain ⟨fb1, fe1, hf, ho1, ho2⟩ := id hk
    refine aw_aload_0 S d_Rf_read_90 ?_
    refine aw_getf S I_Rf 2 hf.2.1 n_fl_Rf_23 d_Rf_read_91 rfl (by decide) ?_
    refine aw_iload_3 S d_Rf_read_94 ?_
    refine aw_ldcS S 16 (by decide) rfl d_Rf_read_95 ?_
    refine aw_callViR S (ev_Rw_nextOf (sp_p1 xs) 16 hRk (by decide) hp1) mb_Rw_nextOf mi_Rw_nextOf n_ml_Rf_43 d_Rf_read_97 I_Rw hRk.cell rfl rfl rfl ?_
    rw [show sp_nx (st_b 16) xs (sp_p1 xs) = sp_p2 xs from rfl]
    refine aw_istore_4 S d_Rf_read_100 ?_
    refine aw_aload_0 S d_Rf_read_102 ?_
    refine aw_iconst (v := 2) S d_Rf_read_103 (by decide) ?_
    refine aw_topi (show (2 : Int32) = nI 2 from rfl) ?_
    refine aw_iload_3 S d_Rf_read_104 ?_
    refine aw_iload_4 S d_Rf_read_105 ?_
    refine aw_callVv0 S (ev_Rf_note 2 (nI (sp_p1 xs)) (nI (sp_p2 xs)) hf (by decide)) mb_Rf_note mi_Rf_note n_ml_Rf_27 d_Rf_read_107 I_Rf hf.2.1 rfl rfl rfl (fun g2_ n2_ h_ => ?_)
    obtain ⟨rfl, hf2, hF2⟩ := h_
    have hk3 : Rfst E g2_ a r xs 3 := Rfst.note hf2 ho1 ho2 (by unfold okp; rw [show sp_pt xs 2 = some (sp_p1 xs, sp_p2 xs) from rfl, pk_us, pk_us]; exact ⟨rfl, rfl⟩)
    have hRk := hRk.fr hF2 (by omega)
    have hFk := hFk.tr hF2
    clear hF2
    obtain ⟨fb3, fe3, hf3, ho3, ho4⟩ := id hk3
    refine aw_aload_0 S d_Rf_read_110 ?_
    refine aw_getf S I_Rf 2 hf3.2.1 n_fl_Rf_23 d_Rf_read_111 rfl (by decide) ?_
    refine aw_iload_4 S d_Rf_read_114 ?_
    refine aw_ldcS S 17 (by decide) rfl d_Rf_read_116 ?_
    refine aw_callViR S (ev_Rw_nextOf (sp_p2 xs) 17 hRk (by decide) hp2.2) mb_Rw_nextOf mi_Rw_nextOf n_ml_Rf_43 d_Rf_read_118 I_Rw hRk.cell rfl rfl rfl ?_
    rw [show sp_nx (st_b 17) xs (sp_p2 xs) = sp_p3 xs from rfl]
    refine aw_istore_5 S d_Rf_read_121 ?_
    refine aw_aload_0 S d_Rf_read_123 ?_
    refine aw_getf S I_Rf 2 hf3.2.1 n_fl_Rf_23 d_Rf_read_124 rfl (by decide) ?_
    refine aw_iload_4 S d_Rf_read_127 ?_
    refine aw_callViR S (ev_Rw_byteAt (nI (sp_p2 xs)) hRk) mb_Rw_byteAt mi_Rw_byteAt n_ml_Rf_51 d_Rf_read_129 I_Rw hRk.cell rfl rfl rfl ?_
    rw [sp_at_nI (by omega)]
    refine aw_bipush (v := 63) S d_Rf_read_132 (by decide) ?_
    refine aw_icmp_ne S 148 d_Rf_read_134 (by decide) (fun c134 => ?_) (fun c134 => ?_)
    · exact s148 _ _ _ (hk3.skip (by decide) (by rw [sp_pt, if_neg c134])) hRk hFk
    · refine aw_aload_0 S d_Rf_read_137 ?_
      refine aw_iconst (v := 3) S d_Rf_read_138 (by decide) ?_
      refine aw_topi (show (3 : Int32) = nI 3 from rfl) ?_
      refine aw_iload_4 S d_Rf_read_139 ?_
      refine aw_iconst (v := 1) S d_Rf_read_141 (by decide) ?_
      refine aw_iadd S d_Rf_read_142 ?_
      refine aw_topi (nI_1 _) ?_
      refine aw_iload_5 S d_Rf_read_143 ?_
      refine aw_callVv0 S (ev_Rf_note 3 (nI (sp_p2 xs + 1)) (nI (sp_p3 xs)) hf3 (by decide)) mb_Rf_note mi_Rf_note n_ml_Rf_27 d_Rf_read_145 I_Rf hf3.2.1 rfl rfl rfl (fun g2_ n2_ h_ => ?_)
      obtain ⟨rfl, hf4, hF4⟩ := h_
      refine s148 _ _ _ (Rfst.note hf4 ho3 ho4 ?_) (hRk.fr hF4 (by omega)) (hFk.tr hF4)
      unfold okp
      rw [show sp_pt xs 3 = some (sp_p2 xs + 1, sp_p3 xs) by rw [sp_pt, if_pos c134], pk_us, pk_us]
      exact ⟨rfl, rfl⟩
  have s50 : ∀ (g1 : AH) (u : Int32) (v q : Option Value), Rfst E g1 a r xs 1 → IsRow E g1 r N xs → aw_fr g g1 a 3 → AW p l e { frames := 5, cells := 0, slots := 0, locals := 40 * 5 } s m args below meth c E 6 (aw_Z E (aw_Pv (fun g2 n2 => n2 = n ∧ Rfst E g2 a r xs 5 ∧ aw_fr g g2 a 3)) below args s 0 0) 0 0 g1 n 50 [some (.ref a), some (.ref r), some (.int u), some (.int (nI (sp_p0 xs))), v, q] [] := by
    intro g1 u v q hk hRk hFk
    obtain ⟨fb1, fe1, hf, ho1, ho2⟩ := id hk
    refine aw_aload_0 S d_Rf_read_50 ?_
    refine aw_getf S I_Rf 2 hf.2.1 n_fl_Rf_23 d_Rf_read_51 rfl (by decide) ?_
    refine aw_iload_3 S d_Rf_read_54 ?_
    refine aw_ldcS S 14 (by decide) rfl d_Rf_read_55 ?_
    refine aw_callViR S (ev_Rw_hasThere (sp_p0 xs) 14 hRk (by decide) (by omega)) mb_Rw_hasThere mi_Rw_hasThere n_ml_Rf_37 d_Rf_read_57 I_Rw hRk.cell rfl rfl rfl ?_
    refine aw_if_eq S 90 d_Rf_read_60 (by decide) (fun c60 => ?_) (fun c60 => ?_)
    · have hau : sp_au xs = false := aw_b_f c60
      have e1 : sp_p1 xs = sp_p0 xs := by rw [sp_p1, hau]; rfl
      rw [← e1]
      exact s90 _ _ _ _ (hk.skip (by decide) (by rw [sp_pt, hau]; rfl)) hRk hFk
    · have hau : sp_au xs = true := aw_b_t c60
      have e1 : sp_p1 xs = sp_nx [47, 63, 35] xs (sp_p0 xs + 2) := by rw [sp_p1, if_pos hau]
      refine aw_aload_0 S d_Rf_read_63 ?_
      refine aw_getf S I_Rf 2 hf.2.1 n_fl_Rf_23 d_Rf_read_64 rfl (by decide) ?_
      refine aw_iload_3 S d_Rf_read_67 ?_
      refine aw_iconst (v := 2) S d_Rf_read_68 (by decide) ?_
      refine aw_topi (show (2 : Int32) = nI 2 from rfl) ?_
      refine aw_iadd S d_Rf_read_69 ?_
      refine aw_topi (nI_add _ _) ?_
      refine aw_ldcS S 15 (by decide) rfl d_Rf_read_70 ?_
      refine aw_callViR S (ev_Rw_nextOf (sp_p0 xs + 2) 15 hRk (by decide) (sp_au_le hau)) mb_Rw_nextOf mi_Rw_nextOf n_ml_Rf_43 d_Rf_read_72 I_Rw hRk.cell rfl rfl rfl ?_
      rw [show sp_nx (st_b 15) xs (sp_p0 xs + 2) = sp_p1 xs from e1.symm]
      refine aw_istore_4 S d_Rf_read_75 ?_
      refine aw_aload_0 S d_Rf_read_77 ?_
      refine aw_iconst (v := 1) S d_Rf_read_78 (by decide) ?_
      refine aw_topi (show (1 : Int32) = nI 1 from rfl) ?_
      refine aw_iload_3 S d_Rf_read_79 ?_
      refine aw_iconst (v := 2) S d_Rf_read_80 (by decide) ?_
      refine aw_topi (show (2 : Int32) = nI 2 from rfl) ?_
      refine aw_iadd S d_Rf_read_81 ?_
      refine aw_topi (nI_add _ _) ?_
      refine aw_iload_4 S d_Rf_read_82 ?_
      refine aw_callVv0 S (ev_Rf_note 1 (nI (sp_p0 xs + 2)) (nI (sp_p1 xs)) hf (by decide)) mb_Rf_note mi_Rf_note n_ml_Rf_27 d_Rf_read_84 I_Rf hf.2.1 rfl rfl rfl (fun g2_ n2_ h_ => ?_)
      obtain ⟨rfl, hf2, hF2⟩ := h_
      refine aw_iload_4 S d_Rf_read_87 ?_
      refine aw_istore_3 S d_Rf_read_89 ?_
      refine s90 _ _ _ _ (Rfst.note hf2 ho1 ho2 ?_) (hRk.fr hF2 (by omega)) (hFk.tr hF2)
      unfold okp
      rw [show sp_pt xs 1 = some (sp_p0 xs + 2, sp_p1 xs) by rw [sp_pt, if_pos hau], pk_us, pk_us]
      exact ⟨rfl, rfl⟩
  have s25 : ∀ (g1 : AH) (u : Option Value), Rfst E g1 a r xs 0 → IsRow E g1 r N xs → aw_fr g g1 a 3 → AW p l e { frames := 5, cells := 0, slots := 0, locals := 40 * 5 } s m args below meth c E 6 (aw_Z E (aw_Pv (fun g2 n2 => n2 = n ∧ Rfst E g2 a r xs 5 ∧ aw_fr g g2 a 3)) below args s 0 0) 0 0 g1 n 25 [some (.ref a), some (.ref r), u, none, none, none] [] := by
    intro g1 u hk hRk hFk
    obtain ⟨fb1, fe1, hf, ho1, ho2⟩ := id hk
    refine aw_aload_0 S d_Rf_read_25 ?_
    refine aw_callViR S (ev_Rf_colonOfScheme hf hRk) mb_Rf_colonOfScheme mi_Rf_colonOfScheme n_ml_Rf_31 d_Rf_read_26 I_Rf hf.2.1 rfl rfl rfl ?_
    refine aw_istore_2 S d_Rf_read_29 ?_
    refine aw_aload_0 S d_Rf_read_30 ?_
    refine aw_iconst (v := 0) S d_Rf_read_31 (by decide) ?_
    refine aw_iconst (v := 0) S d_Rf_read_32 (by decide) ?_
    refine aw_iload_2 S d_Rf_read_33 ?_
    refine aw_callVv0 S (ev_Rf_note 0 0 (oi (sp_col xs)) hf (by decide)) mb_Rf_note mi_Rf_note n_ml_Rf_27 d_Rf_read_34 I_Rf hf.2.1 rfl rfl rfl (fun g2_ n2_ h_ => ?_)
    obtain ⟨rfl, hf2, hF2⟩ := h_
    refine aw_iload_2 S d_Rf_read_37 ?_
    refine aw_iconst (v := -1) S d_Rf_read_38 (by decide) ?_
    refine aw_icmp_ne S 46 d_Rf_read_39 (by decide) (fun c39 => ?_) (fun c39 => ?_)
    · cases hc : sp_col xs with
      | none => rw [hc] at c39; exact absurd rfl c39
      | some c0 =>
      refine aw_iload_2 S d_Rf_read_46 ?_
      refine aw_iconst (v := 1) S d_Rf_read_47 (by decide) ?_
      refine aw_iadd S d_Rf_read_48 ?_
      refine aw_istore_3 S d_Rf_read_49 ?_
      have e0 : oi (some c0) + 1 = nI (sp_p0 xs) := by rw [sp_p0, hc]; exact nI_1 c0
      rw [e0]
      refine s50 _ _ _ _ (Rfst.note hf2 ho1 ho2 ?_) (hRk.fr hF2 (by omega)) (hFk.tr hF2)
      unfold okp
      rw [show sp_pt xs 0 = some (0, c0) by rw [sp_pt, hc]; rfl, pk_us, pk_us, hc]
      exact ⟨rfl, rfl⟩
    · have hc : sp_col xs = none := by
        cases hc : sp_col xs with
        | none => rfl
        | some c0 => rw [hc] at c39; exact absurd c39 (nI_m (by have := sp_col_lt hc; omega))
      refine aw_iconst (v := 0) S d_Rf_read_42 (by decide) ?_
      refine aw_goto S 49 d_Rf_read_43 (by decide) ?_
      refine aw_istore_3 S d_Rf_read_49 ?_
      have e0 : (0 : Int32) = nI (sp_p0 xs) := by rw [sp_p0, hc]; rfl
      rw [e0]
      refine s50 _ _ _ _ (Rfst.note hf2 ho1 ho2 ?_) (hRk.fr hF2 (by omega)) (hFk.tr hF2)
      unfold okp
      rw [show sp_pt xs 0 = none by rw [sp_pt, hc]; rfl, pk_us, hc]
      rfl
  have loop : ∀ (j k : Nat) (g1 : AH) (fb1 fe1 : Nat → Int32), k + j = 5 → IsRf E g1 a r fb1 fe1 → (∀ w, w < k → fe1 w = -1) → IsRow E g1 r N xs → aw_fr g g1 a 3 → AW p l e { frames := 5, cells := 0, slots := 0, locals := 40 * 5 } s m args below meth c E 6 (aw_Z E (aw_Pv (fun g2 n2 => n2 = n ∧ Rfst E g2 a r xs 5 ∧ aw_fr g g2 a 3)) below args s 0 0) 0 0 g1 n 7 [some (.ref a), some (.ref r), some (.int (nI k)), none, none, none] [] := by
    intro j
    induction j with
    | zero =>
      intro k g1 fb1 fe1 hk hf hw hRk hFk
      refine aw_iload_2 S d_Rf_read_7 ?_
      refine aw_iconst (v := 5) S d_Rf_read_8 (by decide) ?_
      refine aw_icmp_ge S 25 d_Rf_read_9 (by decide) (fun c9 => ?_) (fun c9 => ?_)
      · exact s25 _ _ ⟨fb1, fe1, hf, fun w h => absurd h (Nat.not_lt_zero w), fun w _ h => hw w (by omega)⟩ hRk hFk
      · exact absurd (nI_le (a := 5) (by omega) (by omega)) c9
    | succ j ih =>
      intro k g1 fb1 fe1 hk hf hw hRk hFk
      refine aw_iload_2 S d_Rf_read_7 ?_
      refine aw_iconst (v := 5) S d_Rf_read_8 (by decide) ?_
      refine aw_icmp_ge S 25 d_Rf_read_9 (by decide) (fun c9 => ?_) (fun c9 => ?_)
      · exact absurd c9 (nI_ge (b := 5) (by omega) (by omega))
      · refine aw_aload_0 S d_Rf_read_12 ?_
        refine aw_iload_2 S d_Rf_read_13 ?_
        refine aw_iconst (v := 0) S d_Rf_read_14 (by decide) ?_
        refine aw_iconst (v := -1) S d_Rf_read_15 (by decide) ?_
        refine aw_callVv0 S (ev_Rf_note k 0 (-1) hf (by omega)) mb_Rf_note mi_Rf_note n_ml_Rf_27 d_Rf_read_16 I_Rf hf.2.1 rfl rfl rfl (fun g2_ n2_ h_ => ?_)
        obtain ⟨rfl, hf2, hF2⟩ := h_
        refine aw_iinc_2 (v := nI (k + 1)) S d_Rf_read_19 ((nI_succ k).symm) ?_
        refine aw_goto S 7 d_Rf_read_22 (by decide) ?_
        refine ih (k + 1) _ _ _ (by omega) hf2 (fun w h => ?_) (hRk.fr hF2 (by omega)) (hFk.tr hF2)
        by_cases e : w = k
        · subst e; exact pk_us
        · rw [pk_un e]; exact hw w (by omega)
  refine aw_aload_0 S d_Rf_read_0 ?_
  refine aw_aload_1 S d_Rf_read_1 ?_
  refine aw_putf (fs2 := [.ref (a + 1), .ref (a + 2), .ref r]) S I_Rf 2 hF.2.1 n_fl_Rf_23 d_Rf_read_2 rfl hF.1 rfl rfl rfl (by decide) (Nat.le_of_ble_eq_true rfl) ?_
  refine aw_iconst (v := 0) S d_Rf_read_5 (by decide) ?_
  refine aw_topi nI_0.symm ?_
  refine aw_istore_2 S d_Rf_read_6 ?_
  exact loop 5 0 _ fb fe rfl ⟨hF.1, aw_up_s _ _ _, by rw [aw_up_n (by omega)]; exact hF.2.2.1, by rw [aw_up_n (by omega)]; exact hF.2.2.2⟩ (fun w h => absurd h (Nat.not_lt_zero w)) (hR.keep (aw_up_n (by omega)) (aw_up_n (by omega))) (fun x hx => aw_up_n (by omega))
