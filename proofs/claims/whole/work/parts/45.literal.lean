/-! the class: literals and tags -/
def sp_hxF (xs : List Int32) : Nat → Nat → Int32 → Int32
  | _, 0, t => if sp_txt t then t else -1
  | p, j + 1, t => if sp_hex (xs.getD p (-1)) = -1 then -1 else sp_hxF xs (p + 1) j (t * 16 + sp_hex (xs.getD p (-1)))
def sp_esc (xs : List Int32) (p : Nat) : Int32 := if xs.getD (p + 1) (-1) = 34 then 34 else if xs.getD (p + 1) (-1) = 92 then 92 else if xs.getD (p + 1) (-1) = 110 then 10 else if xs.getD (p + 1) (-1) = 114 then 13 else if xs.getD (p + 1) (-1) = 116 then 9 else if xs.getD (p + 1) (-1) = 117 then sp_hxF xs (p + 2) 4 0 else -1
def sp_rdB (xs : List Int32) (p : Nat) : Int32 := if xs.getD p (-1) = 92 then sp_esc xs p else if xs.getD p (-1) = 34 then -1 else xs.getD p (-1)
def sp_rdL (xs : List Int32) (p : Nat) : Nat := if xs.getD p (-1) = 92 then (if xs.getD (p + 1) (-1) = 117 then 6 else 2) else 1
def sp_rd (xs : List Int32) : Nat → Nat → List Int32 → Option Nat × List Int32
  | 0, _, acc => (none, acc)
  | f + 1, p, acc => if xs.length ≤ p then (none, acc) else if sp_rdB xs p = -1 then (some p, acc) else sp_rd xs f (p + sp_rdL xs p) (acc ++ [sp_rdB xs p])
def sp_rdr (xs : List Int32) : Option Nat × List Int32 := sp_rd xs xs.length 0 []
theorem txt_bt {b : Int32} (h : sp_txt b = true) : sp_bt b := by
  unfold sp_txt at h
  simp only [Bool.or_eq_true, decide_eq_true_eq] at h
  rcases h with rfl | rfl | rfl | h
  · unfold sp_bt; decide
  · unfold sp_bt; decide
  · unfold sp_bt; decide
  · exact tape_bt h
theorem hxF_bt (xs : List Int32) : ∀ (j p : Nat) (t : Int32), ¬ sp_hxF xs p j t = -1 → sp_bt (sp_hxF xs p j t) := by
  intro j
  induction j with
  | zero =>
    intro p t h
    rw [sp_hxF] at h ⊢
    split at h
    · next h1 => rw [if_pos h1]; exact txt_bt h1
    · exact absurd rfl h
  | succ j ih =>
    intro p t h
    rw [sp_hxF] at h ⊢
    split at h
    · exact absurd rfl h
    · next h1 => rw [if_neg h1]; exact ih _ _ h
theorem rdB_bt {xs : List Int32} {p : Nat} (hx : ∀ x ∈ xs, sp_bt x) (hp : p < xs.length) (h : ¬ sp_rdB xs p = -1) : sp_bt (sp_rdB xs p) := by
  unfold sp_rdB sp_esc at h ⊢
  repeat' split at h
  all_goals (first | (exact absurd rfl h) | skip)
  all_goals simp_all
  all_goals (first | (unfold sp_bt; decide) | (exact hxF_bt _ _ _ _ h) | (have := hx _ (getD_mem hp); simpa using this))
theorem rdL_pos (xs : List Int32) (p : Nat) : 1 ≤ sp_rdL xs p ∧ sp_rdL xs p ≤ 6 := by
  unfold sp_rdL
  split
  · split <;> decide
  · decide
theorem rd_len (xs : List Int32) : ∀ (f p : Nat) (acc : List Int32), (sp_rd xs f p acc).2.length ≤ acc.length + f := by
  intro f
  induction f with
  | zero => intro p acc; exact Nat.le_refl _
  | succ f ih =>
    intro p acc
    rw [sp_rd]
    split
    · exact Nat.le_add_right _ _
    · split
      · exact Nat.le_add_right _ _
      · have := ih (p + sp_rdL xs p) (acc ++ [sp_rdB xs p])
        rw [List.length_append, List.length_singleton] at this
        omega
theorem rd_lt (xs : List Int32) : ∀ (f p : Nat) (acc : List Int32) (k : Nat), (sp_rd xs f p acc).1 = some k → k < xs.length := by
  intro f
  induction f with
  | zero => intro p acc k h; cases h
  | succ f ih =>
    intro p acc k h
    rw [sp_rd] at h
    split at h
    · cases h
    · split at h
      · cases h; omega
      · exact ih _ _ _ h
set_option maxRecDepth 100000 in
set_option maxHeartbeats 4000000 in
theorem ev_At_hexByte {l : Launch} {E : aw_E} {g : AH} {n : Nat} {a N : Nat} {xs : List Int32} (k0 : Nat) (hR : IsRow E g a N xs) (hk0 : k0 < 10000) : EV l E 2 0 0 y_At_hexByte c_At_hexByte 5 (some .int) g n [.ref a, .int (nI k0)] (aw_Pi (fun r_ g2 n2 => r_ = sp_hxF xs k0 4 0 ∧ g2 = g ∧ n2 = n)) := by
  have hN := hR.room
  refine aw_enter "AddressTerms" [some (.ref a), some (.int (nI k0)), none, none, none] (by decide) rfl rfl (Nat.le_of_ble_eq_true rfl) ?_
  intro p e s m args below meth c S hnm
  have loop : ∀ (j i : Nat) (t : Int32) (w : Option Value), i + j = 4 → sp_hxF xs (k0 + i) j t = sp_hxF xs k0 4 0 → AW p l e { frames := 2, cells := 0, slots := 0, locals := 40 * 2 } s m args below meth c E 5 (aw_Z E (aw_Pi (fun r_ g2 n2 => r_ = sp_hxF xs k0 4 0 ∧ g2 = g ∧ n2 = n)) below args s 0 0) 0 0 g n 4 [some (.ref a), some (.int (nI k0)), some (.int t), some (.int (nI i)), w] [] := by
    intro j
    induction j with
    | zero =>
      intro i t w hi hv
      rw [sp_hxF] at hv
      refine aw_iload_3 S d_At_hexByte_4 ?_
      refine aw_iconst (v := 4) S d_At_hexByte_5 (by decide) ?_
      refine aw_icmp_ge S 43 d_At_hexByte_6 (by decide) (fun c6 => ?_) (fun c6 => ?_)
      · refine aw_iload_2 S d_At_hexByte_43 ?_
        refine aw_callSiR S (ev_At_isTextByte t) mb_At_isTextByte n_st_At_isTextByte n_ml_At_283 d_At_hexByte_44 rfl rfl ?_
        refine aw_if_eq S 54 d_At_hexByte_47 (by decide) (fun c47 => ?_) (fun c47 => ?_)
        · refine aw_iconst (v := -1) S d_At_hexByte_54 (by decide) ?_
          refine aw_iret S rfl d_At_hexByte_55 ?_ (by decide) (by decide)
          rw [aw_b_f c47] at hv
          exact ⟨hv, rfl, rfl⟩
        · refine aw_iload_2 S d_At_hexByte_50 ?_
          refine aw_goto S 55 d_At_hexByte_51 (by decide) ?_
          refine aw_iret S rfl d_At_hexByte_55 ?_ (by decide) (by decide)
          rw [aw_b_t c47] at hv
          exact ⟨hv, rfl, rfl⟩
      · exact absurd (nI_le (a := 4) (by omega) (by omega)) c6
    | succ j ih =>
      intro i t w hi hv
      rw [sp_hxF] at hv
      refine aw_iload_3 S d_At_hexByte_4 ?_
      refine aw_iconst (v := 4) S d_At_hexByte_5 (by decide) ?_
      refine aw_icmp_ge S 43 d_At_hexByte_6 (by decide) (fun c6 => ?_) (fun c6 => ?_)
      · exact absurd c6 (nI_ge (b := 4) (by omega) (by omega))
      · refine aw_aload_0 S d_At_hexByte_9 ?_
        refine aw_iload_1 S d_At_hexByte_10 ?_
        refine aw_iload_3 S d_At_hexByte_11 ?_
        refine aw_iadd S d_At_hexByte_12 ?_
        refine aw_topi (nI_add k0 i) ?_
        refine aw_callViR S (ev_Rw_byteAt (nI (k0 + i)) hR) mb_Rw_byteAt mi_Rw_byteAt n_ml_At_162 d_At_hexByte_13 I_Rw hR.cell rfl rfl rfl ?_
        rw [sp_at_nI (by omega)]
        refine aw_callSiR S (ev_At_hexValue (xs.getD (k0 + i) (-1))) mb_At_hexValue n_st_At_hexValue n_ml_At_270 d_At_hexByte_16 rfl rfl ?_
        refine aw_istore_4 S d_At_hexByte_19 ?_
        refine aw_iload_4 S d_At_hexByte_21 ?_
        refine aw_iconst (v := -1) S d_At_hexByte_23 (by decide) ?_
        refine aw_icmp_ne S 29 d_At_hexByte_24 (by decide) (fun c24 => ?_) (fun c24 => ?_)
        · refine aw_iload_2 S d_At_hexByte_29 ?_
          refine aw_bipush (v := 16) S d_At_hexByte_30 (by decide) ?_
          refine aw_imul S d_At_hexByte_32 ?_
          refine aw_iload_4 S d_At_hexByte_33 ?_
          refine aw_iadd S d_At_hexByte_35 ?_
          refine aw_istore_2 S d_At_hexByte_36 ?_
          refine aw_iinc_3 (v := nI (i + 1)) S d_At_hexByte_37 (inc_1 i) ?_
          refine aw_goto S 4 d_At_hexByte_40 (by decide) ?_
          rw [if_neg c24] at hv
          exact ih (i + 1) _ _ (by omega) hv
        · refine aw_iconst (v := -1) S d_At_hexByte_27 (by decide) ?_
          refine aw_iret S rfl d_At_hexByte_28 ?_ (by decide) (by decide)
          rw [if_pos c24] at hv
          exact ⟨hv, rfl, rfl⟩
  refine aw_iconst (v := 0) S d_At_hexByte_0 (by decide) ?_
  refine aw_istore_2 S d_At_hexByte_1 ?_
  refine aw_iconst (v := 0) S d_At_hexByte_2 (by decide) ?_
  refine aw_topi nI_0.symm ?_
  refine aw_istore_3 S d_At_hexByte_3 ?_
  exact loop 4 0 0 none rfl rfl
set_option maxRecDepth 100000 in
set_option maxHeartbeats 4000000 in
theorem ev_At_escapedByte {l : Launch} {E : aw_E} {g : AH} {n : Nat} {a N : Nat} {xs : List Int32} (k0 : Nat) (hR : IsRow E g a N xs) (hk0 : k0 < 5000) : EV l E 3 0 0 y_At_escapedByte c_At_escapedByte 2 (some .int) g n [.ref a, .int (nI k0)] (aw_Pi (fun r_ g2 n2 => r_ = sp_esc xs k0 ∧ g2 = g ∧ n2 = n)) := by
  have hN := hR.room
  refine aw_enter "AddressTerms" [some (.ref a), some (.int (nI k0))] (by decide) rfl rfl (Nat.le_of_ble_eq_true rfl) ?_
  intro p e s m args below meth c S hnm
  refine aw_aload_0 S d_At_escapedByte_0 ?_
  refine aw_iload_1 S d_At_escapedByte_1 ?_
  refine aw_iconst (v := 1) S d_At_escapedByte_2 (by decide) ?_
  refine aw_iadd S d_At_escapedByte_3 ?_
  refine aw_topi (nI_1 k0) ?_
  refine aw_callViR S (ev_Rw_byteAt (nI (k0 + 1)) hR) mb_Rw_byteAt mi_Rw_byteAt n_ml_At_162 d_At_escapedByte_4 I_Rw hR.cell rfl rfl rfl ?_
  rw [sp_at_nI (by omega)]
  by_cases h34 : xs.getD (k0 + 1) (-1) = 34
  · rw [h34]
    refine aw_lookup (off := 66) S 73 d_At_escapedByte_7 (by decide) (by decide) (by decide) ?_
    refine aw_bipush (v := 34) S d_At_escapedByte_73 (by decide) ?_
    refine aw_iret S rfl d_At_escapedByte_75 ?_ (by decide) (by decide)
    exact ⟨by rw [sp_esc, if_pos h34], rfl, rfl⟩
  · skip
    by_cases h92 : xs.getD (k0 + 1) (-1) = 92
    · rw [h92]
      refine aw_lookup (off := 69) S 76 d_At_escapedByte_7 (by decide) (by decide) (by decide) ?_
      refine aw_bipush (v := 92) S d_At_escapedByte_76 (by decide) ?_
      refine aw_iret S rfl d_At_escapedByte_78 ?_ (by decide) (by decide)
      exact ⟨by rw [sp_esc, if_neg h34, if_pos h92], rfl, rfl⟩
    · skip
      by_cases h110 : xs.getD (k0 + 1) (-1) = 110
      · rw [h110]
        refine aw_lookup (off := 60) S 67 d_At_escapedByte_7 (by decide) (by decide) (by decide) ?_
        refine aw_bipush (v := 10) S d_At_escapedByte_67 (by decide) ?_
        refine aw_iret S rfl d_At_escapedByte_69 ?_ (by decide) (by decide)
        exact ⟨by rw [sp_esc, if_neg h34, if_neg h92, if_pos h110], rfl, rfl⟩
      · skip
        by_cases h114 : xs.getD (k0 + 1) (-1) = 114
        · rw [h114]
          refine aw_lookup (off := 63) S 70 d_At_escapedByte_7 (by decide) (by decide) (by decide) ?_
          refine aw_bipush (v := 13) S d_At_escapedByte_70 (by decide) ?_
          refine aw_iret S rfl d_At_escapedByte_72 ?_ (by decide) (by decide)
          exact ⟨by rw [sp_esc, if_neg h34, if_neg h92, if_neg h110, if_pos h114], rfl, rfl⟩
        · skip
          by_cases h116 : xs.getD (k0 + 1) (-1) = 116
          · rw [h116]
            refine aw_lookup (off := 57) S 64 d_At_escapedByte_7 (by decide) (by decide) (by decide) ?_
            refine aw_bipush (v := 9) S d_At_escapedByte_64 (by decide) ?_
            refine aw_iret S rfl d_At_escapedByte_66 ?_ (by decide) (by decide)
            exact ⟨by rw [sp_esc, if_neg h34, if_neg h92, if_neg h110, if_neg h114, if_pos h116], rfl, rfl⟩
          · skip
            by_cases h117 : xs.getD (k0 + 1) (-1) = 117
            · rw [h117]
              refine aw_lookup (off := 72) S 79 d_At_escapedByte_7 (by decide) (by decide) (by decide) ?_
              refine aw_aload_0 S d_At_escapedByte_79 ?_
              refine aw_iload_1 S d_At_escapedByte_80 ?_
              refine aw_iconst (v := 2) S d_At_escapedByte_81 (by decide) ?_
              refine aw_topi (show (2 : Int32) = nI 2 from rfl) ?_
              refine aw_iadd S d_At_escapedByte_82 ?_
              refine aw_topi (nI_add k0 2) ?_
              refine aw_callSiR S (ev_At_hexByte (k0 + 2) hR (by omega)) mb_At_hexByte n_st_At_hexByte n_ml_At_280 d_At_escapedByte_83 rfl rfl ?_
              refine aw_iret S rfl d_At_escapedByte_86 ?_ (by decide) (by decide)
              exact ⟨by rw [sp_esc, if_neg h34, if_neg h92, if_neg h110, if_neg h114, if_neg h116, if_pos h117], rfl, rfl⟩
            · skip
              refine aw_lookup S 87 d_At_escapedByte_7 (by decide) (show Op.lookupswitch.offset [(34, 66), (92, 69), (110, 60), (114, 63), (116, 57), (117, 72)] 80 _ = 80 by rw [lv_osw (k := 34) h34 (by decide), lv_osw (k := 92) h92 (by decide), lv_osw (k := 110) h110 (by decide), lv_osw (k := 114) h114 (by decide), lv_osw (k := 116) h116 (by decide), lv_osw (k := 117) h117 (by decide)]; rfl) (by decide) ?_
              refine aw_iconst (v := -1) S d_At_escapedByte_87 (by decide) ?_
              refine aw_iret S rfl d_At_escapedByte_88 ?_ (by decide) (by decide)
              exact ⟨by rw [sp_esc, if_neg h34, if_neg h92, if_neg h110, if_neg h114, if_neg h116, if_neg h117], rfl, rfl⟩
set_option maxRecDepth 100000 in
set_option maxHeartbeats 4000000 in
theorem ev_At_readText {l : Launch} {E : aw_E} {g : AH} {n : Nat} {a b N M : Nat} {xs : List Int32} (hR : IsRow E g a N xs) (hT0 : IsRow E g b M []) (hd : b + 2 ≤ a ∨ a + 2 ≤ b) (hl : xs.length ≤ M) : EV l E 4 0 0 y_At_readText c_At_readText 6 (some .int) g n [.ref a, .ref b] (aw_Pi (fun r_ g2 n2 => r_ = oi (sp_rdr xs).1 ∧ n2 = n ∧ IsRow E g2 b M (sp_rdr xs).2 ∧ aw_fr g g2 b 2)) := by
  have hN := hR.room
  refine aw_enter "AddressTerms" [some (.ref a), some (.ref b), none, none, none, none] (by decide) rfl rfl (Nat.le_of_ble_eq_true rfl) ?_
  intro p e s m args below meth c S hnm
  have loop : ∀ (f pl st : Nat) (g1 : AH) (zs : List Int32) (x y : Option Value), st + f = xs.length → st ≤ pl → pl < 5000 → zs.length ≤ st → sp_rd xs f pl zs = sp_rdr xs → IsRow E g1 a N xs → IsRow E g1 b M zs → aw_fr g g1 b 2 → AW p l e { frames := 4, cells := 0, slots := 0, locals := 40 * 4 } s m args below meth c E 6 (aw_Z E (aw_Pi (fun r_ g2 n2 => r_ = oi (sp_rdr xs).1 ∧ n2 = n ∧ IsRow E g2 b M (sp_rdr xs).2 ∧ aw_fr g g2 b 2)) below args s 0 0) 0 0 g1 n 4 [some (.ref a), some (.ref b), some (.int (nI pl)), some (.int (nI st)), x, y] [] := by
    intro f
    induction f with
    | zero =>
      intro pl st g1 zs x y hf hsp hpl hzl hv hRk hT hF
      rw [sp_rd] at hv
      refine aw_iload_3 S d_At_readText_4 ?_
      refine aw_aload_0 S d_At_readText_5 ?_
      refine aw_callViR S (ev_Rw_size hRk) mb_Rw_size mi_Rw_size n_ml_At_75 d_At_readText_6 I_Rw hRk.cell rfl rfl rfl ?_
      refine aw_icmp_ge S 102 d_At_readText_9 (by decide) (fun c9 => ?_) (fun c9 => ?_)
      · refine aw_iconst (v := -1) S d_At_readText_102 (by decide) ?_
        refine aw_iret S rfl d_At_readText_103 ?_ (by decide) (by decide)
        exact ⟨by rw [← hv]; rfl, rfl, by rw [← hv]; exact hT, hF⟩
      · exact absurd (nI_le (by omega) (by omega)) c9
    | succ f ih =>
      intro pl st g1 zs x y hf hsp hpl hzl hv hRk hT hF
      rw [sp_rd] at hv
      have hL := rdL_pos xs pl
      have s77 : ∀ (lw : Int32), pl < xs.length → nI (sp_rdL xs pl) = lw → AW p l e { frames := 4, cells := 0, slots := 0, locals := 40 * 4 } s m args below meth c E 6 (aw_Z E (aw_Pi (fun r_ g2 n2 => r_ = oi (sp_rdr xs).1 ∧ n2 = n ∧ IsRow E g2 b M (sp_rdr xs).2 ∧ aw_fr g g2 b 2)) below args s 0 0) 0 0 g1 n 77 [some (.ref a), some (.ref b), some (.int (nI pl)), some (.int (nI st)), some (.int (sp_rdB xs pl)), some (.int lw)] [] := by
        intro lw hlt hlw
        rw [if_neg (by omega)] at hv
        subst hlw
        refine aw_iload_4 S d_At_readText_77 ?_
        refine aw_iconst (v := -1) S d_At_readText_79 (by decide) ?_
        refine aw_icmp_ne S 85 d_At_readText_80 (by decide) (fun c80 => ?_) (fun c80 => ?_)
        · refine aw_aload_1 S d_At_readText_85 ?_
          refine aw_iload_4 S d_At_readText_86 ?_
          refine aw_callVv0 S (ev_Rw_add (sp_rdB xs pl) hT (rdB_bt hRk.bts hlt c80) (by omega)) mb_Rw_add mi_Rw_add n_ml_At_79 d_At_readText_88 I_Rw hT.cell rfl rfl rfl (fun g2_ n2_ h_ => ?_)
          obtain ⟨rfl, h1, hF1⟩ := h_
          refine aw_iload_2 S d_At_readText_91 ?_
          refine aw_iload_5 S d_At_readText_92 ?_
          refine aw_iadd S d_At_readText_94 ?_
          refine aw_topi (nI_add pl (sp_rdL xs pl)) ?_
          refine aw_istore_2 S d_At_readText_95 ?_
          refine aw_iinc_3 (v := nI (st + 1)) S d_At_readText_96 (inc_1 st) ?_
          refine aw_goto S 4 d_At_readText_99 (by decide) ?_
          rw [if_neg c80] at hv
          exact ih (pl + sp_rdL xs pl) (st + 1) _ _ _ _ (by omega) (by omega) (by omega) (by rw [List.length_append, List.length_singleton]; omega) hv (hRk.fr hF1 (by omega)) h1 (hF.tr hF1)
        · refine aw_iload_2 S d_At_readText_83 ?_
          refine aw_iret S rfl d_At_readText_84 ?_ (by decide) (by decide)
          rw [if_pos c80] at hv
          exact ⟨by rw [← hv]; rfl, rfl, by rw [← hv]; exact hT, hF⟩
      refine aw_iload_3 S d_At_readText_4 ?_
      refine aw_aload_0 S d_At_readText_5 ?_
      refine aw_callViR S (ev_Rw_size hRk) mb_Rw_size mi_Rw_size n_ml_At_75 d_At_readText_6 I_Rw hRk.cell rfl rfl rfl ?_
      refine aw_icmp_ge S 102 d_At_readText_9 (by decide) (fun c9 => ?_) (fun c9 => ?_)
      · exact absurd c9 (nI_ge (by omega) (by omega))
      · refine aw_iload_2 S d_At_readText_12 ?_
        refine aw_aload_0 S d_At_readText_13 ?_
        refine aw_callViR S (ev_Rw_size hRk) mb_Rw_size mi_Rw_size n_ml_At_75 d_At_readText_14 I_Rw hRk.cell rfl rfl rfl ?_
        refine aw_icmp_ge S 102 d_At_readText_17 (by decide) (fun c17 => ?_) (fun c17 => ?_)
        · refine aw_iconst (v := -1) S d_At_readText_102 (by decide) ?_
          refine aw_iret S rfl d_At_readText_103 ?_ (by decide) (by decide)
          rw [nI_leI (by omega) (by omega)] at c17
          rw [if_pos c17] at hv
          exact ⟨by rw [← hv]; rfl, rfl, by rw [← hv]; exact hT, hF⟩
        · have hlt : pl < xs.length := by rw [nI_leI (by omega) (by omega)] at c17; omega
          refine aw_aload_0 S d_At_readText_20 ?_
          refine aw_iload_2 S d_At_readText_21 ?_
          refine aw_callViR S (ev_Rw_byteAt (nI (pl)) hRk) mb_Rw_byteAt mi_Rw_byteAt n_ml_At_162 d_At_readText_22 I_Rw hRk.cell rfl rfl rfl ?_
          rw [sp_at_nI (by omega)]
          refine aw_istore_4 S d_At_readText_25 ?_
          refine aw_iconst (v := 1) S d_At_readText_27 (by decide) ?_
          refine aw_istore_5 S d_At_readText_28 ?_
          refine aw_iload_4 S d_At_readText_30 ?_
          refine aw_bipush (v := 92) S d_At_readText_32 (by decide) ?_
          refine aw_icmp_ne S 67 d_At_readText_34 (by decide) (fun c34 => ?_) (fun c34 => ?_)
          · refine aw_iload_4 S d_At_readText_67 ?_
            refine aw_bipush (v := 34) S d_At_readText_69 (by decide) ?_
            refine aw_icmp_ne S 77 d_At_readText_71 (by decide) (fun c71 => ?_) (fun c71 => ?_)
            · rw [show xs.getD pl (-1) = sp_rdB xs pl by rw [sp_rdB, if_neg c34, if_neg c71]]
              exact s77 _ hlt (by rw [sp_rdL, if_neg c34]; rfl)
            · refine aw_iconst (v := -1) S d_At_readText_74 (by decide) ?_
              refine aw_istore_4 S d_At_readText_75 ?_
              rw [show (-1 : Int32) = sp_rdB xs pl by rw [sp_rdB, if_neg c34, if_pos c71]]
              exact s77 _ hlt (by rw [sp_rdL, if_neg c34]; rfl)
          · refine aw_aload_0 S d_At_readText_37 ?_
            refine aw_iload_2 S d_At_readText_38 ?_
            refine aw_iconst (v := 1) S d_At_readText_39 (by decide) ?_
            refine aw_iadd S d_At_readText_40 ?_
            refine aw_topi (nI_1 pl) ?_
            refine aw_callViR S (ev_Rw_byteAt (nI (pl + 1)) hRk) mb_Rw_byteAt mi_Rw_byteAt n_ml_At_162 d_At_readText_41 I_Rw hRk.cell rfl rfl rfl ?_
            rw [sp_at_nI (by omega)]
            refine aw_bipush (v := 117) S d_At_readText_44 (by decide) ?_
            refine aw_icmp_ne S 54 d_At_readText_46 (by decide) (fun c46 => ?_) (fun c46 => ?_)
            · refine aw_iconst (v := 2) S d_At_readText_54 (by decide) ?_
              refine aw_istore_5 S d_At_readText_55 ?_
              refine aw_aload_0 S d_At_readText_57 ?_
              refine aw_iload_2 S d_At_readText_58 ?_
              refine aw_callSiR S (ev_At_escapedByte pl hRk (by omega)) mb_At_escapedByte n_st_At_escapedByte n_ml_At_276 d_At_readText_59 rfl rfl ?_
              refine aw_istore_4 S d_At_readText_62 ?_
              refine aw_goto S 77 d_At_readText_64 (by decide) ?_
              rw [show sp_esc xs pl = sp_rdB xs pl by rw [sp_rdB, if_pos c34]]
              exact s77 _ hlt (by rw [sp_rdL, if_pos c34, if_neg c46]; rfl)
            · refine aw_bipush (v := 6) S d_At_readText_49 (by decide) ?_
              refine aw_goto S 55 d_At_readText_51 (by decide) ?_
              refine aw_istore_5 S d_At_readText_55 ?_
              refine aw_aload_0 S d_At_readText_57 ?_
              refine aw_iload_2 S d_At_readText_58 ?_
              refine aw_callSiR S (ev_At_escapedByte pl hRk (by omega)) mb_At_escapedByte n_st_At_escapedByte n_ml_At_276 d_At_readText_59 rfl rfl ?_
              refine aw_istore_4 S d_At_readText_62 ?_
              refine aw_goto S 77 d_At_readText_64 (by decide) ?_
              rw [show sp_esc xs pl = sp_rdB xs pl by rw [sp_rdB, if_pos c34]]
              exact s77 _ hlt (by rw [sp_rdL, if_pos c34, if_pos c46]; rfl)
  refine aw_iconst (v := 0) S d_At_readText_0 (by decide) ?_
  refine aw_topi nI_0.symm ?_
  refine aw_istore_2 S d_At_readText_1 ?_
  refine aw_iconst (v := 0) S d_At_readText_2 (by decide) ?_
  refine aw_topi nI_0.symm ?_
  refine aw_istore_3 S d_At_readText_3 ?_
  exact loop xs.length 0 0 g [] none none (by omega) (by omega) (by omega) (by decide) rfl hR hT0 aw_fr.rf
def lt_v (s : Int32) (xs : List Int32) : Tmv := (2, s, 0, xs, [])
def op_litOK (s : Int32) : Prop := s = 0 ∨ s = 2 ∨ s = 3 ∨ s = 4
noncomputable def op_litR (tape : List Int32) (ts : List Tmv) (s : Int32) : Int32 := if s = 0 ∨ s = 2 ∨ s = 3 ∨ s = 4 then (match (sp_rdr tape).1 with
  | some k => -10 - nI k
  | none => if (sp_rdr tape).2.length ≤ 40 then op_place ts (lt_v s (sp_rdr tape).2) else -3) else -1
noncomputable def op_litT (tape : List Int32) (ts : List Tmv) (s : Int32) : List Tmv := if s = 0 ∨ s = 2 ∨ s = 3 ∨ s = 4 then (match (sp_rdr tape).1 with
  | some _ => ts
  | none => if (sp_rdr tape).2.length ≤ 40 then op_put ts (lt_v s (sp_rdr tape).2) else ts) else ts
set_option maxRecDepth 100000 in
set_option maxHeartbeats 4000000 in
theorem ev_At_literalOnTape {l : Launch} {E : aw_E} {g : AH} {n : Nat} {o : Nat} {tb pb : Nat → Nat} {tape pr : List Int32} {ts : List Tmv} {bt : Int32} {ps : List (List Int32 × Nat)} (q : Int32) (hS0 : AtS E g n o tb pb tape ts bt ps pr) : EV l E 5 5 2009 y_At_literalOnTape c_At_literalOnTape 3 (some .int) g n [.ref o, .int q] (aw_Pi (fun r_ g2 n2 => r_ = op_litR tape ts q ∧ ∃ tb2 pb2, AtS E g2 n2 o tb2 pb2 (tape) (op_litT tape ts q) (bt) (ps) (pr) ∧ aw_md o g g2)) := by
  obtain ⟨hA, hT⟩ := id hS0
  obtain ⟨a1, a2, a3, a4, ⟨a5, ft, a6, a7⟩, ⟨a8, fp, a9, a10⟩, a11, a12, a13, a14, a15⟩ := id hA
  have ht0 := hT.1
  have htp := a3.room
  refine aw_enter "AddressTerms" [some (.ref o), some (.int q), none] (by decide) rfl rfl (Nat.le_of_ble_eq_true rfl) ?_
  intro p e s m args below meth c S hnm
  have s21 : (q = 0 ∨ q = 2 ∨ q = 3 ∨ q = 4) → AW p l e { frames := 5, cells := 5, slots := 2009, locals := 40 * 5 } s m args below meth c E 3 (aw_Z E (aw_Pi (fun r_ g2 n2 => r_ = op_litR tape ts q ∧ ∃ tb2 pb2, AtS E g2 n2 o tb2 pb2 (tape) (op_litT tape ts q) (bt) (ps) (pr) ∧ aw_md o g g2)) below args s 5 2009) 0 0 g n 21 [some (.ref o), some (.int q), none] [] := by
    intro hq
    obtain ⟨wv, hW1⟩ := a11
    refine aw_aload_0 S d_At_literalOnTape_21 ?_
    refine aw_getf S I_At 4 a2 n_fl_At_36 d_At_literalOnTape_22 rfl (by decide) ?_
    refine aw_iconst (v := 2) S d_At_literalOnTape_25 (by decide) ?_
    refine aw_iload_1 S d_At_literalOnTape_26 ?_
    refine aw_iconst (v := 0) S d_At_literalOnTape_27 (by decide) ?_
    refine aw_callVv0 S (ev_Tm_begin 2 q 0 hW1) mb_Tm_begin mi_Tm_begin n_ml_At_92 d_At_literalOnTape_28 I_Tm hW1.2.1 rfl rfl rfl (fun g2_ n2_ h_ => ?_)
    obtain ⟨rfl, hW2, hF2⟩ := h_
    have hA2 := hA.wanted hF2 ⟨lt_v q [], hW2⟩
    have hT2 := hT.fix hF2 (by omega)
    refine aw_aload_0 S d_At_literalOnTape_31 ?_
    refine aw_getf S I_At 0 hA2.2.1 n_fl_At_14 d_At_literalOnTape_32 rfl (by decide) ?_
    refine aw_aload_0 S d_At_literalOnTape_35 ?_
    refine aw_getf S I_At 4 hA2.2.1 n_fl_At_36 d_At_literalOnTape_36 rfl (by decide) ?_
    refine aw_getf S I_Tm 0 hW2.2.1 n_fl_At_109 d_At_literalOnTape_39 rfl (by decide) ?_
    refine aw_callSi0 S (ev_At_readText hA2.2.2.1 hW2.2.2.1 (by omega) (by omega)) mb_At_readText n_st_At_readText n_ml_At_181 d_At_literalOnTape_42 rfl rfl (fun v_ g2_ n2_ h_ => ?_)
    obtain ⟨rfl, rfl, h3, hF3⟩ := h_
    have hW3 : IsTv E g2_ (o + 7) 197 16 (lt_v q (sp_rdr tape).2) := ⟨by omega, (hF3 _ (by omega)).trans hW2.2.1, h3, hW2.2.2.2.fr hF3 (by omega)⟩
    have hA3 := hA2.wanted (hF3.wide (b := o + 7) (j := 5) (by omega) (by omega)) ⟨_, hW3⟩
    have hT3 := hT2.fix hF3 (by omega)
    have hm3 := (aw_md.fr (o := o) hF2 (by omega)).tr (aw_md.fr hF3 (by omega))
    have hr3 := h3.room
    refine aw_istore_2 S d_At_literalOnTape_45 ?_
    refine aw_iload_2 S d_At_literalOnTape_46 ?_
    refine aw_iconst (v := -1) S d_At_literalOnTape_47 (by decide) ?_
    refine aw_icmp_eq S 56 d_At_literalOnTape_48 (by decide) (fun c48 => ?_) (fun c48 => ?_)
    · have hw : (sp_rdr tape).1 = none := by
        cases h : (sp_rdr tape).1 with
        | none => rfl
        | some k => rw [h] at c48; exact absurd c48 (nI_m (by have := rd_lt _ _ _ _ _ h; omega))
      refine aw_aload_0 S d_At_literalOnTape_56 ?_
      refine aw_getf S I_At 4 hA3.2.1 n_fl_At_36 d_At_literalOnTape_57 rfl (by decide) ?_
      refine aw_getf S I_Tm 0 hW3.2.1 n_fl_At_109 d_At_literalOnTape_60 rfl (by decide) ?_
      refine aw_callViR S (ev_Rw_size h3) mb_Rw_size mi_Rw_size n_ml_At_75 d_At_literalOnTape_63 I_Rw h3.cell rfl rfl rfl ?_
      refine aw_bipush (v := 40) S d_At_literalOnTape_66 (by decide) ?_
      refine aw_icmp_le S 76 d_At_literalOnTape_68 (by decide) (fun c68 => ?_) (fun c68 => ?_)
      · rw [show (40 : Int32) = nI 40 from rfl, nI_leI (by omega) (by omega)] at c68
        refine aw_aload_0 S d_At_literalOnTape_76 ?_
        refine aw_callViA S 5 2009 (ev_At_placeOfWanted (v := lt_v q (sp_rdr tape).2) hA3 hT3 hW3) mb_At_placeOfWanted mi_At_placeOfWanted n_ml_At_96 d_At_literalOnTape_77 I_At hA3.2.1 rfl rfl rfl (fun v_ g2_ n2_ h_ => ?_)
        obtain ⟨rfl, tb2, hS4, hm4⟩ := h_
        refine aw_iret S rfl d_At_literalOnTape_80 ?_ (by decide) (by decide)
        have e1 : op_litR tape ts q = op_place ts (lt_v q (sp_rdr tape).2) := by rw [op_litR, if_pos hq, hw]; dsimp only; rw [if_pos c68]
        have e2 : op_litT tape ts q = op_put ts (lt_v q (sp_rdr tape).2) := by rw [op_litT, if_pos hq, hw]; dsimp only; rw [if_pos c68]
        rw [e1, e2]
        exact ⟨rfl, tb2, pb, hS4, hm3.tr hm4⟩
      · rw [show (40 : Int32) = nI 40 from rfl, nI_leI (by omega) (by omega)] at c68
        refine aw_bipush (v := -3) S d_At_literalOnTape_71 (by decide) ?_
        refine aw_goto S 80 d_At_literalOnTape_73 (by decide) ?_
        refine aw_iret S rfl d_At_literalOnTape_80 ?_ (by decide) (by decide)
        have e1 : op_litR tape ts q = -3 := by rw [op_litR, if_pos hq, hw]; dsimp only; rw [if_neg c68]
        have e2 : op_litT tape ts q = ts := by rw [op_litT, if_pos hq, hw]; dsimp only; rw [if_neg c68]
        rw [e1, e2]
        exact ⟨rfl, tb, pb, ⟨hA3, hT3⟩, hm3⟩
    · refine aw_bipush (v := -10) S d_At_literalOnTape_51 (by decide) ?_
      refine aw_iload_2 S d_At_literalOnTape_53 ?_
      refine aw_isub S d_At_literalOnTape_54 ?_
      refine aw_iret S rfl d_At_literalOnTape_55 ?_ (by decide) (by decide)
      cases h : (sp_rdr tape).1 with
      | none => rw [h] at c48; exact absurd rfl c48
      | some k =>
        have e1 : op_litR tape ts q = -10 - nI k := by rw [op_litR, if_pos hq, h]
        have e2 : op_litT tape ts q = ts := by rw [op_litT, if_pos hq, h]
        rw [e1, e2]
        exact ⟨rfl, tb, pb, ⟨hA3, hT3⟩, hm3⟩
  refine aw_iload_1 S d_At_literalOnTape_0 ?_
  refine aw_if_eq S 21 d_At_literalOnTape_1 (by decide) (fun c1 => ?_) (fun c1 => ?_)
  · exact s21 (Or.inl c1)
  · refine aw_iload_1 S d_At_literalOnTape_4 ?_
    refine aw_iconst (v := 2) S d_At_literalOnTape_5 (by decide) ?_
    refine aw_icmp_eq S 21 d_At_literalOnTape_6 (by decide) (fun c6 => ?_) (fun c6 => ?_)
    · exact s21 (Or.inr (Or.inl c6))
    · refine aw_iload_1 S d_At_literalOnTape_9 ?_
      refine aw_iconst (v := 3) S d_At_literalOnTape_10 (by decide) ?_
      refine aw_icmp_eq S 21 d_At_literalOnTape_11 (by decide) (fun c11 => ?_) (fun c11 => ?_)
      · exact s21 (Or.inr (Or.inr (Or.inl c11)))
      · refine aw_iload_1 S d_At_literalOnTape_14 ?_
        refine aw_iconst (v := 4) S d_At_literalOnTape_15 (by decide) ?_
        refine aw_icmp_eq S 21 d_At_literalOnTape_16 (by decide) (fun c16 => ?_) (fun c16 => ?_)
        · exact s21 (Or.inr (Or.inr (Or.inr c16)))
        · refine aw_iconst (v := -1) S d_At_literalOnTape_19 (by decide) ?_
          refine aw_iret S rfl d_At_literalOnTape_20 ?_ (by decide) (by decide)
          have hq : ¬ (q = 0 ∨ q = 2 ∨ q = 3 ∨ q = 4) := fun h => by rcases h with h | h | h | h; exact c1 h; exact c6 h; exact c11 h; exact c16 h
          have e1 : op_litR tape ts q = -1 := by rw [op_litR, if_neg hq]
          have e2 : op_litT tape ts q = ts := by rw [op_litT, if_neg hq]
          rw [e1, e2]
          exact ⟨rfl, tb, pb, hS0, aw_md.rf⟩
set_option maxRecDepth 100000 in
set_option maxHeartbeats 4000000 in
theorem ev_At_literal {l : Launch} {E : aw_E} {g : AH} {n : Nat} {o : Nat} {tb pb : Nat → Nat} {tape pr : List Int32} {ts : List Tmv} {bt : Int32} {ps : List (List Int32 × Nat)} (q : Int32) (hS0 : AtS E g n o tb pb tape ts bt ps pr) : EV l E 6 5 2009 y_At_literal c_At_literal 3 (some .int) g n [.ref o, .int q] (aw_Pi (fun r_ g2 n2 => r_ = op_litR tape ts q ∧ ∃ tb2 pb2, AtS E g2 n2 o tb2 pb2 ([]) (op_litT tape ts q) (bt) (ps) (pr) ∧ aw_md o g g2)) := by
  obtain ⟨hA, hT⟩ := id hS0
  obtain ⟨a1, a2, a3, a4, ⟨a5, ft, a6, a7⟩, ⟨a8, fp, a9, a10⟩, a11, a12, a13, a14, a15⟩ := id hA
  have ht0 := hT.1
  have htp := a3.room
  refine aw_enter "AddressTerms" [some (.ref o), some (.int q), none] (by decide) rfl rfl (Nat.le_of_ble_eq_true rfl) ?_
  intro p e s m args below meth c S hnm
  refine aw_aload_0 S d_At_literal_0 ?_
  refine aw_iload_1 S d_At_literal_1 ?_
  refine aw_callViA S 5 2009 (ev_At_literalOnTape q hS0) mb_At_literalOnTape mi_At_literalOnTape n_ml_At_99 d_At_literal_2 I_At a2 rfl rfl rfl (fun v_ g2_ n2_ h_ => ?_)
  obtain ⟨rfl, tb2, pb2, hS2, hm2⟩ := h_
  refine aw_istore_2 S d_At_literal_5 ?_
  refine aw_aload_0 S d_At_literal_6 ?_
  refine aw_getf S I_At 0 hS2.1.2.1 n_fl_At_14 d_At_literal_7 rfl (by decide) ?_
  refine aw_iconst (v := 0) S d_At_literal_10 (by decide) ?_
  refine aw_topi nI_0.symm ?_
  refine aw_callVv0 S (ev_Rw_cutTo 0 hS2.1.2.2.1 (by decide)) mb_Rw_cutTo mi_Rw_cutTo n_ml_At_85 d_At_literal_11 I_Rw hS2.1.2.2.1.cell rfl rfl rfl (fun g2_ n2_ h_ => ?_)
  obtain ⟨rfl, h3, hF3⟩ := h_
  refine aw_iload_2 S d_At_literal_14 ?_
  refine aw_iret S rfl d_At_literal_15 ?_ (by decide) (by decide)
  exact ⟨rfl, tb2, pb2, ⟨hS2.1.tape hF3 (by simpa using h3), hS2.2.fix hF3 (by omega)⟩, hm2.tr (aw_md.fr hF3 (by omega))⟩
