/-! the class: tags and prefixes -/
def sp_tl (fi : Bool) (b : Int32) : Bool := if fi then sp_let b else sp_ld b
def sp_wt : List Int32 → Nat → Nat → Nat → Bool → Option Nat
  | [], k, few, sz, _ => if sz < few then some k else none
  | b :: r, k, few, sz, fi => if 16 ≤ k then some k else if b = 45 then (if sz < few then some k else sp_wt r (k + 1) 1 0 false) else if sp_tl fi b = true then (if sz < 8 then sp_wt r (k + 1) few (sz + 1) fi else some k) else some k
def sp_wtag (xs : List Int32) : Option Nat := sp_wt xs 0 2 0 true
theorem wt_le : ∀ (xs : List Int32) (k few sz : Nat) (fi : Bool) (c : Nat), sp_wt xs k few sz fi = some c → c ≤ k + xs.length := by
  intro xs
  induction xs with
  | nil =>
    intro k few sz fi c h
    rw [sp_wt] at h
    split at h
    · cases h; exact Nat.le_refl _
    · cases h
  | cons b r ih =>
    intro k few sz fi c h
    rw [sp_wt] at h
    rw [List.length_cons]
    split at h
    · cases h; omega
    · split at h
      · split at h
        · cases h; omega
        · have := ih _ _ _ _ _ h; omega
      · split at h
        · split at h
          · have := ih _ _ _ _ _ h; omega
          · cases h; omega
        · cases h; omega
theorem wt_16 : ∀ (xs : List Int32) (k few sz : Nat) (fi : Bool), sp_wt xs k few sz fi = none → xs = [] ∨ k + xs.length ≤ 16 := by
  intro xs
  induction xs with
  | nil => intro k few sz fi h; exact Or.inl rfl
  | cons b r ih =>
    intro k few sz fi h
    rw [sp_wt] at h
    rw [List.length_cons]
    right
    split at h
    · cases h
    · have fin : ∀ few sz fi, sp_wt r (k + 1) few sz fi = none → k + (r.length + 1) ≤ 16 := by
        intro few sz fi h2
        rcases ih _ _ _ _ h2 with q | q
        · subst q; simp; omega
        · omega
      split at h
      · split at h
        · cases h
        · exact fin _ _ _ h
      · split at h
        · split at h
          · exact fin _ _ _ h
          · cases h
        · cases h
theorem low_bt {b : Int32} (h : sp_bt b) : sp_bt (sp_low b) := by
  obtain ⟨j, hj, rfl⟩ := h.nat
  have : ∀ j, j < 128 → 0 ≤ sp_low (nI j) ∧ sp_low (nI j) ≤ 127 := by decide +kernel
  exact this j hj
set_option maxRecDepth 100000 in
set_option maxHeartbeats 4000000 in
theorem ev_At_wrongInTag {l : Launch} {E : aw_E} {g : AH} {n : Nat} {a N : Nat} {xs : List Int32} (hR : IsRow E g a N xs) : EV l E 3 0 0 y_At_wrongInTag c_At_wrongInTag 7 (some .int) g n [.ref a] (aw_Pi (fun r_ g2 n2 => r_ = oi (sp_wtag xs) ∧ g2 = g ∧ n2 = n)) := by
  have hN := hR.room
  refine aw_enter "AddressTerms" [some (.ref a), none, none, none, none, none, none] (by decide) rfl rfl (Nat.le_of_ble_eq_true rfl) ?_
  intro p e s m args below meth c S hnm
  have loop : ∀ (j k few sz : Nat) (fi : Bool) (x y : Option Value), k + j = xs.length → few ≤ 2 → sz ≤ 8 → sp_wt (xs.drop k) k few sz fi = sp_wtag xs → AW p l e { frames := 3, cells := 0, slots := 0, locals := 40 * 3 } s m args below meth c E 7 (aw_Z E (aw_Pi (fun r_ g2 n2 => r_ = oi (sp_wtag xs) ∧ g2 = g ∧ n2 = n)) below args s 0 0) 0 0 g n 9 [some (.ref a), some (.int (nI few)), some (.int (nI sz)), some (.int (aw_b fi)), some (.int (nI k)), x, y] [] := by
    intro j
    induction j with
    | zero =>
      intro k few sz fi x y hk hf hs hv
      rw [List.drop_eq_nil_iff.mpr (show xs.length ≤ k by omega), sp_wt] at hv
      refine aw_iload_4 S d_At_wrongInTag_9 ?_
      refine aw_aload_0 S d_At_wrongInTag_11 ?_
      refine aw_callViR S (ev_Rw_size hR) mb_Rw_size mi_Rw_size n_ml_At_75 d_At_wrongInTag_12 I_Rw hR.cell rfl rfl rfl ?_
      refine aw_icmp_ge S 102 d_At_wrongInTag_15 (by decide) (fun c15 => ?_) (fun c15 => ?_)
      · refine aw_iload_2 S d_At_wrongInTag_102 ?_
        refine aw_iload_1 S d_At_wrongInTag_103 ?_
        refine aw_icmp_ge S 114 d_At_wrongInTag_104 (by decide) (fun c104 => ?_) (fun c104 => ?_)
        · refine aw_iconst (v := -1) S d_At_wrongInTag_114 (by decide) ?_
          refine aw_iret S rfl d_At_wrongInTag_115 ?_ (by decide) (by decide)
          rw [nI_leI (by omega) (by omega)] at c104
          rw [if_neg (by omega)] at hv
          exact ⟨by rw [← hv]; rfl, rfl, rfl⟩
        · refine aw_aload_0 S d_At_wrongInTag_107 ?_
          refine aw_callViR S (ev_Rw_size hR) mb_Rw_size mi_Rw_size n_ml_At_75 d_At_wrongInTag_108 I_Rw hR.cell rfl rfl rfl ?_
          refine aw_goto S 115 d_At_wrongInTag_111 (by decide) ?_
          refine aw_iret S rfl d_At_wrongInTag_115 ?_ (by decide) (by decide)
          rw [nI_leI (by omega) (by omega)] at c104
          rw [if_pos (by omega)] at hv
          exact ⟨by rw [← hv, show k = xs.length by omega]; rfl, rfl, rfl⟩
      · exact absurd (nI_le (by omega) (by omega)) c15
    | succ j ih =>
      intro k few sz fi x y hk hf hs hv
      have hkx : k < xs.length := by omega
      rw [drop_cons hkx, sp_wt] at hv
      have s77 : ∀ (y2 : Option Value) (q : Bool), q = sp_tl fi (xs.getD k (-1)) → ¬ 16 ≤ k → ¬ xs.getD k (-1) = 45 → AW p l e { frames := 3, cells := 0, slots := 0, locals := 40 * 3 } s m args below meth c E 7 (aw_Z E (aw_Pi (fun r_ g2 n2 => r_ = oi (sp_wtag xs) ∧ g2 = g ∧ n2 = n)) below args s 0 0) 0 0 g n 77 [some (.ref a), some (.int (nI few)), some (.int (nI sz)), some (.int (aw_b fi)), some (.int (nI k)), some (.int (xs.getD k (-1))), y2] [.int (aw_b q)] := by
        intro y2 q hq h16 h45
        rw [if_neg h16, if_neg h45, ← hq] at hv
        refine aw_istore_6 S d_At_wrongInTag_77 ?_
        refine aw_iload_6 S d_At_wrongInTag_79 ?_
        refine aw_if_eq S 90 d_At_wrongInTag_81 (by decide) (fun c81 => ?_) (fun c81 => ?_)
        · refine aw_iload_4 S d_At_wrongInTag_90 ?_
          refine aw_iret S rfl d_At_wrongInTag_92 ?_ (by decide) (by decide)
          rw [aw_b_f c81] at hv
          exact ⟨by rw [← hv]; rfl, rfl, rfl⟩
        · refine aw_iload_2 S d_At_wrongInTag_84 ?_
          refine aw_bipush (v := 8) S d_At_wrongInTag_85 (by decide) ?_
          refine aw_icmp_lt S 93 d_At_wrongInTag_87 (by decide) (fun c87 => ?_) (fun c87 => ?_)
          · rw [show (8 : Int32) = nI 8 from rfl, nI_ltI (by omega) (by omega)] at c87
            refine aw_iinc_2 (v := nI (sz + 1)) S d_At_wrongInTag_93 (inc_1 sz) ?_
            refine aw_iinc_4 (v := nI (k + 1)) S d_At_wrongInTag_96 (inc_1 k) ?_
            refine aw_goto S 9 d_At_wrongInTag_99 (by decide) ?_
            rw [aw_b_t c81, if_pos rfl, if_pos c87] at hv
            exact ih (k + 1) few (sz + 1) fi _ _ (by omega) hf (by omega) hv
          · rw [show (8 : Int32) = nI 8 from rfl, nI_ltI (by omega) (by omega)] at c87
            refine aw_iload_4 S d_At_wrongInTag_90 ?_
            refine aw_iret S rfl d_At_wrongInTag_92 ?_ (by decide) (by decide)
            rw [aw_b_t c81, if_pos rfl, if_neg c87] at hv
            exact ⟨by rw [← hv]; rfl, rfl, rfl⟩
      refine aw_iload_4 S d_At_wrongInTag_9 ?_
      refine aw_aload_0 S d_At_wrongInTag_11 ?_
      refine aw_callViR S (ev_Rw_size hR) mb_Rw_size mi_Rw_size n_ml_At_75 d_At_wrongInTag_12 I_Rw hR.cell rfl rfl rfl ?_
      refine aw_icmp_ge S 102 d_At_wrongInTag_15 (by decide) (fun c15 => ?_) (fun c15 => ?_)
      · exact absurd c15 (nI_ge (by omega) (by omega))
      · refine aw_aload_0 S d_At_wrongInTag_18 ?_
        refine aw_iload_4 S d_At_wrongInTag_19 ?_
        refine aw_callViR S (ev_Rw_byteAt (nI k) hR) mb_Rw_byteAt mi_Rw_byteAt n_ml_At_162 d_At_wrongInTag_21 I_Rw hR.cell rfl rfl rfl ?_
        rw [sp_at_nI (by omega)]
        refine aw_istore_5 S d_At_wrongInTag_24 ?_
        refine aw_iload_4 S d_At_wrongInTag_26 ?_
        refine aw_bipush (v := 16) S d_At_wrongInTag_28 (by decide) ?_
        refine aw_icmp_lt S 36 d_At_wrongInTag_30 (by decide) (fun c30 => ?_) (fun c30 => ?_)
        · rw [show (16 : Int32) = nI 16 from rfl, nI_ltI (by omega) (by omega)] at c30
          refine aw_iload_5 S d_At_wrongInTag_36 ?_
          refine aw_bipush (v := 45) S d_At_wrongInTag_38 (by decide) ?_
          refine aw_icmp_ne S 60 d_At_wrongInTag_40 (by decide) (fun c40 => ?_) (fun c40 => ?_)
          · refine aw_iload_3 S d_At_wrongInTag_60 ?_
            refine aw_if_eq S 72 d_At_wrongInTag_61 (by decide) (fun c61 => ?_) (fun c61 => ?_)
            · refine aw_iload_5 S d_At_wrongInTag_72 ?_
              refine aw_callSiR S (ev_At_isLetterOrDigit (xs.getD k (-1))) mb_At_isLetterOrDigit n_st_At_isLetterOrDigit n_ml_At_273 d_At_wrongInTag_74 rfl rfl ?_
              exact s77 _ _ (by rw [aw_b_f c61]; rfl) (by omega) c40
            · refine aw_iload_5 S d_At_wrongInTag_64 ?_
              refine aw_callSiR S (ev_At_isLetter (xs.getD k (-1))) mb_At_isLetter n_st_At_isLetter n_ml_At_261 d_At_wrongInTag_66 rfl rfl ?_
              refine aw_goto S 77 d_At_wrongInTag_69 (by decide) ?_
              exact s77 _ _ (by rw [aw_b_t c61]; rfl) (by omega) c40
          · refine aw_iload_2 S d_At_wrongInTag_43 ?_
            refine aw_iload_1 S d_At_wrongInTag_44 ?_
            refine aw_icmp_ge S 51 d_At_wrongInTag_45 (by decide) (fun c45 => ?_) (fun c45 => ?_)
            · rw [nI_leI (by omega) (by omega)] at c45
              refine aw_iconst (v := 0) S d_At_wrongInTag_51 (by decide) ?_
              refine aw_istore_3 S d_At_wrongInTag_52 ?_
              refine aw_iconst (v := 1) S d_At_wrongInTag_53 (by decide) ?_
              refine aw_istore_1 S d_At_wrongInTag_54 ?_
              refine aw_iconst (v := 0) S d_At_wrongInTag_55 (by decide) ?_
              refine aw_istore_2 S d_At_wrongInTag_56 ?_
              refine aw_goto S 96 d_At_wrongInTag_57 (by decide) ?_
              refine aw_iinc_4 (v := nI (k + 1)) S d_At_wrongInTag_96 (inc_1 k) ?_
              refine aw_goto S 9 d_At_wrongInTag_99 (by decide) ?_
              rw [if_neg (by omega), if_pos c40, if_neg (by omega)] at hv
              exact ih (k + 1) 1 0 false _ _ (by omega) (by omega) (by omega) hv
            · rw [nI_leI (by omega) (by omega)] at c45
              refine aw_iload_4 S d_At_wrongInTag_48 ?_
              refine aw_iret S rfl d_At_wrongInTag_50 ?_ (by decide) (by decide)
              rw [if_neg (by omega), if_pos c40, if_pos (by omega)] at hv
              exact ⟨by rw [← hv]; rfl, rfl, rfl⟩
        · rw [show (16 : Int32) = nI 16 from rfl, nI_ltI (by omega) (by omega)] at c30
          refine aw_iload_4 S d_At_wrongInTag_33 ?_
          refine aw_iret S rfl d_At_wrongInTag_35 ?_ (by decide) (by decide)
          rw [if_pos (by omega)] at hv
          exact ⟨by rw [← hv]; rfl, rfl, rfl⟩
  refine aw_iconst (v := 2) S d_At_wrongInTag_0 (by decide) ?_
  refine aw_istore_1 S d_At_wrongInTag_1 ?_
  refine aw_iconst (v := 0) S d_At_wrongInTag_2 (by decide) ?_
  refine aw_istore_2 S d_At_wrongInTag_3 ?_
  refine aw_iconst (v := 1) S d_At_wrongInTag_4 (by decide) ?_
  refine aw_istore_3 S d_At_wrongInTag_5 ?_
  refine aw_iconst (v := 0) S d_At_wrongInTag_6 (by decide) ?_
  refine aw_topi nI_0.symm ?_
  refine aw_istore_4 S d_At_wrongInTag_7 ?_
  exact loop xs.length 0 2 0 true none none (by omega) (by omega) (by omega) rfl
def tg_v (xs tg : List Int32) : Tmv := (2, 1, 0, xs, tg)
def okL (ts : List Tmv) : Prop := ∀ i, i < ts.length → (tmG ts i).1 = 2 → (tmG ts i).2.2.2.1.length ≤ 40
def op_tagR (tape : List Int32) (ts : List Tmv) (q : Int32) : Int32 := match ixK ts 2 q with
  | none => -1
  | some i => if (tmG ts i).2.1 = 0 then (match sp_wtag tape with
    | some k => -10 - nI k
    | none => op_place ts (tg_v (tmG ts i).2.2.2.1 (tape.map sp_low))) else -1
def op_tagT (tape : List Int32) (ts : List Tmv) (q : Int32) : List Tmv := match ixK ts 2 q with
  | none => ts
  | some i => if (tmG ts i).2.1 = 0 then (match sp_wtag tape with
    | some _ => ts
    | none => op_put ts (tg_v (tmG ts i).2.2.2.1 (tape.map sp_low))) else ts
theorem map_take {xs : List Int32} {k : Nat} (h : k < xs.length) : (xs.take (k + 1)).map sp_low = (xs.take k).map sp_low ++ [sp_low (xs.getD k (-1))] := by
  rw [List.take_succ, List.getElem?_eq_getElem h, List.map_append, getD_at h]
  rfl
set_option maxRecDepth 100000 in
set_option maxHeartbeats 4000000 in
theorem ev_At_tagOnTape {l : Launch} {E : aw_E} {g : AH} {n : Nat} {o : Nat} {tb pb : Nat → Nat} {tape pr : List Int32} {ts : List Tmv} {bt : Int32} {ps : List (List Int32 × Nat)} (q : Int32) (hS0 : AtS E g n o tb pb tape ts bt ps pr) (hok : okL ts) : EV l E 5 5 2009 y_At_tagOnTape c_At_tagOnTape 5 (some .int) g n [.ref o, .int q] (aw_Pi (fun r_ g2 n2 => r_ = op_tagR tape ts q ∧ ∃ tb2 pb2, AtS E g2 n2 o tb2 pb2 (tape) (op_tagT tape ts q) (bt) (ps) (pr) ∧ aw_md o g g2)) := by
  obtain ⟨hA, hT⟩ := id hS0
  obtain ⟨a1, a2, a3, a4, ⟨a5, ft, a6, a7⟩, ⟨a8, fp, a9, a10⟩, a11, a12, a13, a14, a15⟩ := id hA
  have ht0 := hT.1
  have htp := a3.room
  refine aw_enter "AddressTerms" [some (.ref o), some (.int q), none, none, none] (by decide) rfl rfl (Nat.le_of_ble_eq_true rfl) ?_
  intro p e s m args below meth c S hnm
  refine aw_aload_0 S d_At_tagOnTape_0 ?_
  refine aw_iload_1 S d_At_tagOnTape_1 ?_
  refine aw_callVqR S (ev_At_literalAt q hA hT) mb_At_literalAt mi_At_literalAt n_ml_At_128 d_At_tagOnTape_2 I_At a2 rfl rfl rfl ?_
  refine aw_astoreQ_2 S d_At_tagOnTape_5 ?_
  refine aw_aloadQ_2 S d_At_tagOnTape_6 ?_
  refine aw_ifnull S 17 d_At_tagOnTape_7 (by decide) (fun c7 => ?_) (fun y7 c7 => ?_)
  · refine aw_iconst (v := -1) S d_At_tagOnTape_17 (by decide) ?_
    refine aw_iret S rfl d_At_tagOnTape_18 ?_ (by decide) (by decide)
    have hn := Option.map_eq_none_iff.mp c7
    have e1 : op_tagR tape ts q = -1 := by rw [op_tagR, hn]
    have e2 : op_tagT tape ts q = ts := by rw [op_tagT, hn]
    rw [e1, e2]
    exact ⟨rfl, tb, pb, hS0, aw_md.rf⟩
  · obtain ⟨i, hi, rfl⟩ := Option.map_eq_some_iff.mp c7
    obtain ⟨hia, hib⟩ := ixK_some hi
    obtain ⟨q1, q2, N1, N2, hB⟩ := hT.2.1 i (ixOf_lt (by omega) hia).1
    have hxl := hok i (ixOf_lt (by omega) hia).1 hib
    rw [hi]
    refine aw_aload_2 S d_At_tagOnTape_10 ?_
    refine aw_getf S I_Tm 3 hB.2.1 n_fl_At_131 d_At_tagOnTape_11 rfl (by decide) ?_
    refine aw_if_eq S 19 d_At_tagOnTape_14 (by decide) (fun c14 => ?_) (fun c14 => ?_)
    · refine aw_aload_0 S d_At_tagOnTape_19 ?_
      refine aw_getf S I_At 0 a2 n_fl_At_14 d_At_tagOnTape_20 rfl (by decide) ?_
      refine aw_callSiR S (ev_At_wrongInTag a3) mb_At_wrongInTag n_st_At_wrongInTag n_ml_At_185 d_At_tagOnTape_23 rfl rfl ?_
      refine aw_istore_3 S d_At_tagOnTape_26 ?_
      refine aw_iload_3 S d_At_tagOnTape_27 ?_
      refine aw_iconst (v := -1) S d_At_tagOnTape_28 (by decide) ?_
      refine aw_icmp_eq S 37 d_At_tagOnTape_29 (by decide) (fun c29 => ?_) (fun c29 => ?_)
      · have hw : sp_wtag tape = none := by
          cases h : sp_wtag tape with
          | none => rfl
          | some k => rw [h] at c29; exact absurd c29 (nI_m (by have := wt_le _ _ _ _ _ _ h; omega))
        have h16 : tape.length ≤ 16 := by
          rcases wt_16 _ _ _ _ _ hw with h | h
          · rw [h]; decide
          · omega
        rw [hw]
        rw [show oi none = -1 from rfl]
        obtain ⟨wv, hW1⟩ := a11
        refine aw_aload_0 S d_At_tagOnTape_37 ?_
        refine aw_getf S I_At 4 a2 n_fl_At_36 d_At_tagOnTape_38 rfl (by decide) ?_
        refine aw_iconst (v := 2) S d_At_tagOnTape_41 (by decide) ?_
        refine aw_iconst (v := 1) S d_At_tagOnTape_42 (by decide) ?_
        refine aw_iconst (v := 0) S d_At_tagOnTape_43 (by decide) ?_
        refine aw_callVv0 S (ev_Tm_begin 2 1 0 hW1) mb_Tm_begin mi_Tm_begin n_ml_At_92 d_At_tagOnTape_44 I_Tm hW1.2.1 rfl rfl rfl (fun g2_ n2_ h_ => ?_)
        obtain ⟨rfl, hW2, hF2⟩ := h_
        have hA2 := hA.wanted hF2 ⟨tg_v [] [], hW2⟩
        have hT2 := hT.fix hF2 (by omega)
        have hB2 := hB.fr hF2 (by omega)
        refine aw_aload_0 S d_At_tagOnTape_47 ?_
        refine aw_getf S I_At 4 hA2.2.1 n_fl_At_36 d_At_tagOnTape_48 rfl (by decide) ?_
        refine aw_getf S I_Tm 0 hW2.2.1 n_fl_At_109 d_At_tagOnTape_51 rfl (by decide) ?_
        refine aw_aload_2 S d_At_tagOnTape_54 ?_
        refine aw_getf S I_Tm 0 hB2.2.1 n_fl_At_109 d_At_tagOnTape_55 rfl (by decide) ?_
        refine aw_iconst (v := 0) S d_At_tagOnTape_58 (by decide) ?_
        refine aw_topi nI_0.symm ?_
        refine aw_aload_2 S d_At_tagOnTape_59 ?_
        refine aw_getf S I_Tm 0 hB2.2.1 n_fl_At_109 d_At_tagOnTape_60 rfl (by decide) ?_
        refine aw_callViR S (ev_Rw_size hB2.2.2.1) mb_Rw_size mi_Rw_size n_ml_At_75 d_At_tagOnTape_63 I_Rw hB2.2.2.1.cell rfl rfl rfl ?_
        refine aw_callVv0 S (ev_Rw_addRange 0 (tmG ts i).2.2.2.1.length hW2.2.2.1 hB2.2.2.1 (by omega) (by omega) (by omega) (by simp; omega)) mb_Rw_addRange mi_Rw_addRange n_ml_At_173 d_At_tagOnTape_66 I_Rw hW2.2.2.1.cell rfl rfl rfl (fun g2_ n2_ h_ => ?_)
        obtain ⟨rfl, h3, hF3⟩ := h_
        rw [List.nil_append, List.take_length, List.drop_zero] at h3
        have hW3 : IsTv E g2_ (o + 7) 197 16 (tg_v (tmG ts i).2.2.2.1 []) := ⟨by omega, (hF3 _ (by omega)).trans hW2.2.1, h3, hW2.2.2.2.fr hF3 (by omega)⟩
        have hA3 := hA2.wanted (hF3.wide (b := o + 7) (j := 5) (by omega) (by omega)) ⟨_, hW3⟩
        have hT3 := hT2.fix hF3 (by omega)
        have loop : ∀ (j k : Nat) (g1 : AH), k + j = tape.length → AtS E g1 n2_ o tb pb tape ts bt ps pr → IsTv E g1 (o + 7) 197 16 (tg_v (tmG ts i).2.2.2.1 ((tape.take k).map sp_low)) → aw_md o g g1 → AW p l e { frames := 5, cells := 5, slots := 2009, locals := 40 * 5 } s m args below meth c E 5 (aw_Z E (aw_Pi (fun r_ g2 n2 => r_ = op_tagR tape ts q ∧ ∃ tb2 pb2, AtS E g2 n2 o tb2 pb2 (tape) (op_tagT tape ts q) (bt) (ps) (pr) ∧ aw_md o g g2)) below args s 5 2009) 0 0 g1 n2_ 72 [some (.ref o), some (.int q), some (.ref (tb i)), some (.int (-1)), some (.int (nI k))] [] := by
          intro j
          induction j with
          | zero =>
            intro k g1 hk hS1 hW hm
            rw [List.take_of_length_le (show tape.length ≤ k by omega)] at hW
            refine aw_iload_4 S d_At_tagOnTape_72 ?_
            refine aw_aload_0 S d_At_tagOnTape_74 ?_
            refine aw_getf S I_At 0 hS1.1.2.1 n_fl_At_14 d_At_tagOnTape_75 rfl (by decide) ?_
            refine aw_callViR S (ev_Rw_size hS1.1.2.2.1) mb_Rw_size mi_Rw_size n_ml_At_75 d_At_tagOnTape_78 I_Rw hS1.1.2.2.1.cell rfl rfl rfl ?_
            refine aw_icmp_ge S 112 d_At_tagOnTape_81 (by decide) (fun c81 => ?_) (fun c81 => ?_)
            · refine aw_aload_0 S d_At_tagOnTape_112 ?_
              refine aw_callViA S 5 2009 (ev_At_placeOfWanted (v := tg_v (tmG ts i).2.2.2.1 (tape.map sp_low)) hS1.1 hS1.2 hW) mb_At_placeOfWanted mi_At_placeOfWanted n_ml_At_96 d_At_tagOnTape_113 I_At hS1.1.2.1 rfl rfl rfl (fun v_ g2_ n2_ h_ => ?_)
              obtain ⟨rfl, tb2, hS2, hm2⟩ := h_
              refine aw_iret S rfl d_At_tagOnTape_116 ?_ (by decide) (by decide)
              have e1 : op_tagR tape ts q = op_place ts (tg_v (tmG ts i).2.2.2.1 (tape.map sp_low)) := by rw [op_tagR, hi]; dsimp only; rw [if_pos c14, hw]
              have e2 : op_tagT tape ts q = op_put ts (tg_v (tmG ts i).2.2.2.1 (tape.map sp_low)) := by rw [op_tagT, hi]; dsimp only; rw [if_pos c14, hw]
              rw [e1, e2]
              exact ⟨rfl, tb2, pb, hS2, hm.tr hm2⟩
            · exact absurd (nI_le (by omega) (by omega)) c81
          | succ j ih =>
            intro k g1 hk hS1 hW hm
            have hkx : k < tape.length := by omega
            refine aw_iload_4 S d_At_tagOnTape_72 ?_
            refine aw_aload_0 S d_At_tagOnTape_74 ?_
            refine aw_getf S I_At 0 hS1.1.2.1 n_fl_At_14 d_At_tagOnTape_75 rfl (by decide) ?_
            refine aw_callViR S (ev_Rw_size hS1.1.2.2.1) mb_Rw_size mi_Rw_size n_ml_At_75 d_At_tagOnTape_78 I_Rw hS1.1.2.2.1.cell rfl rfl rfl ?_
            refine aw_icmp_ge S 112 d_At_tagOnTape_81 (by decide) (fun c81 => ?_) (fun c81 => ?_)
            · exact absurd c81 (nI_ge (by omega) (by omega))
            · refine aw_aload_0 S d_At_tagOnTape_84 ?_
              refine aw_getf S I_At 4 hS1.1.2.1 n_fl_At_36 d_At_tagOnTape_85 rfl (by decide) ?_
              refine aw_getf S I_Tm 1 hW.2.1 n_fl_At_188 d_At_tagOnTape_88 rfl (by decide) ?_
              refine aw_aload_0 S d_At_tagOnTape_91 ?_
              refine aw_getf S I_At 0 hS1.1.2.1 n_fl_At_14 d_At_tagOnTape_92 rfl (by decide) ?_
              refine aw_iload_4 S d_At_tagOnTape_95 ?_
              refine aw_callViR S (ev_Rw_byteAt (nI k) hS1.1.2.2.1) mb_Rw_byteAt mi_Rw_byteAt n_ml_At_162 d_At_tagOnTape_97 I_Rw hS1.1.2.2.1.cell rfl rfl rfl ?_
              rw [sp_at_nI (by omega)]
              refine aw_callSiR S (ev_At_smallOf (tape.getD k (-1))) mb_At_smallOf n_st_At_smallOf n_ml_At_191 d_At_tagOnTape_100 rfl rfl ?_
              refine aw_callVv0 S (ev_Rw_add (sp_low (tape.getD k (-1))) hW.2.2.2 (low_bt (a3.bts _ (getD_mem hkx))) (by show ((tape.take k).map sp_low).length < 16; rw [List.length_map, List.length_take]; omega)) mb_Rw_add mi_Rw_add n_ml_At_79 d_At_tagOnTape_103 I_Rw hW.2.2.2.cell rfl rfl rfl (fun g2_ n2_ h_ => ?_)
              obtain ⟨rfl, h1, hF1⟩ := h_
              refine aw_iinc_4 (v := nI (k + 1)) S d_At_tagOnTape_106 (inc_1 k) ?_
              refine aw_goto S 72 d_At_tagOnTape_109 (by decide) ?_
              have hW2 : IsTv E g2_ (o + 7) 197 16 (tg_v (tmG ts i).2.2.2.1 ((tape.take (k + 1)).map sp_low)) := by
                rw [map_take hkx]
                exact ⟨by omega, (hF1 _ (by omega)).trans hW.2.1, hW.2.2.1.fr hF1 (by omega), h1⟩
              exact ih (k + 1) _ (by omega) ⟨hS1.1.wanted (hF1.wide (b := o + 7) (j := 5) (by omega) (by omega)) ⟨_, hW2⟩, hS1.2.fix hF1 (by omega)⟩ hW2 (hm.tr (aw_md.fr hF1 (by omega)))
        refine aw_iconst (v := 0) S d_At_tagOnTape_69 (by decide) ?_
        refine aw_topi nI_0.symm ?_
        refine aw_istore_4 S d_At_tagOnTape_70 ?_
        exact loop tape.length 0 _ (by omega) ⟨hA3, hT3⟩ hW3 ((aw_md.fr hF2 (by omega)).tr (aw_md.fr hF3 (by omega)))
      · refine aw_bipush (v := -10) S d_At_tagOnTape_32 (by decide) ?_
        refine aw_iload_3 S d_At_tagOnTape_34 ?_
        refine aw_isub S d_At_tagOnTape_35 ?_
        refine aw_iret S rfl d_At_tagOnTape_36 ?_ (by decide) (by decide)
        cases h : sp_wtag tape with
        | none => rw [h] at c29; exact absurd rfl c29
        | some k =>
          have e1 : op_tagR tape ts q = -10 - nI k := by rw [op_tagR, hi]; dsimp only; rw [if_pos c14, h]
          have e2 : op_tagT tape ts q = ts := by rw [op_tagT, hi]; dsimp only; rw [if_pos c14, h]
          rw [e1, e2]
          exact ⟨rfl, tb, pb, hS0, aw_md.rf⟩
    · refine aw_iconst (v := -1) S d_At_tagOnTape_17 (by decide) ?_
      refine aw_iret S rfl d_At_tagOnTape_18 ?_ (by decide) (by decide)
      have e1 : op_tagR tape ts q = -1 := by rw [op_tagR, hi]; dsimp only; rw [if_neg c14]
      have e2 : op_tagT tape ts q = ts := by rw [op_tagT, hi]; dsimp only; rw [if_neg c14]
      rw [e1, e2]
      exact ⟨rfl, tb, pb, hS0, aw_md.rf⟩
set_option maxRecDepth 100000 in
set_option maxHeartbeats 4000000 in
theorem ev_At_tagged {l : Launch} {E : aw_E} {g : AH} {n : Nat} {o : Nat} {tb pb : Nat → Nat} {tape pr : List Int32} {ts : List Tmv} {bt : Int32} {ps : List (List Int32 × Nat)} (q : Int32) (hS0 : AtS E g n o tb pb tape ts bt ps pr) (hok : okL ts) : EV l E 6 5 2009 y_At_tagged c_At_tagged 3 (some .int) g n [.ref o, .int q] (aw_Pi (fun r_ g2 n2 => r_ = op_tagR tape ts q ∧ ∃ tb2 pb2, AtS E g2 n2 o tb2 pb2 ([]) (op_tagT tape ts q) (bt) (ps) (pr) ∧ aw_md o g g2)) := by
  obtain ⟨hA, hT⟩ := id hS0
  obtain ⟨a1, a2, a3, a4, ⟨a5, ft, a6, a7⟩, ⟨a8, fp, a9, a10⟩, a11, a12, a13, a14, a15⟩ := id hA
  have ht0 := hT.1
  have htp := a3.room
  refine aw_enter "AddressTerms" [some (.ref o), some (.int q), none] (by decide) rfl rfl (Nat.le_of_ble_eq_true rfl) ?_
  intro p e s m args below meth c S hnm
  refine aw_aload_0 S d_At_tagged_0 ?_
  refine aw_iload_1 S d_At_tagged_1 ?_
  refine aw_callViA S 5 2009 (ev_At_tagOnTape q hS0 hok) mb_At_tagOnTape mi_At_tagOnTape n_ml_At_103 d_At_tagged_2 I_At a2 rfl rfl rfl (fun v_ g2_ n2_ h_ => ?_)
  obtain ⟨rfl, tb2, pb2, hS2, hm2⟩ := h_
  refine aw_istore_2 S d_At_tagged_5 ?_
  refine aw_aload_0 S d_At_tagged_6 ?_
  refine aw_getf S I_At 0 hS2.1.2.1 n_fl_At_14 d_At_tagged_7 rfl (by decide) ?_
  refine aw_iconst (v := 0) S d_At_tagged_10 (by decide) ?_
  refine aw_topi nI_0.symm ?_
  refine aw_callVv0 S (ev_Rw_cutTo 0 hS2.1.2.2.1 (by decide)) mb_Rw_cutTo mi_Rw_cutTo n_ml_At_85 d_At_tagged_11 I_Rw hS2.1.2.2.1.cell rfl rfl rfl (fun g2_ n2_ h_ => ?_)
  obtain ⟨rfl, h3, hF3⟩ := h_
  refine aw_iload_2 S d_At_tagged_14 ?_
  refine aw_iret S rfl d_At_tagged_15 ?_ (by decide) (by decide)
  exact ⟨rfl, tb2, pb2, ⟨hS2.1.tape hF3 (by simpa using h3), hS2.2.fix hF3 (by omega)⟩, hm2.tr (aw_md.fr hF3 (by omega))⟩
def sp_name (xs : List Int32) : Bool := decide (xs.length ≤ 6) && xs.all sp_sm
set_option maxRecDepth 100000 in
set_option maxHeartbeats 4000000 in
theorem ev_At_isName {l : Launch} {E : aw_E} {g : AH} {n : Nat} {a N : Nat} {xs : List Int32} (hR : IsRow E g a N xs) : EV l E 1 0 0 y_At_isName c_At_isName 2 (some .boolean) g n [.ref a] (aw_Pi (fun r_ g2 n2 => r_ = aw_b (sp_name xs) ∧ g2 = g ∧ n2 = n)) := by
  have hN := hR.room
  refine aw_enter "AddressTerms" [some (.ref a), none] (by decide) rfl rfl (Nat.le_of_ble_eq_true rfl) ?_
  intro p e s m args below meth c S hnm
  have loop : ∀ (j k : Nat), k + j = xs.length → xs.length ≤ 6 → (xs.drop k).all sp_sm = xs.all sp_sm → AW p l e { frames := 1, cells := 0, slots := 0, locals := 40 * 1 } s m args below meth c E 2 (aw_Z E (aw_Pi (fun r_ g2 n2 => r_ = aw_b (sp_name xs) ∧ g2 = g ∧ n2 = n)) below args s 0 0) 0 0 g n 13 [some (.ref a), some (.int (nI k))] [] := by
    intro j
    induction j with
    | zero =>
      intro k hk h6 hv
      rw [List.drop_eq_nil_iff.mpr (show xs.length ≤ k by omega)] at hv
      refine aw_iload_1 S d_At_isName_13 ?_
      refine aw_aload_0 S d_At_isName_14 ?_
      refine aw_callViR S (ev_Rw_size hR) mb_Rw_size mi_Rw_size n_ml_At_75 d_At_isName_15 I_Rw hR.cell rfl rfl rfl ?_
      refine aw_icmp_ge S 40 d_At_isName_18 (by decide) (fun c18 => ?_) (fun c18 => ?_)
      · refine aw_iconst (v := 1) S d_At_isName_40 (by decide) ?_
        refine aw_zret S .boolean rfl (by rfl) d_At_isName_41 ?_ (by decide) (by decide)
        exact ⟨aw_b1 (by rw [sp_name, decide_eq_true h6, ← hv]; rfl), rfl, rfl⟩
      · exact absurd (nI_le (by omega) (by omega)) c18
    | succ j ih =>
      intro k hk h6 hv
      have hkx : k < xs.length := by omega
      rw [drop_cons hkx, List.all_cons] at hv
      refine aw_iload_1 S d_At_isName_13 ?_
      refine aw_aload_0 S d_At_isName_14 ?_
      refine aw_callViR S (ev_Rw_size hR) mb_Rw_size mi_Rw_size n_ml_At_75 d_At_isName_15 I_Rw hR.cell rfl rfl rfl ?_
      refine aw_icmp_ge S 40 d_At_isName_18 (by decide) (fun c18 => ?_) (fun c18 => ?_)
      · exact absurd c18 (nI_ge (by omega) (by omega))
      · refine aw_aload_0 S d_At_isName_21 ?_
        refine aw_iload_1 S d_At_isName_22 ?_
        refine aw_callViR S (ev_Rw_byteAt (nI k) hR) mb_Rw_byteAt mi_Rw_byteAt n_ml_At_162 d_At_isName_23 I_Rw hR.cell rfl rfl rfl ?_
        rw [sp_at_nI (by omega)]
        refine aw_callSiR S (ev_At_isSmallLetter (xs.getD k (-1))) mb_At_isSmallLetter n_st_At_isSmallLetter n_ml_At_255 d_At_isName_26 rfl rfl ?_
        refine aw_if_ne S 34 d_At_isName_29 (by decide) (fun c29 => ?_) (fun c29 => ?_)
        · refine aw_iinc_1 (v := nI (k + 1)) S d_At_isName_34 (inc_1 k) ?_
          refine aw_goto S 13 d_At_isName_37 (by decide) ?_
          rw [aw_b_t c29, Bool.true_and] at hv
          exact ih (k + 1) (by omega) h6 hv
        · refine aw_iconst (v := 0) S d_At_isName_32 (by decide) ?_
          refine aw_zret S .boolean rfl (by rfl) d_At_isName_33 ?_ (by decide) (by decide)
          rw [aw_b_f c29, Bool.false_and] at hv
          exact ⟨aw_b0 (by rw [sp_name, ← hv, Bool.and_false]), rfl, rfl⟩
  refine aw_aload_0 S d_At_isName_0 ?_
  refine aw_callViR S (ev_Rw_size hR) mb_Rw_size mi_Rw_size n_ml_At_75 d_At_isName_1 I_Rw hR.cell rfl rfl rfl ?_
  refine aw_bipush (v := 6) S d_At_isName_4 (by decide) ?_
  refine aw_icmp_le S 11 d_At_isName_6 (by decide) (fun c6 => ?_) (fun c6 => ?_)
  · rw [show (6 : Int32) = nI 6 from rfl, nI_leI (by omega) (by omega)] at c6
    refine aw_iconst (v := 0) S d_At_isName_11 (by decide) ?_
    refine aw_topi nI_0.symm ?_
    refine aw_istore_1 S d_At_isName_12 ?_
    exact loop xs.length 0 (by omega) c6 rfl
  · rw [show (6 : Int32) = nI 6 from rfl, nI_leI (by omega) (by omega)] at c6
    refine aw_iconst (v := 0) S d_At_isName_9 (by decide) ?_
    refine aw_zret S .boolean rfl (by rfl) d_At_isName_10 ?_ (by decide) (by decide)
    exact ⟨aw_b0 (by rw [sp_name, decide_eq_false c6, Bool.false_and]), rfl, rfl⟩
