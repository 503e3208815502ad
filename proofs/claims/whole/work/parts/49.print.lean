/-! the class: print, and a new object -/
def okSf (xs : List Int32) : Prop := ¬ (xs.length = 100 ∧ (xs.drop 2).all sp_safe = true)
def okV (v : Tmv) : Prop := (v.1 = 0 ∧ v.2.1 = 0 ∧ v.2.2.1 = 0 ∧ v.2.2.2.2 = [] ∧ v.2.2.2.1.length ≤ 100 ∧ sp_sc v.2.2.2.1 = true ∧ okSf v.2.2.2.1) ∨ (v.1 = 1 ∧ v.2.1 = 0 ∧ (∃ k, k < 1000 ∧ v.2.2.1 = nI k) ∧ v.2.2.2.1 = [] ∧ v.2.2.2.2 = []) ∨ (v.1 = 2 ∧ v.2.2.1 = 0 ∧ (v.2.1 = 0 ∨ v.2.1 = 1 ∨ v.2.1 = 2 ∨ v.2.1 = 3 ∨ v.2.1 = 4) ∧ v.2.2.2.1.length ≤ 40 ∧ v.2.2.2.2.length ≤ 16 ∧ (∀ x ∈ v.2.2.2.1, sp_txt x = true) ∧ (v.2.1 ≠ 1 → v.2.2.2.2 = []))
def okT (ts : List Tmv) : Prop := ∀ i, i < ts.length → okV (tmG ts i)
def okN (ps : List Pfv) : Prop := ∀ j, j < ps.length → (pfG ps j).1.length ≤ 6
def okP (ts : List Tmv) (ps : List Pfv) : Prop := ∀ j, j < ps.length → (pfG ps j).2 < ts.length ∧ (tmG ts (pfG ps j).2).1 = 0
theorem okT.a {ts : List Tmv} (h : okT ts) : okA ts := by
  intro i hi hk
  rcases h i hi with q | q | q
  · exact ⟨q.2.2.2.2.1, q.2.2.2.2.2.1⟩
  · rw [q.1] at hk; exact absurd hk (by decide)
  · rw [q.1] at hk; exact absurd hk (by decide)
theorem okT.l {ts : List Tmv} (h : okT ts) : okL ts := by
  intro i hi hk
  rcases h i hi with q | q | q
  · rw [q.1] at hk; exact absurd hk (by decide)
  · rw [q.1] at hk; exact absurd hk (by decide)
  · exact q.2.2.2.1
theorem csch_ge : ∀ (xs : List Int32) (k c : Nat), csch xs k = some c → k ≤ c := by
  intro xs
  induction xs with
  | nil => intro k c h; cases h
  | cons b r ih =>
    intro k c h
    rw [csch] at h
    split at h
    · cases h; exact Nat.le_refl _
    · split at h
      · have := ih _ _ h; omega
      · cases h
theorem sc_ge {xs : List Int32} (h : sp_sc xs = true) : 2 ≤ xs.length := by
  obtain ⟨q, hq⟩ := Option.isSome_iff_exists.mp h
  cases hc : sp_col xs with
  | none => rw [sp_pt, hc] at hq; cases hq
  | some c =>
    have h1 := sp_col_lt hc
    cases xs with
    | nil => cases hc
    | cons b r =>
      rw [sp_col] at hc
      split at hc
      · have := csch_ge _ _ _ hc; omega
      · cases hc
theorem bst_tells {ts : List Tmv} {ps : List Pfv} {xs : List Int32} : ∀ {k j : Nat}, sp_bst ts ps xs k = some j → sp_tells (pA ts ps j) xs = true := by
  intro k
  induction k with
  | zero => intro j h; cases h
  | succ k ih =>
    intro j h
    rw [sp_bst] at h
    split at h
    · next hc =>
      cases h
      unfold sp_bc at hc
      exact (Bool.and_eq_true_iff.mp hc).1
    · exact ih h
theorem fit {ts : List Tmv} {ps : List Pfv} (hT : okT ts) (hN : okN ps) (hP : okP ts ps) {i : Nat} (hi : i < ts.length) (hk : (tmG ts i).1 = 0) (sh : Bool) : (sp_padr ts ps (tmG ts i).2.2.2.1 sh).length ≤ 108 := by
  have ho : (tmG ts i).2.2.2.1.length ≤ 100 ∧ okSf (tmG ts i).2.2.2.1 := by
    rcases hT i hi with q | q | q
    · exact ⟨q.2.2.2.2.1, q.2.2.2.2.2.2⟩
    · rw [q.1] at hk; exact absurd hk (by decide)
    · rw [q.1] at hk; exact absurd hk (by decide)
  unfold sp_padr
  cases hb : (if sh then sp_bst ts ps (tmG ts i).2.2.2.1 ps.length else none) with
  | none => simp; omega
  | some j =>
    cases sh with
    | false => cases hb
    | true =>
      have hb : sp_bst ts ps (tmG ts i).2.2.2.1 ps.length = some j := hb
      have hj := bst_lt hb
      have ht := bst_tells hb
      have hn := hN j hj
      have hp := (hT.a _ (hP j hj).1 (hP j hj).2).2
      have hg := sc_ge hp
      have hpl : pA ts ps j = (tmG ts (pfG ps j).2).2.2.2.1 := rfl
      rw [← hpl] at hg
      unfold sp_tells at ht
      rw [Bool.and_eq_true] at ht
      have hl := sp_pre_le ht.1
      simp only [List.length_append, List.length_cons, List.length_drop]
      rcases Nat.lt_or_ge 2 (pA ts ps j).length with q | q
      · omega
      · have e : (pA ts ps j).length = 2 := by omega
        rw [e] at ht
        have : ¬ (tmG ts i).2.2.2.1.length = 100 := fun z => ho.2 ⟨z, ht.2⟩
        omega
set_option maxRecDepth 100000 in
set_option maxHeartbeats 4000000 in
theorem ev_At_printAddress {l : Launch} {E : aw_E} {g : AH} {n : Nat} {o : Nat} {tb pb : Nat → Nat} {tape pr : List Int32} {ts : List Tmv} {bt : Int32} {ps : List (List Int32 × Nat)} {w0 N : Nat} {xs : List Int32} (fm : Int32) (hA : AtF E g o tb pb tape ts.length bt ps.length []) (hT : AtT E g n o tb pb ts ps) (hR : IsRow E g w0 N xs) (hd : o + 46 ≤ w0) (hfit : (sp_padr ts ps xs (decide (fm = 1))).length ≤ 108) : EV l E 5 0 0 y_At_printAddress c_At_printAddress 4 none g n [.ref o, .ref w0, .int fm] (aw_Pv (fun g2 n2 => n2 = n ∧ AtF E g2 o tb pb tape ts.length bt ps.length (sp_padr ts ps xs (decide (fm = 1))) ∧ aw_fr g g2 (o + 3) 2)) := by
  obtain ⟨a1, a2, a3, a4, ⟨a5, ft, a6, a7⟩, ⟨a8, fp, a9, a10⟩, a11, a12, a13, a14, a15⟩ := id hA
  have ht0 := hT.1
  have hxr := hR.room
  refine aw_enter "AddressTerms" [some (.ref o), some (.ref w0), some (.int fm), none] (by decide) rfl rfl (Nat.le_of_ble_eq_true rfl) ?_
  intro p e s m args below meth c S hnm
  have s15 : ∀ (b : Option Nat), b = (if decide (fm = 1) then sp_bst ts ps xs ps.length else none) → AW p l e { frames := 5, cells := 0, slots := 0, locals := 40 * 5 } s m args below meth c E 4 (aw_Z E (aw_Pv (fun g2 n2 => n2 = n ∧ AtF E g2 o tb pb tape ts.length bt ps.length (sp_padr ts ps xs (decide (fm = 1))) ∧ aw_fr g g2 (o + 3) 2)) below args s 0 0) 0 0 g n 15 [some (.ref o), some (.ref w0), some (.int fm), some (va_rf (b.map pb))] [] := by
    intro b hb
    have hfit : (sp_padr ts ps xs (decide (fm = 1))).length ≤ 108 := hfit
    refine aw_aloadQ_3 S d_At_printAddress_15 ?_
    refine aw_ifnonnull S 53 d_At_printAddress_16 (by decide) (fun y16 c16 => ?_) (fun c16 => ?_)
    · obtain ⟨j, hj, rfl⟩ := Option.map_eq_some_iff.mp c16
      subst hj
      have e : sp_padr ts ps xs (decide (fm = 1)) = (pfG ps j).1 ++ (58 :: xs.drop (pA ts ps j).length) := by unfold sp_padr; rw [← hb]
      rw [e, List.length_append, List.length_cons, List.length_drop] at hfit
      have hjl : j < ps.length := by
        by_cases z : fm = 1
        · rw [decide_eq_true z] at hb; exact bst_lt hb.symm
        · rw [decide_eq_false z] at hb; cases hb
      obtain ⟨u1, u2, u3, u4, u5, M, u6⟩ := hT.2.2.1 j hjl
      obtain ⟨y1, y2, Y1, Y2, y3⟩ := hT.2.1 _ u3
      have u6 : IsRow E g (pb j + 1) M (pfG ps j).1 := u6
      have hyl := y3.2.2.1.room
      have hyl : (pA ts ps j).length ≤ Y1 ∧ _ := hyl
      have hnl := u6.room
      refine aw_aload_0 S d_At_printAddress_53 ?_
      refine aw_getf S I_At 1 a2 n_fl_At_18 d_At_printAddress_54 rfl (by decide) ?_
      refine aw_aload_3 S d_At_printAddress_57 ?_
      refine aw_getf S I_Px 0 u5.2 n_fl_At_202 d_At_printAddress_58 rfl (by decide) ?_
      refine aw_iconst (v := 0) S d_At_printAddress_61 (by decide) ?_
      refine aw_topi nI_0.symm ?_
      refine aw_aload_3 S d_At_printAddress_62 ?_
      refine aw_getf S I_Px 0 u5.2 n_fl_At_202 d_At_printAddress_63 rfl (by decide) ?_
      refine aw_callViR S (ev_Rw_size u6) mb_Rw_size mi_Rw_size n_ml_At_75 d_At_printAddress_66 I_Rw u6.cell rfl rfl rfl ?_
      refine aw_callVv0 S (ev_Rw_addRange 0 (pfG ps j).1.length a4 u6 (by omega) (by omega) (by omega) (by simp; omega)) mb_Rw_addRange mi_Rw_addRange n_ml_At_173 d_At_printAddress_69 I_Rw a4.cell rfl rfl rfl (fun g2_ n2_ h_ => ?_)
      obtain ⟨rfl, h1, hF1⟩ := h_
      rw [List.take_length, List.drop_zero, List.nil_append] at h1
      have hA1 := hA.printed hF1 h1
      refine aw_aload_0 S d_At_printAddress_72 ?_
      refine aw_getf S I_At 1 hA1.2.1 n_fl_At_18 d_At_printAddress_73 rfl (by decide) ?_
      refine aw_bipush (v := 58) S d_At_printAddress_76 (by decide) ?_
      refine aw_callVv0 S (ev_Rw_add 58 h1 (by unfold sp_bt; decide) (by omega)) mb_Rw_add mi_Rw_add n_ml_At_79 d_At_printAddress_78 I_Rw h1.cell rfl rfl rfl (fun g2_ n2_ h_ => ?_)
      obtain ⟨rfl, h2, hF2⟩ := h_
      have hA2 := hA1.printed hF2 h2
      have hF12 := hF1.tr hF2
      refine aw_aload_0 S d_At_printAddress_81 ?_
      refine aw_getf S I_At 1 hA2.2.1 n_fl_At_18 d_At_printAddress_82 rfl (by decide) ?_
      refine aw_aload_1 S d_At_printAddress_85 ?_
      refine aw_aload_3 S d_At_printAddress_86 ?_
      refine aw_getf S I_Px 1 ((hF12 _ (by omega)).trans u5.2) n_fl_At_207 d_At_printAddress_87 rfl (by decide) ?_
      refine aw_callViR S (ev_Rw_size (y3.2.2.1.fr hF12 (by omega))) mb_Rw_size mi_Rw_size n_ml_At_75 d_At_printAddress_90 I_Rw (y3.2.2.1.fr hF12 (by omega)).cell rfl rfl rfl ?_
      rw [show (tmG ts (ps.getD j ([], 0)).2).2.2.2.1.length = (pA ts ps j).length from rfl]
      refine aw_aload_1 S d_At_printAddress_93 ?_
      refine aw_callViR S (ev_Rw_size (hR.fr hF12 (by omega))) mb_Rw_size mi_Rw_size n_ml_At_75 d_At_printAddress_94 I_Rw (hR.fr hF12 (by omega)).cell rfl rfl rfl ?_
      refine aw_callVv0 S (ev_Rw_addRange (pA ts ps j).length xs.length h2 (hR.fr hF12 (by omega)) (by omega) (by omega) (by omega) (by rw [List.take_length, List.length_drop, List.length_append, List.length_singleton]; omega)) mb_Rw_addRange mi_Rw_addRange n_ml_At_173 d_At_printAddress_97 I_Rw h2.cell rfl rfl rfl (fun g2_ n2_ h_ => ?_)
      obtain ⟨rfl, h3, hF3⟩ := h_
      rw [List.take_length] at h3
      refine aw_vret S rfl d_At_printAddress_100 ?_ (by decide) (by decide)
      refine ⟨rfl, hA2.printed hF3 ?_, hF12.tr hF3⟩
      rw [e]
      simpa using h3
    · have hbn : b = none := Option.map_eq_none_iff.mp c16
      have e : sp_padr ts ps xs (decide (fm = 1)) = 60 :: (xs ++ [62]) := by unfold sp_padr; rw [← hb, hbn]
      rw [e, List.length_cons, List.length_append, List.length_singleton] at hfit
      refine aw_aload_0 S d_At_printAddress_19 ?_
      refine aw_getf S I_At 1 a2 n_fl_At_18 d_At_printAddress_20 rfl (by decide) ?_
      refine aw_bipush (v := 60) S d_At_printAddress_23 (by decide) ?_
      refine aw_callVv0 S (ev_Rw_add 60 a4 (by unfold sp_bt; decide) (by decide)) mb_Rw_add mi_Rw_add n_ml_At_79 d_At_printAddress_25 I_Rw a4.cell rfl rfl rfl (fun g2_ n2_ h_ => ?_)
      obtain ⟨rfl, h1, hF1⟩ := h_
      have hA1 := hA.printed hF1 h1
      have hR1 := hR.fr hF1 (by omega)
      refine aw_aload_0 S d_At_printAddress_28 ?_
      refine aw_getf S I_At 1 hA1.2.1 n_fl_At_18 d_At_printAddress_29 rfl (by decide) ?_
      refine aw_aload_1 S d_At_printAddress_32 ?_
      refine aw_iconst (v := 0) S d_At_printAddress_33 (by decide) ?_
      refine aw_topi nI_0.symm ?_
      refine aw_aload_1 S d_At_printAddress_34 ?_
      refine aw_callViR S (ev_Rw_size hR1) mb_Rw_size mi_Rw_size n_ml_At_75 d_At_printAddress_35 I_Rw hR1.cell rfl rfl rfl ?_
      refine aw_callVv0 S (ev_Rw_addRange 0 xs.length h1 hR1 (by omega) (by omega) (by omega) (by simp; omega)) mb_Rw_addRange mi_Rw_addRange n_ml_At_173 d_At_printAddress_38 I_Rw h1.cell rfl rfl rfl (fun g2_ n2_ h_ => ?_)
      obtain ⟨rfl, h2, hF2⟩ := h_
      rw [List.take_length, List.drop_zero] at h2
      have hA2 := hA1.printed hF2 h2
      refine aw_aload_0 S d_At_printAddress_41 ?_
      refine aw_getf S I_At 1 hA2.2.1 n_fl_At_18 d_At_printAddress_42 rfl (by decide) ?_
      refine aw_bipush (v := 62) S d_At_printAddress_45 (by decide) ?_
      refine aw_callVv0 S (ev_Rw_add 62 h2 (by unfold sp_bt; decide) (by simp; omega)) mb_Rw_add mi_Rw_add n_ml_At_79 d_At_printAddress_47 I_Rw h2.cell rfl rfl rfl (fun g2_ n2_ h_ => ?_)
      obtain ⟨rfl, h3, hF3⟩ := h_
      refine aw_goto S 100 d_At_printAddress_50 (by decide) ?_
      refine aw_vret S rfl d_At_printAddress_100 ?_ (by decide) (by decide)
      refine ⟨rfl, hA2.printed hF3 ?_, (hF1.tr hF2).tr hF3⟩
      rw [e]
      simpa using h3
  refine aw_iload_2 S d_At_printAddress_0 ?_
  refine aw_iconst (v := 1) S d_At_printAddress_1 (by decide) ?_
  refine aw_icmp_ne S 13 d_At_printAddress_2 (by decide) (fun c2 => ?_) (fun c2 => ?_)
  · refine aw_null S d_At_printAddress_13 ?_
    rw [show Value.null = va_rf (Option.map pb none) from rfl]
    refine aw_astoreQ_3 S d_At_printAddress_14 ?_
    exact s15 none (by rw [decide_eq_false c2]; rfl)
  · refine aw_aload_0 S d_At_printAddress_5 ?_
    refine aw_aload_1 S d_At_printAddress_6 ?_
    refine aw_callVqR S (ev_At_bestPrefix hA hT hR) mb_At_bestPrefix mi_At_bestPrefix n_ml_At_216 d_At_printAddress_7 I_At a2 rfl rfl rfl ?_
    refine aw_goto S 14 d_At_printAddress_10 (by decide) ?_
    refine aw_astoreQ_3 S d_At_printAddress_14 ?_
    exact s15 _ (by rw [decide_eq_true c2]; rfl)
def op_prtR (ts : List Tmv) (ps : List Pfv) (q fm : Int32) : Int32 := match ixOf ts.length q with
  | none => -1
  | some i => if fm = 0 ∨ fm = 1 then nI (sp_prt ts ps i (decide (fm = 1))).length else -1
def op_prtP (ts : List Tmv) (ps : List Pfv) (pr : List Int32) (q fm : Int32) : List Int32 := match ixOf ts.length q with
  | none => pr
  | some i => if fm = 0 ∨ fm = 1 then sp_prt ts ps i (decide (fm = 1)) else pr
theorem num_len (k : Nat) : (sp_num k).length ≤ 3 := by
  unfold sp_num
  split <;> split <;> simp
set_option maxRecDepth 100000 in
set_option maxHeartbeats 4000000 in
theorem ev_At_print {l : Launch} {E : aw_E} {g : AH} {n : Nat} {o : Nat} {tb pb : Nat → Nat} {tape pr : List Int32} {ts : List Tmv} {bt : Int32} {ps : List (List Int32 × Nat)} (q fm : Int32) (hS0 : AtS E g n o tb pb tape ts bt ps pr) (hok : okT ts) (hN : okN ps) (hP : okP ts ps) : EV l E 7 0 0 y_At_print c_At_print 4 (some .int) g n [.ref o, .int q, .int fm] (aw_Pi (fun r_ g2 n2 => r_ = op_prtR ts ps q fm ∧ ∃ tb2 pb2, AtS E g2 n2 o tb2 pb2 (tape) (ts) (bt) (ps) (op_prtP ts ps pr q fm) ∧ aw_md o g g2)) := by
  obtain ⟨hA, hT⟩ := id hS0
  obtain ⟨a1, a2, a3, a4, ⟨a5, ft, a6, a7⟩, ⟨a8, fp, a9, a10⟩, a11, a12, a13, a14, a15⟩ := id hA
  have ht0 := hT.1
  have htp := a3.room
  refine aw_enter "AddressTerms" [some (.ref o), some (.int q), some (.int fm), none] (by decide) rfl rfl (Nat.le_of_ble_eq_true rfl) ?_
  intro p e s m args below meth c S hnm
  refine aw_aload_0 S d_At_print_0 ?_
  refine aw_iload_1 S d_At_print_1 ?_
  refine aw_callVqR S (ev_At_termAt q hA) mb_At_termAt mi_At_termAt n_ml_At_122 d_At_print_2 I_At a2 rfl rfl rfl ?_
  refine aw_astoreQ_3 S d_At_print_5 ?_
  refine aw_aloadQ_3 S d_At_print_6 ?_
  refine aw_ifnull S 19 d_At_print_7 (by decide) (fun c7 => ?_) (fun y7 c7 => ?_)
  · refine aw_iconst (v := -1) S d_At_print_19 (by decide) ?_
    refine aw_iret S rfl d_At_print_20 ?_ (by decide) (by decide)
    have hn := Option.map_eq_none_iff.mp c7
    have e1 : op_prtR ts ps q fm = -1 := by rw [op_prtR, hn]
    have e2 : op_prtP ts ps pr q fm = pr := by rw [op_prtP, hn]
    rw [e1, e2]
    exact ⟨rfl, tb, pb, hS0, aw_md.rf⟩
  · obtain ⟨i, hi, rfl⟩ := Option.map_eq_some_iff.mp c7
    have hil := (ixOf_lt (by omega) hi).1
    obtain ⟨q1, q2, N1, N2, hB⟩ := hT.2.1 i hil
    rw [hi]
    have s85 : ∀ (g1 : AH), (fm = 0 ∨ fm = 1) → AtS E g1 n o tb pb tape ts bt ps (sp_prt ts ps i (decide (fm = 1))) → aw_md o g g1 → AW p l e { frames := 7, cells := 0, slots := 0, locals := 40 * 7 } s m args below meth c E 4 (aw_Z E (aw_Pi (fun r_ g2 n2 => r_ = op_prtR ts ps q fm ∧ ∃ tb2 pb2, AtS E g2 n2 o tb2 pb2 (tape) (ts) (bt) (ps) (op_prtP ts ps pr q fm) ∧ aw_md o g g2)) below args s 0 0) 0 0 g1 n 85 [some (.ref o), some (.int q), some (.int fm), some (.ref (tb i))] [] := by
      intro g1 hf hS1 hm
      refine aw_aload_0 S d_At_print_85 ?_
      refine aw_getf S I_At 1 hS1.1.2.1 n_fl_At_18 d_At_print_86 rfl (by decide) ?_
      refine aw_callViR S (ev_Rw_size hS1.1.2.2.2.1) mb_Rw_size mi_Rw_size n_ml_At_75 d_At_print_89 I_Rw hS1.1.2.2.2.1.cell rfl rfl rfl ?_
      refine aw_iret S rfl d_At_print_92 ?_ (by decide) (by decide)
      have e1 : op_prtR ts ps q fm = nI (sp_prt ts ps i (decide (fm = 1))).length := by rw [op_prtR, hi]; dsimp only; rw [if_pos hf]
      have e2 : op_prtP ts ps pr q fm = sp_prt ts ps i (decide (fm = 1)) := by rw [op_prtP, hi]; dsimp only; rw [if_pos hf]
      rw [e1, e2]
      exact ⟨rfl, tb, pb, hS1, hm⟩
    have s21 : (fm = 0 ∨ fm = 1) → AW p l e { frames := 7, cells := 0, slots := 0, locals := 40 * 7 } s m args below meth c E 4 (aw_Z E (aw_Pi (fun r_ g2 n2 => r_ = op_prtR ts ps q fm ∧ ∃ tb2 pb2, AtS E g2 n2 o tb2 pb2 (tape) (ts) (bt) (ps) (op_prtP ts ps pr q fm) ∧ aw_md o g g2)) below args s 0 0) 0 0 g n 21 [some (.ref o), some (.int q), some (.int fm), some (.ref (tb i))] [] := by
      intro hf
      refine aw_aload_0 S d_At_print_21 ?_
      refine aw_getf S I_At 1 a2 n_fl_At_18 d_At_print_22 rfl (by decide) ?_
      refine aw_iconst (v := 0) S d_At_print_25 (by decide) ?_
      refine aw_topi nI_0.symm ?_
      refine aw_callVv0 S (ev_Rw_cutTo 0 a4 (by decide)) mb_Rw_cutTo mi_Rw_cutTo n_ml_At_85 d_At_print_26 I_Rw a4.cell rfl rfl rfl (fun g2_ n2_ h_ => ?_)
      obtain ⟨rfl, h0, hF0⟩ := h_
      rw [List.take_zero] at h0
      have hA0 := hA.printed hF0 h0
      have hT0 := hT.fix hF0 (by omega)
      have hB0 := hB.fr hF0 (by omega)
      have hm0 : aw_md o g g2_ := aw_md.fr hF0 (by omega)
      refine aw_aload_3 S d_At_print_29 ?_
      refine aw_getf S I_Tm 2 hB0.2.1 n_fl_At_125 d_At_print_30 rfl (by decide) ?_
      refine aw_iconst (v := 1) S d_At_print_33 (by decide) ?_
      refine aw_icmp_ne S 60 d_At_print_34 (by decide) (fun c34 => ?_) (fun c34 => ?_)
      · refine aw_aload_3 S d_At_print_60 ?_
        refine aw_getf S I_Tm 2 hB0.2.1 n_fl_At_125 d_At_print_61 rfl (by decide) ?_
        refine aw_iconst (v := 2) S d_At_print_64 (by decide) ?_
        refine aw_icmp_ne S 76 d_At_print_65 (by decide) (fun c65 => ?_) (fun c65 => ?_)
        · have hk0 : (tmG ts i).1 = 0 := by
            rcases hok i hil with z | z | z
            · exact z.1
            · exact absurd z.1 c34
            · exact absurd z.1 c65
          refine aw_aload_0 S d_At_print_76 ?_
          refine aw_aload_3 S d_At_print_77 ?_
          refine aw_getf S I_Tm 0 hB0.2.1 n_fl_At_109 d_At_print_78 rfl (by decide) ?_
          refine aw_iload_2 S d_At_print_81 ?_
          refine aw_callVv0 S (ev_At_printAddress (pr := []) fm hA0 hT0 hB0.2.2.1 (by omega) (fit hok hN hP hil hk0 _)) mb_At_printAddress mi_At_printAddress n_ml_At_158 d_At_print_82 I_At hA0.2.1 rfl rfl rfl (fun g2_ n2_ h_ => ?_)
          obtain ⟨rfl, h2, hF2⟩ := h_
          refine s85 _ hf ⟨?_, hT0.fix hF2 (by omega)⟩ (hm0.tr (aw_md.fr hF2 (by omega)))
          rw [sp_prt, if_neg c34, if_neg c65]
          exact h2
        · have h16 : (tmG ts i).2.2.2.2.length ≤ 16 := by
            rcases hok i hil with z | z | z
            · rw [z.1] at c65; exact absurd c65 (by decide)
            · rw [z.1] at c65; exact absurd c65 (by decide)
            · exact z.2.2.2.2.1
          refine aw_aload_0 S d_At_print_68 ?_
          refine aw_aload_3 S d_At_print_69 ?_
          refine aw_callVv0 S (ev_At_printLiteral hA0 hB0 (by omega) (hok.l i hil c65) h16 rfl) mb_At_printLiteral mi_At_printLiteral n_ml_At_154 d_At_print_70 I_At hA0.2.1 rfl rfl rfl (fun g2_ n2_ h_ => ?_)
          obtain ⟨rfl, h2, hF2⟩ := h_
          refine aw_goto S 85 d_At_print_73 (by decide) ?_
          refine s85 _ hf ⟨?_, hT0.fix hF2 (by omega)⟩ (hm0.tr (aw_md.fr hF2 (by omega)))
          rw [sp_prt, if_neg c34, if_pos c65]
          exact h2
      · obtain ⟨kn, hkn, hnum⟩ : ∃ k, k < 1000 ∧ (tmG ts i).2.2.1 = nI k := by
          rcases hok i hil with z | z | z
          · rw [z.1] at c34; exact absurd c34 (by decide)
          · exact z.2.2.1
          · rw [z.1] at c34; exact absurd c34 (by decide)
        refine aw_aload_0 S d_At_print_37 ?_
        refine aw_getf S I_At 1 hA0.2.1 n_fl_At_18 d_At_print_38 rfl (by decide) ?_
        refine aw_ldcS S 5 (by decide) rfl d_At_print_41 ?_
        refine aw_callVv0 S (ev_Rw_addText 5 h0 (by decide) (by decide)) mb_Rw_addText mi_Rw_addText n_ml_At_144 d_At_print_43 I_Rw h0.cell rfl rfl rfl (fun g2_ n2_ h_ => ?_)
        obtain ⟨rfl, h1, hF1⟩ := h_
        have hA1 := hA0.printed hF1 h1
        have hB1 := hB0.fr hF1 (by omega)
        refine aw_aload_0 S d_At_print_46 ?_
        refine aw_getf S I_At 1 hA1.2.1 n_fl_At_18 d_At_print_47 rfl (by decide) ?_
        refine aw_aload_3 S d_At_print_50 ?_
        refine aw_getf S I_Tm 4 hB1.2.1 n_fl_At_148 d_At_print_51 rfl (by decide) ?_
        rw [hnum]
        refine aw_callVv0 S (ev_Rw_addNumber kn h1 hkn (by decide)) mb_Rw_addNumber mi_Rw_addNumber n_ml_At_151 d_At_print_54 I_Rw h1.cell rfl rfl rfl (fun g2_ n2_ h_ => ?_)
        obtain ⟨rfl, h2, hF2⟩ := h_
        refine aw_goto S 85 d_At_print_57 (by decide) ?_
        refine s85 _ hf ⟨hA1.printed hF2 ?_, (hT0.fix hF1 (by omega)).fix hF2 (by omega)⟩ ((hm0.tr (aw_md.fr hF1 (by omega))).tr (aw_md.fr hF2 (by omega)))
        rw [sp_prt, if_pos c34, hnum, nI_clamp (by omega)]
        exact h2
    refine aw_iload_2 S d_At_print_10 ?_
    refine aw_if_eq S 21 d_At_print_11 (by decide) (fun c11 => ?_) (fun c11 => ?_)
    · exact s21 (Or.inl c11)
    · refine aw_iload_2 S d_At_print_14 ?_
      refine aw_iconst (v := 1) S d_At_print_15 (by decide) ?_
      refine aw_icmp_eq S 21 d_At_print_16 (by decide) (fun c16 => ?_) (fun c16 => ?_)
      · exact s21 (Or.inr c16)
      · refine aw_iconst (v := -1) S d_At_print_19 (by decide) ?_
        refine aw_iret S rfl d_At_print_20 ?_ (by decide) (by decide)
        have hf : ¬ (fm = 0 ∨ fm = 1) := fun h => h.elim c11 c16
        have e1 : op_prtR ts ps q fm = -1 := by rw [op_prtR, hi]; dsimp only; rw [if_neg hf]
        have e2 : op_prtP ts ps pr q fm = pr := by rw [op_prtP, hi]; dsimp only; rw [if_neg hf]
        rw [e1, e2]
        exact ⟨rfl, tb, pb, hS0, aw_md.rf⟩
