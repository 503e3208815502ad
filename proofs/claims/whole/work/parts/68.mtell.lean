/-! the reference: telling -/
theorem mSt.prn {v v2 : Nat → Int32} {f f2 : Nat → Nat → Int32} {tape : List Int32} {ts : List Tmv} {bt : Int32} {ps : List Pfv} {pr L : List Int32} (h : mSt v f tape ts bt ps pr) (hf : mfr [6] [12] v v2 f f2) (h6 : v2 6 = nI L.length) (hL : mL (f2 12) 0 L) (hl : L.length ≤ 300) : mSt v2 f2 tape ts bt ps L := by
  obtain ⟨⟨tl, t0, tL⟩, ⟨nl, n1, nT⟩, b2, ⟨pl, p3, pP⟩, -⟩ := h
  refine ⟨⟨tl, (hf.1 0 (by decide)).trans t0, by rw [hf.2 0 (by decide)]; exact tL⟩, ⟨nl, (hf.1 1 (by decide)).trans n1, fun i hi => ?_⟩, (hf.1 2 (by decide)).trans b2, ⟨pl, (hf.1 3 (by decide)).trans p3, fun j hj => ?_⟩, ⟨hl, h6, hL⟩⟩
  · unfold mT
    rw [hf.2 1 (by decide), hf.2 2 (by decide), hf.2 3 (by decide), hf.2 4 (by decide), hf.2 5 (by decide), hf.2 6 (by decide)]
    exact nT i hi
  · unfold mP
    rw [hf.2 7 (by decide), hf.2 8 (by decide), hf.2 9 (by decide)]
    exact pP j hj
set_option maxRecDepth 100000 in
set_option maxHeartbeats 4000000 in
theorem ev_Md_tell {l : Launch} {E : aw_E} {g : AH} {n : Nat} {g0 : AH} {d : Nat} {v : Nat → Int32} {f : Nat → Nat → Int32} {xs : List Int32} (b : Int32) (hM : mG E g0 d v f g) (h6 : v 6 = nI xs.length) (hL : mL (f 12) 0 xs) (hl : xs.length < 300) : EV l E 0 0 0 y_Md_tell c_Md_tell 2 none g n [.ref d, .int b] (aw_Pv (fun g2 n2 => n2 = n ∧ ∃ v2 f2, mG E g0 d v2 f2 g2 ∧ mfr [6] [12] v v2 f f2 ∧ v2 6 = nI (xs ++ [b]).length ∧ mL (f2 12) 0 (xs ++ [b]))) := by
  refine aw_enter "AddressTermsModel" [some (.ref d), some (.int b)] (by decide) rfl rfl (Nat.le_of_ble_eq_true rfl) ?_
  intro p e s m args below meth c S hnm
  refine aw_aload_0 S d_Md_tell_0 ?_
  refine aw_getf S I_Md 19 hM.2.1 n_fl_Md_50 d_Md_tell_1 rfl (by decide) ?_
  refine aw_aload_0 S d_Md_tell_4 ?_
  refine aw_getf S I_Md 18 hM.2.1 n_fl_Md_226 d_Md_tell_5 rfl (by decide) ?_
  refine aw_topi h6 ?_
  refine aw_iload_1 S d_Md_tell_8 ?_
  refine aw_mst S hM 12 (by decide) (show _ < 300 by omega) d_Md_tell_9 (fun g_ hM => ?_)
  refine aw_aload_0 S d_Md_tell_10 ?_
  refine aw_dup S d_Md_tell_11 rfl ?_
  refine aw_getf S I_Md 18 hM.2.1 n_fl_Md_226 d_Md_tell_12 rfl (by decide) ?_
  refine aw_topi h6 ?_
  refine aw_iconst (v := 1) S d_Md_tell_15 (by decide) ?_
  refine aw_iadd S d_Md_tell_16 ?_
  refine aw_topi (nI_1 _) ?_
  refine aw_mput6 S hM n_fl_Md_226 d_Md_tell_17 (fun g_ hM => ?_)
  refine aw_vret S rfl d_Md_tell_20 ?_ (by decide) (by decide)
  refine ⟨rfl, _, _, hM, (mfr.rf.f (by decide)).v (by decide), ?_, hL.snoc0⟩
  rw [List.length_append]; rfl
set_option maxRecDepth 100000 in
set_option maxHeartbeats 4000000 in
theorem ev_Md_tellAll {l : Launch} {E : aw_E} {g : AH} {n : Nat} {g0 : AH} {d : Nat} {v : Nat → Int32} {f : Nat → Nat → Int32} {xs : List Int32} (W_ : Int64) (N : Nat) (hM : mG E g0 d v f g) (h6 : v 6 = nI xs.length) (hL : mL (f 12) 0 xs) (hN : N ≤ 8) (hl : xs.length + N ≤ 300) : EV l E 1 0 0 y_Md_tellAll c_Md_tellAll 5 none g n [.ref d, .long W_, .int (nI N)] (aw_Pv (fun g2 n2 => n2 = n ∧ ∃ v2 f2, mG E g0 d v2 f2 g2 ∧ mfr [6] [12] v v2 f f2 ∧ v2 6 = nI (xs ++ sp_bys W_ N).length ∧ mL (f2 12) 0 (xs ++ sp_bys W_ N))) := by
  refine aw_enter "AddressTermsModel" [some (.ref d), some (.long W_), none, some (.int (nI N)), none] (by decide) rfl rfl (Nat.le_of_ble_eq_true rfl) ?_
  intro p e s m args below meth c S hnm
  have loop : ∀ (j : Nat) (v1 : Nat → Int32) (f1 : Nat → Nat → Int32) (g : AH) (R : List Int32), mG E g0 d v1 f1 g → j ≤ N → R ++ sp_bys W_ j = xs ++ sp_bys W_ N → v1 6 = nI R.length → mL (f1 12) 0 R → mfr [6] [12] v v1 f f1 → AW p l e { frames := 1, cells := 0, slots := 0, locals := 40 * 1 } s m args below meth c E 5 (aw_Z E (aw_Pv (fun g2 n2 => n2 = n ∧ ∃ v2 f2, mG E g0 d v2 f2 g2 ∧ mfr [6] [12] v v2 f f2 ∧ v2 6 = nI (xs ++ sp_bys W_ N).length ∧ mL (f2 12) 0 (xs ++ sp_bys W_ N))) below args s 0 0) 0 0 g n 5 [some (.ref d), some (.long W_), none, some (.int (nI N)), some (.int (nI j - 1))] [] := by
    intro j
    induction j with
    | zero =>
      intro v1 f1 g R hM hj hv h6 hL hf
      rw [sp_bys, List.append_nil] at hv
      subst hv
      refine aw_iload_4 S d_Md_tellAll_5 ?_
      refine aw_if_lt S 32 d_Md_tellAll_7 (by decide) (fun c7 => ?_) (fun c7 => ?_)
      · refine aw_vret S rfl d_Md_tellAll_32 ?_ (by decide) (by decide)
        exact ⟨rfl, v1, f1, hM, hf, h6, hL⟩
      · exact absurd (show nI 0 - 1 < 0 by decide) c7
    | succ j ih =>
      intro v1 f1 g R hM hj hv h6 hL hf
      have hl := congrArg List.length hv
      rw [List.length_append, List.length_append, bys_len, bys_len] at hl
      rw [nI_pred]
      refine aw_iload_4 S d_Md_tellAll_5 ?_
      refine aw_if_lt S 32 d_Md_tellAll_7 (by decide) (fun c7 => ?_) (fun c7 => ?_)
      · exact absurd c7 (nI_pos (by omega))
      · refine aw_aload_0 S d_Md_tellAll_10 ?_
        refine aw_lload_1 S d_Md_tellAll_11 ?_
        refine aw_bipush (v := 8) S d_Md_tellAll_12 (by decide) ?_
        refine aw_iload_4 S d_Md_tellAll_14 ?_
        refine aw_imul S d_Md_tellAll_16 ?_
        refine aw_lshr S d_Md_tellAll_17 ?_
        refine aw_ldc2 S n_ct_Md_88 d_Md_tellAll_18 ?_
        refine aw_land S d_Md_tellAll_21 ?_
        refine aw_l2i S d_Md_tellAll_22 ?_
        refine aw_topi (mby W_ j (by omega)) ?_
        refine aw_callVv0 S (ev_Md_tell (sp_byte W_ (nI j)) hM h6 hL (by omega)) mb_Md_tell mi_Md_tell n_ml_Md_229 d_Md_tellAll_23 I_Md hM.2.1 rfl rfl rfl (fun g2_ n2_ h_ => ?_)
        obtain ⟨rfl, v3, f3, hM, hf3, h6, hL⟩ := h_
        refine aw_iinc_4 (v := nI j - 1) S d_Md_tellAll_26 (dec_i (nI j)) ?_
        refine aw_goto S 5 d_Md_tellAll_29 (by decide) ?_
        exact ih v3 f3 _ _ hM (by omega) (by rw [← hv, sp_bys, List.append_assoc]; rfl) h6 hL (hf.tr hf3)
  refine aw_iload_3 S d_Md_tellAll_0 ?_
  refine aw_iconst (v := 1) S d_Md_tellAll_1 (by decide) ?_
  refine aw_isub S d_Md_tellAll_2 ?_
  refine aw_istore_4 S d_Md_tellAll_3 ?_
  exact loop N v f _ xs hM (Nat.le_refl _) rfl h6 hL mfr.rf
theorem i99 : (99 : Int32) = nI 99 := rfl
theorem i9 : (9 : Int32) = nI 9 := rfl
set_option maxRecDepth 100000 in
set_option maxHeartbeats 4000000 in
theorem ev_Md_tellNumber {l : Launch} {E : aw_E} {g : AH} {n : Nat} {g0 : AH} {d : Nat} {v : Nat → Int32} {f : Nat → Nat → Int32} {xs : List Int32} (k : Nat) (hM : mG E g0 d v f g) (h6 : v 6 = nI xs.length) (hL : mL (f 12) 0 xs) (hk : k < 1000) (hl : xs.length ≤ 200) : EV l E 1 0 0 y_Md_tellNumber c_Md_tellNumber 2 none g n [.ref d, .int (nI k)] (aw_Pv (fun g2 n2 => n2 = n ∧ ∃ v2 f2, mG E g0 d v2 f2 g2 ∧ mfr [6] [12] v v2 f f2 ∧ v2 6 = nI (xs ++ sp_num k).length ∧ mL (f2 12) 0 (xs ++ sp_num k))) := by
  refine aw_enter "AddressTermsModel" [some (.ref d), some (.int (nI k))] (by decide) rfl rfl (Nat.le_of_ble_eq_true rfl) ?_
  intro p e s m args below meth c S hnm
  have s37 : ∀ (v1 : Nat → Int32) (f1 : Nat → Nat → Int32) (g : AH) (R : List Int32), mG E g0 d v1 f1 g → R.length ≤ 290 → R ++ [nI (48 + k % 10)] = xs ++ sp_num k → v1 6 = nI R.length → mL (f1 12) 0 R → mfr [6] [12] v v1 f f1 → AW p l e { frames := 1, cells := 0, slots := 0, locals := 40 * 1 } s m args below meth c E 2 (aw_Z E (aw_Pv (fun g2 n2 => n2 = n ∧ ∃ v2 f2, mG E g0 d v2 f2 g2 ∧ mfr [6] [12] v v2 f f2 ∧ v2 6 = nI (xs ++ sp_num k).length ∧ mL (f2 12) 0 (xs ++ sp_num k))) below args s 0 0) 0 0 g n 37 [some (.ref d), some (.int (nI k))] [] := by
    intro v1 f1 g R hM hRl hv h6 hL hf
    refine aw_aload_0 S d_Md_tellNumber_37 ?_
    refine aw_bipush (v := 48) S d_Md_tellNumber_38 (by decide) ?_
    refine aw_iload_1 S d_Md_tellNumber_40 ?_
    refine aw_bipush (v := 10) S d_Md_tellNumber_41 (by decide) ?_
    refine aw_irem S d_Md_tellNumber_43 (by decide) ?_
    rw [i10, pk_rem (by omega) (by omega) (by omega)]
    refine aw_iadd S d_Md_tellNumber_44 ?_
    rw [i48, nI_add]
    refine aw_callVv0 S (ev_Md_tell (nI (48 + k % 10)) hM h6 hL (by omega)) mb_Md_tell mi_Md_tell n_ml_Md_229 d_Md_tellNumber_45 I_Md hM.2.1 rfl rfl rfl (fun g2_ n2_ h_ => ?_)
    obtain ⟨rfl, v3, f3, hM, hf3, h6, hL⟩ := h_
    refine aw_vret S rfl d_Md_tellNumber_48 ?_ (by decide) (by decide)
    rw [hv] at h6 hL
    exact ⟨rfl, v3, f3, hM, hf.tr hf3, h6, hL⟩
  have s17 : ∀ (v1 : Nat → Int32) (f1 : Nat → Nat → Int32) (g : AH) (R : List Int32), mG E g0 d v1 f1 g → R.length ≤ 280 → R ++ ((if 10 ≤ k then [nI (48 + k / 10 % 10)] else []) ++ [nI (48 + k % 10)]) = xs ++ sp_num k → v1 6 = nI R.length → mL (f1 12) 0 R → mfr [6] [12] v v1 f f1 → AW p l e { frames := 1, cells := 0, slots := 0, locals := 40 * 1 } s m args below meth c E 2 (aw_Z E (aw_Pv (fun g2 n2 => n2 = n ∧ ∃ v2 f2, mG E g0 d v2 f2 g2 ∧ mfr [6] [12] v v2 f f2 ∧ v2 6 = nI (xs ++ sp_num k).length ∧ mL (f2 12) 0 (xs ++ sp_num k))) below args s 0 0) 0 0 g n 17 [some (.ref d), some (.int (nI k))] [] := by
    intro v1 f1 g R hM hRl hv h6 hL hf
    refine aw_iload_1 S d_Md_tellNumber_17 ?_
    refine aw_bipush (v := 9) S d_Md_tellNumber_18 (by decide) ?_
    refine aw_icmp_le S 37 d_Md_tellNumber_20 (by decide) (fun c20 => ?_) (fun c20 => ?_)
    · rw [i9, nI_leI (by omega) (by omega)] at c20
      rw [if_neg (by omega)] at hv
      exact s37 v1 f1 _ R hM (by omega) hv h6 hL hf
    · rw [i9, nI_leI (by omega) (by omega)] at c20
      refine aw_aload_0 S d_Md_tellNumber_23 ?_
      refine aw_bipush (v := 48) S d_Md_tellNumber_24 (by decide) ?_
      refine aw_iload_1 S d_Md_tellNumber_26 ?_
      refine aw_bipush (v := 10) S d_Md_tellNumber_27 (by decide) ?_
      refine aw_idiv S d_Md_tellNumber_29 (by decide) ?_
      rw [i10, pk_div (by omega) (by omega) (by omega)]
      refine aw_bipush (v := 10) S d_Md_tellNumber_30 (by decide) ?_
      refine aw_irem S d_Md_tellNumber_32 (by decide) ?_
      rw [i10, pk_rem (by omega) (by omega) (by omega)]
      refine aw_iadd S d_Md_tellNumber_33 ?_
      rw [i48, nI_add]
      refine aw_callVv0 S (ev_Md_tell (nI (48 + k / 10 % 10)) hM h6 hL (by omega)) mb_Md_tell mi_Md_tell n_ml_Md_229 d_Md_tellNumber_34 I_Md hM.2.1 rfl rfl rfl (fun g2_ n2_ h_ => ?_)
      obtain ⟨rfl, v3, f3, hM, hf3, h6, hL⟩ := h_
      rw [if_pos (by omega), ← List.append_assoc] at hv
      exact s37 v3 f3 _ _ hM (by simp only [List.length_append, List.length_cons, List.length_nil]; omega) hv h6 hL (hf.tr hf3)
  refine aw_iload_1 S d_Md_tellNumber_0 ?_
  refine aw_bipush (v := 99) S d_Md_tellNumber_1 (by decide) ?_
  refine aw_icmp_le S 17 d_Md_tellNumber_3 (by decide) (fun c3 => ?_) (fun c3 => ?_)
  · rw [i99, nI_leI (by omega) (by omega)] at c3
    exact s17 v f _ xs hM (by omega) (by rw [sp_num, if_neg (show ¬ 100 ≤ k by omega)]; rfl) h6 hL mfr.rf
  · rw [i99, nI_leI (by omega) (by omega)] at c3
    refine aw_aload_0 S d_Md_tellNumber_6 ?_
    refine aw_bipush (v := 48) S d_Md_tellNumber_7 (by decide) ?_
    refine aw_iload_1 S d_Md_tellNumber_9 ?_
    refine aw_bipush (v := 100) S d_Md_tellNumber_10 (by decide) ?_
    refine aw_idiv S d_Md_tellNumber_12 (by decide) ?_
    rw [i100, pk_div (by omega) (by omega) (by omega)]
    refine aw_iadd S d_Md_tellNumber_13 ?_
    rw [i48, nI_add, show k / 100 = k / 100 % 10 by omega]
    refine aw_callVv0 S (ev_Md_tell (nI (48 + k / 100 % 10)) hM h6 hL (by omega)) mb_Md_tell mi_Md_tell n_ml_Md_229 d_Md_tellNumber_14 I_Md hM.2.1 rfl rfl rfl (fun g2_ n2_ h_ => ?_)
    obtain ⟨rfl, v3, f3, hM, hf3, h6, hL⟩ := h_
    exact s17 v3 f3 _ _ hM (by simp only [List.length_append, List.length_cons, List.length_nil]; omega) (by rw [sp_num, if_pos (show 100 ≤ k by omega), List.append_assoc]) h6 hL hf3
def lastc (b : Int32) : Int32 := if b = 9 then 116 else if b = 10 then 110 else if b = 13 then 114 else b
theorem txt_nat {b : Int32} (h : sp_txt b = true) : ∃ j, j < 127 ∧ b = nI j := by
  unfold sp_txt at h
  rw [Bool.or_eq_true, Bool.or_eq_true, Bool.or_eq_true] at h
  rcases h with h | h | h | h
  · exact ⟨9, by decide, of_decide_eq_true h⟩
  · exact ⟨10, by decide, of_decide_eq_true h⟩
  · exact ⟨13, by decide, of_decide_eq_true h⟩
  · obtain ⟨j, h1, -, e⟩ := in_nat (lo := 32) (hi := 126) (by decide) (by decide) h
    exact ⟨j, by omega, e⟩
theorem pb_esc {b : Int32} (h : sp_txt b = true) (h2 : b = 34 ∨ b = 92 ∨ ¬ 32 ≤ b) : sp_pb b = [92, lastc b] := by
  obtain ⟨j, hj, rfl⟩ := txt_nat h
  have : ∀ j, j < 127 → sp_txt (nI j) = true → (nI j = 34 ∨ nI j = 92 ∨ ¬ 32 ≤ nI j) → sp_pb (nI j) = [92, lastc (nI j)] := by decide +kernel
  exact this j hj h h2
theorem pb_one {b : Int32} (h : sp_txt b = true) (h1 : ¬ b = 34) (h2 : ¬ b = 92) (h3 : 32 ≤ b) : sp_pb b = [lastc b] := by
  obtain ⟨j, hj, rfl⟩ := txt_nat h
  have : ∀ j, j < 127 → (sp_txt (nI j) = true ∧ ¬ nI j = 34 ∧ ¬ nI j = 92 ∧ 32 ≤ nI j) → sp_pb (nI j) = [lastc (nI j)] := by decide +kernel
  exact this j hj ⟨h, h1, h2, h3⟩
theorem fm_step {xs : List Int32} {k : Nat} (h : k < xs.length) : (xs.take (k + 1)).flatMap sp_pb = (xs.take k).flatMap sp_pb ++ sp_pb (xs.getD k (-1)) := by
  rw [take_step h, List.flatMap_append]
  simp
theorem by_whole : sp_bys 26562514757053541 7 = [94, 94, 119, 104, 111, 108, 101] := by decide +kernel
theorem by_truth : sp_bys 26562502040319080 7 = [94, 94, 116, 114, 117, 116, 104] := by decide +kernel
theorem by_other : sp_bys 26562480598181234 7 = [94, 94, 111, 116, 104, 101, 114] := by decide +kernel
theorem by_label : sp_bys 6240866 3 = [95, 58, 98] := by decide +kernel
set_option maxRecDepth 100000 in
set_option maxHeartbeats 4000000 in
theorem ev_Md_tellLiteral {l : Launch} {E : aw_E} {g : AH} {n : Nat} {g0 : AH} {d : Nat} {v : Nat → Int32} {f : Nat → Nat → Int32} {u : Tmv} (i : Nat) (hM : mG E g0 d v f g) (h6 : v 6 = nI 0) (hi : i < 60) (hT : mT f i u) (hmn : mN u = u.2.1) (hx40 : u.2.2.2.1.length ≤ 40) (htxt : ∀ x ∈ u.2.2.2.1, sp_txt x = true) : EV l E 2 0 0 y_Md_tellLiteral c_Md_tellLiteral 4 none g n [.ref d, .int (nI i)] (aw_Pv (fun g2 n2 => n2 = n ∧ ∃ v2 f2, mG E g0 d v2 f2 g2 ∧ mfr [6] [12] v v2 f f2 ∧ v2 6 = nI (sp_plit u).length ∧ mL (f2 12) 0 (sp_plit u))) := by
  refine aw_enter "AddressTermsModel" [some (.ref d), some (.int (nI i)), none, none] (by decide) rfl rfl (Nat.le_of_ble_eq_true rfl) ?_
  intro p e s m args below meth c S hnm
  have hfm := fm_len u.2.2.2.1
  obtain ⟨T1, T2, T3, T4, T5, T6, T7, T8⟩ := id hT
  have l122 : ∀ (j k : Nat) (v1 : Nat → Int32) (f1 : Nat → Nat → Int32) (g : AH) (R : List Int32) (y : Option Value), mG E g0 d v1 f1 g → v1 6 = nI R.length → mL (f1 12) 0 R → mfr [6] [12] v v1 f f1 → k + j = u.2.2.2.2.length → R = (34 :: (u.2.2.2.1.flatMap sp_pb ++ [34, 64])) ++ u.2.2.2.2.take k → (34 :: (u.2.2.2.1.flatMap sp_pb ++ [34, 64])) ++ u.2.2.2.2 = sp_plit u → AW p l e { frames := 2, cells := 0, slots := 0, locals := 40 * 2 } s m args below meth c E 4 (aw_Z E (aw_Pv (fun g2 n2 => n2 = n ∧ ∃ v2 f2, mG E g0 d v2 f2 g2 ∧ mfr [6] [12] v v2 f f2 ∧ v2 6 = nI (sp_plit u).length ∧ mL (f2 12) 0 (sp_plit u))) below args s 0 0) 0 0 g n 122 [some (.ref d), some (.int (nI i)), some (.int (nI k)), y] [] := by
    intro j
    induction j with
    | zero =>
      intro k v1 f1 g R y hM h6 hL hf hk hR he
      rw [List.take_of_length_le (by omega), he] at hR
      subst hR
      refine aw_iload_2 S d_Md_tellLiteral_122 ?_
      refine aw_aload_0 S d_Md_tellLiteral_123 ?_
      refine aw_getf S I_Md 7 hM.2.1 n_fl_Md_25 d_Md_tellLiteral_124 rfl (by decide) ?_
      refine aw_iload_1 S d_Md_tellLiteral_127 ?_
      refine aw_mld S hM 5 (by decide) (((congrFun (hf.2 5 (by decide)) _).trans (T6))) (show _ < 60 by omega) d_Md_tellLiteral_128 ?_
      refine aw_icmp_ge S 153 d_Md_tellLiteral_129 (by decide) (fun c129 => ?_) (fun c129 => ?_)
      · refine aw_goto S 219 d_Md_tellLiteral_153 (by decide) ?_
        refine aw_vret S rfl d_Md_tellLiteral_219 ?_ (by decide) (by decide)
        exact ⟨rfl, v1, f1, hM, hf, h6, hL⟩
      · exact absurd (nI_le (by omega) (by omega)) c129
    | succ j ih =>
      intro k v1 f1 g R y hM h6 hL hf hk hR he
      have hRl := congrArg List.length hR
      simp only [List.length_append, List.length_cons, List.length_nil, List.length_take] at hRl
      refine aw_iload_2 S d_Md_tellLiteral_122 ?_
      refine aw_aload_0 S d_Md_tellLiteral_123 ?_
      refine aw_getf S I_Md 7 hM.2.1 n_fl_Md_25 d_Md_tellLiteral_124 rfl (by decide) ?_
      refine aw_iload_1 S d_Md_tellLiteral_127 ?_
      refine aw_mld S hM 5 (by decide) (((congrFun (hf.2 5 (by decide)) _).trans (T6))) (show _ < 60 by omega) d_Md_tellLiteral_128 ?_
      refine aw_icmp_ge S 153 d_Md_tellLiteral_129 (by decide) (fun c129 => ?_) (fun c129 => ?_)
      · exact absurd c129 (nI_ge (by omega) (by omega))
      · refine aw_aload_0 S d_Md_tellLiteral_132 ?_
        refine aw_aload_0 S d_Md_tellLiteral_133 ?_
        refine aw_getf S I_Md 8 hM.2.1 n_fl_Md_28 d_Md_tellLiteral_134 rfl (by decide) ?_
        refine aw_bipush (v := 16) S d_Md_tellLiteral_137 (by decide) ?_
        refine aw_iload_1 S d_Md_tellLiteral_139 ?_
        refine aw_imul S d_Md_tellLiteral_140 ?_
        refine aw_iload_2 S d_Md_tellLiteral_141 ?_
        refine aw_iadd S d_Md_tellLiteral_142 ?_
        refine aw_topi (ix16 (i) (k)) ?_
        refine aw_mld S hM 6 (by decide) (((congrFun (hf.2 6 (by decide)) _).trans (T8 k (by omega)))) (show _ < 960 by omega) d_Md_tellLiteral_143 ?_
        refine aw_callVv0 S (ev_Md_tell (u.2.2.2.2.getD k (-1)) hM h6 hL (by omega)) mb_Md_tell mi_Md_tell n_ml_Md_229 d_Md_tellLiteral_144 I_Md hM.2.1 rfl rfl rfl (fun g2_ n2_ h_ => ?_)
        obtain ⟨rfl, v3, f3, hM, hf3, h6, hL⟩ := h_
        refine aw_iinc_2 (v := nI (k + 1)) S d_Md_tellLiteral_147 ((nI_succ (k)).symm) ?_
        refine aw_goto S 122 d_Md_tellLiteral_150 (by decide) ?_
        exact ih (k + 1) v3 f3 _ _ _ hM h6 hL (hf.tr hf3) (by omega) (by rw [hR, take_step (by omega), List.append_assoc]) he
  have s104 : ∀ (v1 : Nat → Int32) (f1 : Nat → Nat → Int32) (g : AH) (R : List Int32) (x y : Option Value), mG E g0 d v1 f1 g → v1 6 = nI R.length → mL (f1 12) 0 R → mfr [6] [12] v v1 f f1 → R = 34 :: (u.2.2.2.1.flatMap sp_pb ++ [34]) → AW p l e { frames := 2, cells := 0, slots := 0, locals := 40 * 2 } s m args below meth c E 4 (aw_Z E (aw_Pv (fun g2 n2 => n2 = n ∧ ∃ v2 f2, mG E g0 d v2 f2 g2 ∧ mfr [6] [12] v v2 f f2 ∧ v2 6 = nI (sp_plit u).length ∧ mL (f2 12) 0 (sp_plit u))) below args s 0 0) 0 0 g n 104 [some (.ref d), some (.int (nI i)), x, y] [] := by
    intro v1 f1 g R x y hM h6 hL hf hR
    have hRl := congrArg List.length hR
    simp only [List.length_append, List.length_cons, List.length_nil] at hRl
    refine aw_aload_0 S d_Md_tellLiteral_104 ?_
    refine aw_getf S I_Md 4 hM.2.1 n_fl_Md_16 d_Md_tellLiteral_105 rfl (by decide) ?_
    refine aw_iload_1 S d_Md_tellLiteral_108 ?_
    refine aw_mld S hM 2 (by decide) (((congrFun (hf.2 2 (by decide)) _).trans (T2.trans hmn))) (show _ < 60 by omega) d_Md_tellLiteral_109 ?_
    refine aw_iconst (v := 1) S d_Md_tellLiteral_110 (by decide) ?_
    refine aw_icmp_ne S 156 d_Md_tellLiteral_111 (by decide) (fun c111 => ?_) (fun c111 => ?_)
    · refine aw_aload_0 S d_Md_tellLiteral_156 ?_
      refine aw_getf S I_Md 4 hM.2.1 n_fl_Md_16 d_Md_tellLiteral_157 rfl (by decide) ?_
      refine aw_iload_1 S d_Md_tellLiteral_160 ?_
      refine aw_mld S hM 2 (by decide) (((congrFun (hf.2 2 (by decide)) _).trans (T2.trans hmn))) (show _ < 60 by omega) d_Md_tellLiteral_161 ?_
      refine aw_iconst (v := 2) S d_Md_tellLiteral_162 (by decide) ?_
      refine aw_icmp_ne S 178 d_Md_tellLiteral_163 (by decide) (fun c163 => ?_) (fun c163 => ?_)
      · refine aw_aload_0 S d_Md_tellLiteral_178 ?_
        refine aw_getf S I_Md 4 hM.2.1 n_fl_Md_16 d_Md_tellLiteral_179 rfl (by decide) ?_
        refine aw_iload_1 S d_Md_tellLiteral_182 ?_
        refine aw_mld S hM 2 (by decide) (((congrFun (hf.2 2 (by decide)) _).trans (T2.trans hmn))) (show _ < 60 by omega) d_Md_tellLiteral_183 ?_
        refine aw_iconst (v := 3) S d_Md_tellLiteral_184 (by decide) ?_
        refine aw_icmp_ne S 200 d_Md_tellLiteral_185 (by decide) (fun c185 => ?_) (fun c185 => ?_)
        · refine aw_aload_0 S d_Md_tellLiteral_200 ?_
          refine aw_getf S I_Md 4 hM.2.1 n_fl_Md_16 d_Md_tellLiteral_201 rfl (by decide) ?_
          refine aw_iload_1 S d_Md_tellLiteral_204 ?_
          refine aw_mld S hM 2 (by decide) (((congrFun (hf.2 2 (by decide)) _).trans (T2.trans hmn))) (show _ < 60 by omega) d_Md_tellLiteral_205 ?_
          refine aw_iconst (v := 4) S d_Md_tellLiteral_206 (by decide) ?_
          refine aw_icmp_ne S 219 d_Md_tellLiteral_207 (by decide) (fun c207 => ?_) (fun c207 => ?_)
          · refine aw_vret S rfl d_Md_tellLiteral_219 ?_ (by decide) (by decide)
            have e : sp_plit u = 34 :: (u.2.2.2.1.flatMap sp_pb ++ [34]) := by
              rw [sp_plit, sp_ptl, if_neg c111, if_neg c163, if_neg c185, if_neg c207]
            rw [hR, ← e] at h6 hL
            exact ⟨rfl, v1, f1, hM, hf, h6, hL⟩
          · refine aw_aload_0 S d_Md_tellLiteral_210 ?_
            refine aw_ldc2 S n_ct_Md_240 d_Md_tellLiteral_211 ?_
            refine aw_bipush (v := 7) S d_Md_tellLiteral_214 (by decide) ?_
            refine aw_topi (show (7 : Int32) = nI 7 from rfl) ?_
            refine aw_callVv0 S (ev_Md_tellAll 26562480598181234 7 hM h6 hL (by decide) (by omega)) mb_Md_tellAll mi_Md_tellAll n_ml_Md_234 d_Md_tellLiteral_216 I_Md hM.2.1 rfl rfl rfl (fun g2_ n2_ h_ => ?_)
            obtain ⟨rfl, v3, f3, hM, hf3, h6, hL⟩ := h_
            rw [by_other, hR] at h6 hL
            refine aw_vret S rfl d_Md_tellLiteral_219 ?_ (by decide) (by decide)
            have e : sp_plit u = 34 :: (u.2.2.2.1.flatMap sp_pb ++ [34]) ++ [94, 94, 111, 116, 104, 101, 114] := by
              rw [sp_plit, sp_ptl, if_neg c111, if_neg c163, if_neg c185, if_pos c207]
              simp
            rw [e]
            exact ⟨rfl, v3, f3, hM, hf.tr hf3, h6, hL⟩
        · refine aw_aload_0 S d_Md_tellLiteral_188 ?_
          refine aw_ldc2 S n_ct_Md_238 d_Md_tellLiteral_189 ?_
          refine aw_bipush (v := 7) S d_Md_tellLiteral_192 (by decide) ?_
          refine aw_topi (show (7 : Int32) = nI 7 from rfl) ?_
          refine aw_callVv0 S (ev_Md_tellAll 26562502040319080 7 hM h6 hL (by decide) (by omega)) mb_Md_tellAll mi_Md_tellAll n_ml_Md_234 d_Md_tellLiteral_194 I_Md hM.2.1 rfl rfl rfl (fun g2_ n2_ h_ => ?_)
          obtain ⟨rfl, v3, f3, hM, hf3, h6, hL⟩ := h_
          rw [by_truth, hR] at h6 hL
          refine aw_goto S 219 d_Md_tellLiteral_197 (by decide) ?_
          refine aw_vret S rfl d_Md_tellLiteral_219 ?_ (by decide) (by decide)
          have e : sp_plit u = 34 :: (u.2.2.2.1.flatMap sp_pb ++ [34]) ++ [94, 94, 116, 114, 117, 116, 104] := by
            rw [sp_plit, sp_ptl, if_neg c111, if_neg c163, if_pos c185]
            simp
          rw [e]
          exact ⟨rfl, v3, f3, hM, hf.tr hf3, h6, hL⟩
      · refine aw_aload_0 S d_Md_tellLiteral_166 ?_
        refine aw_ldc2 S n_ct_Md_232 d_Md_tellLiteral_167 ?_
        refine aw_bipush (v := 7) S d_Md_tellLiteral_170 (by decide) ?_
        refine aw_topi (show (7 : Int32) = nI 7 from rfl) ?_
        refine aw_callVv0 S (ev_Md_tellAll 26562514757053541 7 hM h6 hL (by decide) (by omega)) mb_Md_tellAll mi_Md_tellAll n_ml_Md_234 d_Md_tellLiteral_172 I_Md hM.2.1 rfl rfl rfl (fun g2_ n2_ h_ => ?_)
        obtain ⟨rfl, v3, f3, hM, hf3, h6, hL⟩ := h_
        rw [by_whole, hR] at h6 hL
        refine aw_goto S 219 d_Md_tellLiteral_175 (by decide) ?_
        refine aw_vret S rfl d_Md_tellLiteral_219 ?_ (by decide) (by decide)
        have e : sp_plit u = 34 :: (u.2.2.2.1.flatMap sp_pb ++ [34]) ++ [94, 94, 119, 104, 111, 108, 101] := by
          rw [sp_plit, sp_ptl, if_neg c111, if_pos c163]
          simp
        rw [e]
        exact ⟨rfl, v3, f3, hM, hf.tr hf3, h6, hL⟩
    · refine aw_aload_0 S d_Md_tellLiteral_114 ?_
      refine aw_bipush (v := 64) S d_Md_tellLiteral_115 (by decide) ?_
      refine aw_callVv0 S (ev_Md_tell 64 hM h6 hL (by omega)) mb_Md_tell mi_Md_tell n_ml_Md_229 d_Md_tellLiteral_117 I_Md hM.2.1 rfl rfl rfl (fun g2_ n2_ h_ => ?_)
      obtain ⟨rfl, v3, f3, hM, hf3, h6, hL⟩ := h_
      refine aw_iconst (v := 0) S d_Md_tellLiteral_120 (by decide) ?_
      refine aw_topi nI_0.symm ?_
      refine aw_istore_2 S d_Md_tellLiteral_121 ?_
      refine l122 _ 0 v3 f3 _ _ _ hM h6 hL (hf.tr hf3) (Nat.zero_add _) ?_ ?_
      · rw [hR, List.take_zero]; simp
      · rw [sp_plit, sp_ptl, if_pos c111]; simp
  have l8 : ∀ (j k : Nat) (v1 : Nat → Int32) (f1 : Nat → Nat → Int32) (g : AH) (R : List Int32) (y : Option Value), mG E g0 d v1 f1 g → v1 6 = nI R.length → mL (f1 12) 0 R → mfr [6] [12] v v1 f f1 → k + j = u.2.2.2.1.length → R = 34 :: (u.2.2.2.1.take k).flatMap sp_pb → AW p l e { frames := 2, cells := 0, slots := 0, locals := 40 * 2 } s m args below meth c E 4 (aw_Z E (aw_Pv (fun g2 n2 => n2 = n ∧ ∃ v2 f2, mG E g0 d v2 f2 g2 ∧ mfr [6] [12] v v2 f f2 ∧ v2 6 = nI (sp_plit u).length ∧ mL (f2 12) 0 (sp_plit u))) below args s 0 0) 0 0 g n 8 [some (.ref d), some (.int (nI i)), some (.int (nI k)), y] [] := by
    intro j
    induction j with
    | zero =>
      intro k v1 f1 g R y hM h6 hL hf hk hR
      rw [List.take_of_length_le (by omega)] at hR
      have hRl := congrArg List.length hR
      simp only [List.length_cons] at hRl
      refine aw_iload_2 S d_Md_tellLiteral_8 ?_
      refine aw_aload_0 S d_Md_tellLiteral_9 ?_
      refine aw_getf S I_Md 5 hM.2.1 n_fl_Md_19 d_Md_tellLiteral_10 rfl (by decide) ?_
      refine aw_iload_1 S d_Md_tellLiteral_13 ?_
      refine aw_mld S hM 3 (by decide) (((congrFun (hf.2 3 (by decide)) _).trans (T3))) (show _ < 60 by omega) d_Md_tellLiteral_14 ?_
      refine aw_icmp_ge S 98 d_Md_tellLiteral_15 (by decide) (fun c15 => ?_) (fun c15 => ?_)
      · refine aw_aload_0 S d_Md_tellLiteral_98 ?_
        refine aw_bipush (v := 34) S d_Md_tellLiteral_99 (by decide) ?_
        refine aw_callVv0 S (ev_Md_tell 34 hM h6 hL (by omega)) mb_Md_tell mi_Md_tell n_ml_Md_229 d_Md_tellLiteral_101 I_Md hM.2.1 rfl rfl rfl (fun g2_ n2_ h_ => ?_)
        obtain ⟨rfl, v3, f3, hM, hf3, h6, hL⟩ := h_
        exact s104 v3 f3 _ _ _ _ hM h6 hL (hf.tr hf3) (by rw [hR]; rfl)
      · exact absurd (nI_le (by omega) (by omega)) c15
    | succ j ih =>
      intro k v1 f1 g R y hM h6 hL hf hk hR
      have hkl : k < u.2.2.2.1.length := by omega
      have htx := htxt _ (getD_mem hkl)
      have hfk := fm_len (u.2.2.2.1.take k)
      rw [List.length_take] at hfk
      have hRl := congrArg List.length hR
      simp only [List.length_cons] at hRl
      have hst := fm_step hkl
      generalize hc : u.2.2.2.1.getD k (-1) = b_ at htx hst
      have s89 : ∀ (v1 : Nat → Int32) (f1 : Nat → Nat → Int32) (g : AH) (R2 : List Int32), mG E g0 d v1 f1 g → v1 6 = nI R2.length → mL (f1 12) 0 R2 → mfr [6] [12] v v1 f f1 → R2.length < 290 → R2 ++ [lastc b_] = 34 :: (u.2.2.2.1.take (k + 1)).flatMap sp_pb → AW p l e { frames := 2, cells := 0, slots := 0, locals := 40 * 2 } s m args below meth c E 4 (aw_Z E (aw_Pv (fun g2 n2 => n2 = n ∧ ∃ v2 f2, mG E g0 d v2 f2 g2 ∧ mfr [6] [12] v v2 f f2 ∧ v2 6 = nI (sp_plit u).length ∧ mL (f2 12) 0 (sp_plit u))) below args s 0 0) 0 0 g n 89 [some (.ref d), some (.int (nI i)), some (.int (nI k)), some (.int b_)] [.int (lastc b_), .ref d] := by
        intro v1 f1 g R2 hM h6 hL hf hl hv
        refine aw_callVv0 S (ev_Md_tell (lastc b_) hM h6 hL (by omega)) mb_Md_tell mi_Md_tell n_ml_Md_229 d_Md_tellLiteral_89 I_Md hM.2.1 rfl rfl rfl (fun g2_ n2_ h_ => ?_)
        obtain ⟨rfl, v3, f3, hM, hf3, h6, hL⟩ := h_
        refine aw_iinc_2 (v := nI (k + 1)) S d_Md_tellLiteral_92 ((nI_succ (k)).symm) ?_
        refine aw_goto S 8 d_Md_tellLiteral_95 (by decide) ?_
        exact ih (k + 1) v3 f3 _ _ _ hM h6 hL (hf.tr hf3) (by omega) hv
      have s54 : ∀ (v1 : Nat → Int32) (f1 : Nat → Nat → Int32) (g : AH) (R2 : List Int32), mG E g0 d v1 f1 g → v1 6 = nI R2.length → mL (f1 12) 0 R2 → mfr [6] [12] v v1 f f1 → R2.length < 290 → R2 ++ [lastc b_] = 34 :: (u.2.2.2.1.take (k + 1)).flatMap sp_pb → AW p l e { frames := 2, cells := 0, slots := 0, locals := 40 * 2 } s m args below meth c E 4 (aw_Z E (aw_Pv (fun g2 n2 => n2 = n ∧ ∃ v2 f2, mG E g0 d v2 f2 g2 ∧ mfr [6] [12] v v2 f f2 ∧ v2 6 = nI (sp_plit u).length ∧ mL (f2 12) 0 (sp_plit u))) below args s 0 0) 0 0 g n 54 [some (.ref d), some (.int (nI i)), some (.int (nI k)), some (.int b_)] [] := by
        intro v1 f1 g R2 hM h6 hL hf hl hv
        have s89 := s89 v1 f1 g R2 hM h6 hL hf hl hv
        refine aw_aload_0 S d_Md_tellLiteral_54 ?_
        refine aw_iload_3 S d_Md_tellLiteral_55 ?_
        refine aw_bipush (v := 9) S d_Md_tellLiteral_56 (by decide) ?_
        refine aw_icmp_ne S 66 d_Md_tellLiteral_58 (by decide) (fun c58 => ?_) (fun c58 => ?_)
        · refine aw_iload_3 S d_Md_tellLiteral_66 ?_
          refine aw_bipush (v := 10) S d_Md_tellLiteral_67 (by decide) ?_
          refine aw_icmp_ne S 77 d_Md_tellLiteral_69 (by decide) (fun c69 => ?_) (fun c69 => ?_)
          · refine aw_iload_3 S d_Md_tellLiteral_77 ?_
            refine aw_bipush (v := 13) S d_Md_tellLiteral_78 (by decide) ?_
            refine aw_icmp_ne S 88 d_Md_tellLiteral_80 (by decide) (fun c80 => ?_) (fun c80 => ?_)
            · refine aw_iload_3 S d_Md_tellLiteral_88 ?_
              rw [show lastc b_ = b_ by rw [lastc, if_neg c58, if_neg c69, if_neg c80]] at s89
              exact s89
            · refine aw_bipush (v := 114) S d_Md_tellLiteral_83 (by decide) ?_
              refine aw_goto S 89 d_Md_tellLiteral_85 (by decide) ?_
              rw [show lastc b_ = 114 by rw [lastc, if_neg c58, if_neg c69, if_pos c80]] at s89
              exact s89
          · refine aw_bipush (v := 110) S d_Md_tellLiteral_72 (by decide) ?_
            refine aw_goto S 89 d_Md_tellLiteral_74 (by decide) ?_
            rw [show lastc b_ = 110 by rw [lastc, if_neg c58, if_pos c69]] at s89
            exact s89
        · refine aw_bipush (v := 116) S d_Md_tellLiteral_61 (by decide) ?_
          refine aw_goto S 89 d_Md_tellLiteral_63 (by decide) ?_
          rw [show lastc b_ = 116 by rw [lastc, if_pos c58]] at s89
          exact s89
      refine aw_iload_2 S d_Md_tellLiteral_8 ?_
      refine aw_aload_0 S d_Md_tellLiteral_9 ?_
      refine aw_getf S I_Md 5 hM.2.1 n_fl_Md_19 d_Md_tellLiteral_10 rfl (by decide) ?_
      refine aw_iload_1 S d_Md_tellLiteral_13 ?_
      refine aw_mld S hM 3 (by decide) (((congrFun (hf.2 3 (by decide)) _).trans (T3))) (show _ < 60 by omega) d_Md_tellLiteral_14 ?_
      refine aw_icmp_ge S 98 d_Md_tellLiteral_15 (by decide) (fun c15 => ?_) (fun c15 => ?_)
      · exact absurd c15 (nI_ge (by omega) (by omega))
      · refine aw_aload_0 S d_Md_tellLiteral_18 ?_
        refine aw_getf S I_Md 6 hM.2.1 n_fl_Md_22 d_Md_tellLiteral_19 rfl (by decide) ?_
        refine aw_bipush (v := 100) S d_Md_tellLiteral_22 (by decide) ?_
        refine aw_iload_1 S d_Md_tellLiteral_24 ?_
        refine aw_imul S d_Md_tellLiteral_25 ?_
        refine aw_iload_2 S d_Md_tellLiteral_26 ?_
        refine aw_iadd S d_Md_tellLiteral_27 ?_
        refine aw_topi (ix100 (i) (k)) ?_
        refine aw_mld S hM 4 (by decide) (((congrFun (hf.2 4 (by decide)) _).trans ((T5 k hkl).trans hc))) (show _ < 6000 by omega) d_Md_tellLiteral_28 ?_
        refine aw_istore_3 S d_Md_tellLiteral_29 ?_
        refine aw_iload_3 S d_Md_tellLiteral_30 ?_
        refine aw_bipush (v := 34) S d_Md_tellLiteral_31 (by decide) ?_
        refine aw_icmp_eq S 48 d_Md_tellLiteral_33 (by decide) (fun c33 => ?_) (fun c33 => ?_)
        · refine aw_aload_0 S d_Md_tellLiteral_48 ?_
          refine aw_bipush (v := 92) S d_Md_tellLiteral_49 (by decide) ?_
          refine aw_callVv0 S (ev_Md_tell 92 hM h6 hL (by omega)) mb_Md_tell mi_Md_tell n_ml_Md_229 d_Md_tellLiteral_51 I_Md hM.2.1 rfl rfl rfl (fun g2_ n2_ h_ => ?_)
          obtain ⟨rfl, v3, f3, hM, hf3, h6, hL⟩ := h_
          exact s54 v3 f3 _ _ hM h6 hL (hf.tr hf3) (by rw [List.length_append, List.length_singleton]; omega) (by rw [hR, hst, pb_esc htx (Or.inl c33)]; simp)
        · refine aw_iload_3 S d_Md_tellLiteral_36 ?_
          refine aw_bipush (v := 92) S d_Md_tellLiteral_37 (by decide) ?_
          refine aw_icmp_eq S 48 d_Md_tellLiteral_39 (by decide) (fun c39 => ?_) (fun c39 => ?_)
          · refine aw_aload_0 S d_Md_tellLiteral_48 ?_
            refine aw_bipush (v := 92) S d_Md_tellLiteral_49 (by decide) ?_
            refine aw_callVv0 S (ev_Md_tell 92 hM h6 hL (by omega)) mb_Md_tell mi_Md_tell n_ml_Md_229 d_Md_tellLiteral_51 I_Md hM.2.1 rfl rfl rfl (fun g2_ n2_ h_ => ?_)
            obtain ⟨rfl, v3, f3, hM, hf3, h6, hL⟩ := h_
            exact s54 v3 f3 _ _ hM h6 hL (hf.tr hf3) (by rw [List.length_append, List.length_singleton]; omega) (by rw [hR, hst, pb_esc htx (Or.inr (Or.inl c39))]; simp)
          · refine aw_iload_3 S d_Md_tellLiteral_42 ?_
            refine aw_bipush (v := 32) S d_Md_tellLiteral_43 (by decide) ?_
            refine aw_icmp_ge S 54 d_Md_tellLiteral_45 (by decide) (fun c45 => ?_) (fun c45 => ?_)
            · exact s54 v1 f1 _ R hM h6 hL hf (by omega) (by rw [hR, hst, pb_one htx c33 c39 c45]; rfl)
            · refine aw_aload_0 S d_Md_tellLiteral_48 ?_
              refine aw_bipush (v := 92) S d_Md_tellLiteral_49 (by decide) ?_
              refine aw_callVv0 S (ev_Md_tell 92 hM h6 hL (by omega)) mb_Md_tell mi_Md_tell n_ml_Md_229 d_Md_tellLiteral_51 I_Md hM.2.1 rfl rfl rfl (fun g2_ n2_ h_ => ?_)
              obtain ⟨rfl, v3, f3, hM, hf3, h6, hL⟩ := h_
              exact s54 v3 f3 _ _ hM h6 hL (hf.tr hf3) (by rw [List.length_append, List.length_singleton]; omega) (by rw [hR, hst, pb_esc htx (Or.inr (Or.inr c45))]; simp)
  refine aw_aload_0 S d_Md_tellLiteral_0 ?_
  refine aw_bipush (v := 34) S d_Md_tellLiteral_1 (by decide) ?_
  refine aw_callVv0 S (ev_Md_tell (xs := []) 34 hM h6 mL.nil (by decide)) mb_Md_tell mi_Md_tell n_ml_Md_229 d_Md_tellLiteral_3 I_Md hM.2.1 rfl rfl rfl (fun g2_ n2_ h_ => ?_)
  obtain ⟨rfl, v3, f3, hM, hf3, h6, hL⟩ := h_
  refine aw_iconst (v := 0) S d_Md_tellLiteral_6 (by decide) ?_
  refine aw_topi nI_0.symm ?_
  refine aw_istore_2 S d_Md_tellLiteral_7 ?_
  exact l8 _ 0 v3 f3 _ _ _ hM h6 hL hf3 (Nat.zero_add _) (by rw [List.take_zero]; rfl)
