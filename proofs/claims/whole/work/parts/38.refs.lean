/-! references: what is told of them; the resolver's small ones -/
def sp_top (xs : List Int32) : Bool := decide (0 < sp_p2 xs - sp_p1 xs) && decide (xs.getD (sp_p1 xs) (-1) = 47)
def sp_lsO (xs : List Int32) (b : Nat) : Nat → Option Nat
  | 0 => none
  | k + 1 => if k < b then none else if xs.getD k (-1) = 47 then some k else sp_lsO xs b k
theorem sp_lsF_O (xs : List Int32) (b : Nat) : ∀ z, sp_lsF xs b z = oi (sp_lsO xs b z) := by
  intro z
  induction z with
  | zero => rfl
  | succ k ih =>
    rw [sp_lsF, sp_lsO]
    split
    · rfl
    · split
      · rfl
      · exact ih
theorem sp_lsO_lt {xs : List Int32} {b : Nat} : ∀ {z k : Nat}, sp_lsO xs b z = some k → b ≤ k ∧ k < z := by
  intro z
  induction z with
  | zero => intro k h; cases h
  | succ j ih =>
    intro k h
    rw [sp_lsO] at h
    split at h
    · cases h
    · split at h
      · cases h; omega
      · have := ih h; omega
def sp_fold (xs : List Int32) : List Int32 := match sp_lsO xs (sp_p1 xs) (sp_p2 xs) with
  | none => []
  | some k => (xs.take (k + 1)).drop (sp_p1 xs)
def sp_drop (xs : List Int32) (b : Nat) : List Int32 := match sp_lsO xs b xs.length with
  | none => xs.take b
  | some k => xs.take k
def sp_beh (L xs : List Int32) (w : Nat) : List Int32 := if (sp_pt xs w).isSome then L ++ sp_part xs w else []
def sp_gath (fl : Bool) (os bs : List Int32) : List Int32 := (if !fl && !sp_top os then (if (sp_pt bs 1).isSome && decide (sp_plen bs 2 = 0) then [47] else sp_fold bs) else []) ++ sp_part os 2
theorem Rfst.at5 {E : aw_E} {g : AH} {a r : Nat} {xs : List Int32} (h : Rfst E g a r xs 5) : ∃ fb fe : Nat → Int32, IsRf E g a r fb fe ∧ ∀ w, w < 5 → okp xs fb fe w := by
  obtain ⟨fb, fe, h1, h2, -⟩ := h
  exact ⟨fb, fe, h1, h2⟩
theorem part_len (xs : List Int32) (w : Nat) : (sp_part xs w).length ≤ xs.length := by
  unfold sp_part
  cases h : sp_pt xs w with
  | none => exact Nat.zero_le _
  | some q => simp; omega
set_option maxRecDepth 100000 in
set_option maxHeartbeats 4000000 in
theorem ev_Rf_init {l : Launch} {E : aw_E} {g : AH} {n : Nat} {a : Nat} (hb0 : E.2.2.1 ≤ a) (ha : g a = some (.inr (1, [.null, .null, .null]))) (hn : n = a + 1) : EV l E 2 4 1012 y_Rf_init c_Rf_init 1 none g n [.ref a] (aw_Pv (fun g2 n2 => n2 = a + 5 ∧ (∃ fb fe, IsRf E g2 a (a + 3) fb fe) ∧ aw_fr g g2 a 5)) := by
  subst hn
  refine aw_enter "AddressTerms$Reference" [some (.ref a)] (by decide) rfl rfl (Nat.le_of_ble_eq_true rfl) ?_
  intro p e s m args below meth c S hnm
  refine aw_aload_0 S d_Rf_init_0 ?_
  refine aw_objInit S n_ml_Rf_3 n_im_Jo_init n_co_Jo_init d_Rf_init_1 (by decide) (Nat.le_of_ble_eq_true rfl) ?_
  refine aw_aload_0 S d_Rf_init_4 ?_
  refine aw_iconst (v := 5) S d_Rf_init_5 (by decide) ?_
  refine aw_newa (ty := .int) S 1 rfl rfl (fun U h => h) n_ac_int 5 d_Rf_init_6 (5, .inl (fun _ => 0)) (fun _ => rfl) rfl (by decide) (by decide) (by decide) (by decide) ?_
  refine aw_putF (fs2 := [.ref (a + 1), .null, .null]) S I_Rf 0 (by rw [aw_up_n (by omega)]; exact ha) n_fl_Rf_9 d_Rf_init_8 rfl hb0 rfl hnm rfl rfl rfl (by decide) (Nat.le_of_ble_eq_true rfl) ?_
  refine aw_aload_0 S d_Rf_init_11 ?_
  refine aw_iconst (v := 5) S d_Rf_init_12 (by decide) ?_
  refine aw_newa (ty := .int) S 1 rfl rfl (fun U h => h) n_ac_int 5 d_Rf_init_13 (5, .inl (fun _ => 0)) (fun _ => rfl) rfl (by decide) (by decide) (by decide) (by decide) ?_
  refine aw_putF (fs2 := [.ref (a + 1), .ref (a + 2), .null]) S I_Rf 1 (by rw [aw_up_n (by omega), aw_up_s]) n_fl_Rf_15 d_Rf_init_15 rfl hb0 rfl hnm rfl rfl rfl (by decide) (Nat.le_of_ble_eq_true rfl) ?_
  refine aw_aload_0 S d_Rf_init_18 ?_
  refine aw_new S I_Rw n_cl_Rf_18 n_ib_Rw n_ini_Rw d_Rf_init_19 [.null, .int 0] (fun j hj => by rcases (show j = 0 ∨ j = 1 by omega) with rfl | rfl <;> rfl) (by decide) (by decide) ?_
  refine aw_dup S d_Rf_init_22 rfl ?_
  refine aw_iconst (v := 0) S d_Rf_init_23 (by decide) ?_
  refine aw_topi nI_0.symm ?_
  refine aw_callIvA S 4 1012 (ev_Rw_init (a := a + 1 + 1 + 1) 0 (by omega) (aw_up_s _ _ _) rfl (by decide)) mb_Rw_init n_im_Rw_init rfl n_ml_Rf_20 d_Rf_init_24 rfl rfl (fun g2_ n2_ h_ => ?_)
  obtain ⟨rfl, h1, hF1⟩ := h_
  refine aw_putf (fs2 := [.ref (a + 1), .ref (a + 2), .ref (a + 3)]) S I_Rf 2 ((hF1 a (by omega)).trans (by rw [aw_up_n (by omega), aw_up_s])) n_fl_Rf_23 d_Rf_init_27 rfl hb0 rfl rfl rfl (by decide) (Nat.le_of_ble_eq_true rfl) ?_
  refine aw_vret S rfl d_Rf_init_30 ?_ (by decide) (by decide)
  refine ⟨rfl, ⟨fun _ => 0, fun _ => 0, hb0, aw_up_s _ _ _, ?_, ?_⟩, ?_⟩
  · rw [aw_up_n (by omega), hF1 _ (by omega), aw_up_n (by omega), aw_up_n (by omega), aw_up_n (by omega), aw_up_n (by omega), aw_up_s]
  · rw [aw_up_n (by omega), hF1 _ (by omega), aw_up_n (by omega), aw_up_n (by omega), aw_up_s]
  · intro x hx
    rw [aw_up_n (by omega), hF1 _ (by omega), aw_up_n (by omega), aw_up_n (by omega), aw_up_n (by omega), aw_up_n (by omega), aw_up_n (by omega)]
set_option maxRecDepth 100000 in
set_option maxHeartbeats 4000000 in
theorem ev_Rf_has {l : Launch} {E : aw_E} {g : AH} {n : Nat} {a r : Nat} {xs : List Int32} (w : Nat) (hD : Rfst E g a r xs 5) (hw : w < 5) (hl : xs.length < 1000) : EV l E 1 0 0 y_Rf_has c_Rf_has 2 (some .boolean) g n [.ref a, .int (nI w)] (aw_Pi (fun r_ g2 n2 => r_ = aw_b (sp_pt xs w).isSome ∧ g2 = g ∧ n2 = n)) := by
  obtain ⟨fb, fe, hF, hO⟩ := hD.at5
  have ho := hO w hw
  unfold okp at ho
  refine aw_enter "AddressTerms$Reference" [some (.ref a), some (.int (nI w))] (by decide) rfl rfl (Nat.le_of_ble_eq_true rfl) ?_
  intro p e s m args below meth c S hnm
  refine aw_aload_0 S d_Rf_has_0 ?_
  refine aw_iload_1 S d_Rf_has_1 ?_
  refine aw_callViR S (ev_Rf_endOf w hF hw) mb_Rf_endOf mi_Rf_endOf n_ml_Rf_65 d_Rf_has_2 I_Rf hF.2.1 rfl rfl rfl ?_
  refine aw_iconst (v := -1) S d_Rf_has_5 (by decide) ?_
  refine aw_icmp_eq S 13 d_Rf_has_6 (by decide) (fun c6 => ?_) (fun c6 => ?_)
  · refine aw_iconst (v := 0) S d_Rf_has_13 (by decide) ?_
    refine aw_zret S .boolean rfl (by rfl) d_Rf_has_14 ?_ (by decide) (by decide)
    refine ⟨aw_b0 ?_, rfl, rfl⟩
    cases h : sp_pt xs w with
    | none => rfl
    | some q =>
      rw [h] at ho
      rw [ho.2] at c6
      exact absurd c6 (nI_m (by have := sp_pt_le h; omega))
  · refine aw_iconst (v := 1) S d_Rf_has_9 (by decide) ?_
    refine aw_goto S 14 d_Rf_has_10 (by decide) ?_
    refine aw_zret S .boolean rfl (by rfl) d_Rf_has_14 ?_ (by decide) (by decide)
    refine ⟨aw_b1 ?_, rfl, rfl⟩
    cases h : sp_pt xs w with
    | none => rw [h] at ho; exact absurd ho c6
    | some q => rfl
set_option maxRecDepth 100000 in
set_option maxHeartbeats 4000000 in
theorem ev_Rf_lengthOf {l : Launch} {E : aw_E} {g : AH} {n : Nat} {a r : Nat} {xs : List Int32} (w : Nat) (hD : Rfst E g a r xs 5) (hw : w < 5) (hl : xs.length < 1000) : EV l E 2 0 0 y_Rf_lengthOf c_Rf_lengthOf 2 (some .int) g n [.ref a, .int (nI w)] (aw_Pi (fun r_ g2 n2 => r_ = sp_plen xs w ∧ g2 = g ∧ n2 = n)) := by
  obtain ⟨fb, fe, hF, hO⟩ := hD.at5
  have ho := hO w hw
  unfold okp at ho
  refine aw_enter "AddressTerms$Reference" [some (.ref a), some (.int (nI w))] (by decide) rfl rfl (Nat.le_of_ble_eq_true rfl) ?_
  intro p e s m args below meth c S hnm
  refine aw_aload_0 S d_Rf_lengthOf_0 ?_
  refine aw_iload_1 S d_Rf_lengthOf_1 ?_
  refine aw_callViR S (ev_Rf_has w hD hw hl) mb_Rf_has mi_Rf_has n_ml_Rf_68 d_Rf_lengthOf_2 I_Rf hF.2.1 rfl rfl rfl ?_
  refine aw_if_eq S 22 d_Rf_lengthOf_5 (by decide) (fun c5 => ?_) (fun c5 => ?_)
  · refine aw_iconst (v := 0) S d_Rf_lengthOf_22 (by decide) ?_
    refine aw_iret S rfl d_Rf_lengthOf_23 ?_ (by decide) (by decide)
    have h := aw_b_f c5
    refine ⟨?_, rfl, rfl⟩
    unfold sp_plen
    cases h2 : sp_pt xs w with
    | none => rfl
    | some q => rw [h2] at h; cases h
  · refine aw_aload_0 S d_Rf_lengthOf_8 ?_
    refine aw_iload_1 S d_Rf_lengthOf_9 ?_
    refine aw_callViR S (ev_Rf_endOf w hF hw) mb_Rf_endOf mi_Rf_endOf n_ml_Rf_65 d_Rf_lengthOf_10 I_Rf hF.2.1 rfl rfl rfl ?_
    refine aw_aload_0 S d_Rf_lengthOf_13 ?_
    refine aw_iload_1 S d_Rf_lengthOf_14 ?_
    refine aw_callViR S (ev_Rf_beginOf w hF hw) mb_Rf_beginOf mi_Rf_beginOf n_ml_Rf_71 d_Rf_lengthOf_15 I_Rf hF.2.1 rfl rfl rfl ?_
    refine aw_isub S d_Rf_lengthOf_18 ?_
    refine aw_goto S 23 d_Rf_lengthOf_19 (by decide) ?_
    refine aw_iret S rfl d_Rf_lengthOf_23 ?_ (by decide) (by decide)
    have h := aw_b_t c5
    refine ⟨?_, rfl, rfl⟩
    unfold sp_plen
    cases h2 : sp_pt xs w with
    | none => rw [h2] at h; cases h
    | some q =>
      rw [h2] at ho
      rw [ho.1, ho.2]
      exact pk_sub (sp_pt_le h2).1
set_option maxRecDepth 100000 in
set_option maxHeartbeats 4000000 in
theorem ev_Rf_hasPathFromTop {l : Launch} {E : aw_E} {g : AH} {n : Nat} {a r N : Nat} {xs : List Int32} (hD : Rfst E g a r xs 5) (hR : IsRow E g r N xs) : EV l E 3 0 0 y_Rf_hasPathFromTop c_Rf_hasPathFromTop 1 (some .boolean) g n [.ref a] (aw_Pi (fun r_ g2 n2 => r_ = aw_b (sp_top xs) ∧ g2 = g ∧ n2 = n)) := by
  obtain ⟨fb, fe, hF, hO⟩ := hD.at5
  have hN := hR.room
  have ho := hO 2 (by decide)
  have h2 : sp_pt xs 2 = some (sp_p1 xs, sp_p2 xs) := rfl
  unfold okp at ho
  rw [h2] at ho
  have hp2 := sp_p2_le xs
  have hpl : sp_plen xs 2 = nI (sp_p2 xs - sp_p1 xs) := rfl
  refine aw_enter "AddressTerms$Reference" [some (.ref a)] (by decide) rfl rfl (Nat.le_of_ble_eq_true rfl) ?_
  intro p e s m args below meth c S hnm
  refine aw_aload_0 S d_Rf_hasPathFromTop_0 ?_
  refine aw_iconst (v := 2) S d_Rf_hasPathFromTop_1 (by decide) ?_
  refine aw_topi (show (2 : Int32) = nI 2 from rfl) ?_
  refine aw_callViR S (ev_Rf_lengthOf 2 hD (by decide) (by omega)) mb_Rf_lengthOf mi_Rf_lengthOf n_ml_Rf_74 d_Rf_hasPathFromTop_2 I_Rf hF.2.1 rfl rfl rfl ?_
  rw [hpl]
  refine aw_if_le S 29 d_Rf_hasPathFromTop_5 (by decide) (fun c5 => ?_) (fun c5 => ?_)
  · refine aw_iconst (v := 0) S d_Rf_hasPathFromTop_29 (by decide) ?_
    refine aw_zret S .boolean rfl (by rfl) d_Rf_hasPathFromTop_30 ?_ (by decide) (by decide)
    refine ⟨aw_b0 ?_, rfl, rfl⟩
    rw [sp_top, decide_eq_false, Bool.false_and]
    intro h
    exact nI_nle h (by omega) c5
  · refine aw_aload_0 S d_Rf_hasPathFromTop_8 ?_
    refine aw_getf S I_Rf 2 hF.2.1 n_fl_Rf_23 d_Rf_hasPathFromTop_9 rfl (by decide) ?_
    refine aw_aload_0 S d_Rf_hasPathFromTop_12 ?_
    refine aw_iconst (v := 2) S d_Rf_hasPathFromTop_13 (by decide) ?_
    refine aw_topi (show (2 : Int32) = nI 2 from rfl) ?_
    refine aw_callViR S (ev_Rf_beginOf 2 hF (by decide)) mb_Rf_beginOf mi_Rf_beginOf n_ml_Rf_71 d_Rf_hasPathFromTop_14 I_Rf hF.2.1 rfl rfl rfl ?_
    rw [ho.1]
    refine aw_callViR S (ev_Rw_byteAt (nI (sp_p1 xs)) hR) mb_Rw_byteAt mi_Rw_byteAt n_ml_Rf_51 d_Rf_hasPathFromTop_17 I_Rw hR.cell rfl rfl rfl ?_
    rw [sp_at_nI (by omega)]
    refine aw_bipush (v := 47) S d_Rf_hasPathFromTop_20 (by decide) ?_
    refine aw_icmp_ne S 29 d_Rf_hasPathFromTop_22 (by decide) (fun c22 => ?_) (fun c22 => ?_)
    · refine aw_iconst (v := 0) S d_Rf_hasPathFromTop_29 (by decide) ?_
      refine aw_zret S .boolean rfl (by rfl) d_Rf_hasPathFromTop_30 ?_ (by decide) (by decide)
      refine ⟨aw_b0 ?_, rfl, rfl⟩
      rw [sp_top, decide_eq_false c22, Bool.and_false]
    · refine aw_iconst (v := 1) S d_Rf_hasPathFromTop_25 (by decide) ?_
      refine aw_goto S 30 d_Rf_hasPathFromTop_26 (by decide) ?_
      refine aw_zret S .boolean rfl (by rfl) d_Rf_hasPathFromTop_30 ?_ (by decide) (by decide)
      refine ⟨aw_b1 ?_, rfl, rfl⟩
      rw [sp_top, decide_eq_true c22, Bool.and_true, decide_eq_true_eq]
      rcases Nat.eq_zero_or_pos (sp_p2 xs - sp_p1 xs) with h | h
      · rw [h] at c5; exact absurd (by decide) c5
      · exact h
set_option maxRecDepth 100000 in
set_option maxHeartbeats 4000000 in
theorem ev_Rf_copyTo {l : Launch} {E : aw_E} {g : AH} {n : Nat} {a r N o M : Nat} {xs ys : List Int32} (w : Nat) (hD : Rfst E g a r xs 5) (hR : IsRow E g r N xs) (hO2 : IsRow E g o M ys) (hd : o + 2 ≤ r ∨ r + 2 ≤ o) (hw : w < 5) (hl : ys.length + (sp_part xs w).length ≤ M) : EV l E 2 0 0 y_Rf_copyTo c_Rf_copyTo 3 none g n [.ref a, .ref o, .int (nI w)] (aw_Pv (fun g2 n2 => n2 = n ∧ IsRow E g2 o M (ys ++ sp_part xs w) ∧ aw_fr g g2 o 2)) := by
  obtain ⟨fb, fe, hF, hO⟩ := hD.at5
  have hN := hR.room
  have ho := hO w hw
  unfold okp at ho
  refine aw_enter "AddressTerms$Reference" [some (.ref a), some (.ref o), some (.int (nI w))] (by decide) rfl rfl (Nat.le_of_ble_eq_true rfl) ?_
  intro p e s m args below meth c S hnm
  refine aw_aload_0 S d_Rf_copyTo_0 ?_
  refine aw_iload_2 S d_Rf_copyTo_1 ?_
  refine aw_callViR S (ev_Rf_has w hD hw (by omega)) mb_Rf_has mi_Rf_has n_ml_Rf_68 d_Rf_copyTo_2 I_Rf hF.2.1 rfl rfl rfl ?_
  refine aw_if_eq S 26 d_Rf_copyTo_5 (by decide) (fun c5 => ?_) (fun c5 => ?_)
  · refine aw_vret S rfl d_Rf_copyTo_26 ?_ (by decide) (by decide)
    have h := aw_b_f c5
    have hpp : sp_part xs w = [] := by
      unfold sp_part
      cases h2 : sp_pt xs w with
      | none => rfl
      | some q => rw [h2] at h; cases h
    rw [hpp, List.append_nil]
    exact ⟨rfl, hO2, aw_fr.rf⟩
  · obtain ⟨q, hq⟩ := Option.isSome_iff_exists.mp (aw_b_t c5)
    rw [hq] at ho
    have hqq := sp_pt_le hq
    have hpp : sp_part xs w = (xs.take q.2).drop q.1 := by unfold sp_part; rw [hq]
    refine aw_aload_1 S d_Rf_copyTo_8 ?_
    refine aw_aload_0 S d_Rf_copyTo_9 ?_
    refine aw_getf S I_Rf 2 hF.2.1 n_fl_Rf_23 d_Rf_copyTo_10 rfl (by decide) ?_
    refine aw_aload_0 S d_Rf_copyTo_13 ?_
    refine aw_iload_2 S d_Rf_copyTo_14 ?_
    refine aw_callViR S (ev_Rf_beginOf w hF hw) mb_Rf_beginOf mi_Rf_beginOf n_ml_Rf_71 d_Rf_copyTo_15 I_Rf hF.2.1 rfl rfl rfl ?_
    rw [ho.1]
    refine aw_aload_0 S d_Rf_copyTo_18 ?_
    refine aw_iload_2 S d_Rf_copyTo_19 ?_
    refine aw_callViR S (ev_Rf_endOf w hF hw) mb_Rf_endOf mi_Rf_endOf n_ml_Rf_65 d_Rf_copyTo_20 I_Rf hF.2.1 rfl rfl rfl ?_
    rw [ho.2]
    refine aw_callVv0 S (ev_Rw_addRange q.1 q.2 hO2 hR hd (by omega) (by omega) (by rw [hpp] at hl; exact hl)) mb_Rw_addRange mi_Rw_addRange n_ml_Rf_77 d_Rf_copyTo_23 I_Rw hO2.cell rfl rfl rfl (fun g2_ n2_ h_ => ?_)
    obtain ⟨rfl, h1, hF1⟩ := h_
    refine aw_vret S rfl d_Rf_copyTo_26 ?_ (by decide) (by decide)
    rw [hpp]
    exact ⟨rfl, h1, hF1⟩
set_option maxRecDepth 100000 in
set_option maxHeartbeats 4000000 in
theorem ev_Rf_copyFolderTo {l : Launch} {E : aw_E} {g : AH} {n : Nat} {a r N o M : Nat} {xs ys : List Int32} (hD : Rfst E g a r xs 5) (hR : IsRow E g r N xs) (hO2 : IsRow E g o M ys) (hd : o + 2 ≤ r ∨ r + 2 ≤ o) (hl : ys.length + (sp_fold xs).length ≤ M) : EV l E 2 0 0 y_Rf_copyFolderTo c_Rf_copyFolderTo 3 none g n [.ref a, .ref o] (aw_Pv (fun g2 n2 => n2 = n ∧ IsRow E g2 o M (ys ++ sp_fold xs) ∧ aw_fr g g2 o 2)) := by
  obtain ⟨fb, fe, hF, hO⟩ := hD.at5
  have hN := hR.room
  have ho := hO 2 (by decide)
  have h2 : sp_pt xs 2 = some (sp_p1 xs, sp_p2 xs) := rfl
  unfold okp at ho
  rw [h2] at ho
  have hp2 := sp_p2_le xs
  refine aw_enter "AddressTerms$Reference" [some (.ref a), some (.ref o), none] (by decide) rfl rfl (Nat.le_of_ble_eq_true rfl) ?_
  intro p e s m args below meth c S hnm
  refine aw_aload_0 S d_Rf_copyFolderTo_0 ?_
  refine aw_getf S I_Rf 2 hF.2.1 n_fl_Rf_23 d_Rf_copyFolderTo_1 rfl (by decide) ?_
  refine aw_aload_0 S d_Rf_copyFolderTo_4 ?_
  refine aw_iconst (v := 2) S d_Rf_copyFolderTo_5 (by decide) ?_
  refine aw_topi (show (2 : Int32) = nI 2 from rfl) ?_
  refine aw_callViR S (ev_Rf_beginOf 2 hF (by decide)) mb_Rf_beginOf mi_Rf_beginOf n_ml_Rf_71 d_Rf_copyFolderTo_6 I_Rf hF.2.1 rfl rfl rfl ?_
  rw [ho.1]
  refine aw_aload_0 S d_Rf_copyFolderTo_9 ?_
  refine aw_iconst (v := 2) S d_Rf_copyFolderTo_10 (by decide) ?_
  refine aw_topi (show (2 : Int32) = nI 2 from rfl) ?_
  refine aw_callViR S (ev_Rf_endOf 2 hF (by decide)) mb_Rf_endOf mi_Rf_endOf n_ml_Rf_65 d_Rf_copyFolderTo_11 I_Rf hF.2.1 rfl rfl rfl ?_
  rw [ho.2]
  refine aw_callViR S (ev_Rw_lastSlash (sp_p1 xs) (sp_p2 xs) hR (by omega) hp2.2) mb_Rw_lastSlash mi_Rw_lastSlash n_ml_Rf_81 d_Rf_copyFolderTo_14 I_Rw hR.cell rfl rfl rfl ?_
  rw [sp_lsF_O]
  refine aw_istore_2 S d_Rf_copyFolderTo_17 ?_
  refine aw_iload_2 S d_Rf_copyFolderTo_18 ?_
  refine aw_iconst (v := -1) S d_Rf_copyFolderTo_19 (by decide) ?_
  refine aw_icmp_eq S 39 d_Rf_copyFolderTo_20 (by decide) (fun c20 => ?_) (fun c20 => ?_)
  · refine aw_vret S rfl d_Rf_copyFolderTo_39 ?_ (by decide) (by decide)
    have hpp : sp_fold xs = [] := by
      unfold sp_fold
      cases h : sp_lsO xs (sp_p1 xs) (sp_p2 xs) with
      | none => rfl
      | some k0 => rw [h] at c20; exact absurd c20 (nI_m (by have := sp_lsO_lt h; omega))
    rw [hpp, List.append_nil]
    exact ⟨rfl, hO2, aw_fr.rf⟩
  · obtain ⟨k0, hk0⟩ : ∃ k0, sp_lsO xs (sp_p1 xs) (sp_p2 xs) = some k0 := by
      cases h : sp_lsO xs (sp_p1 xs) (sp_p2 xs) with
      | none => rw [h] at c20; exact absurd rfl c20
      | some k0 => exact ⟨k0, rfl⟩
    have hk1 := sp_lsO_lt hk0
    have hpp : sp_fold xs = (xs.take (k0 + 1)).drop (sp_p1 xs) := by unfold sp_fold; rw [hk0]
    refine aw_aload_1 S d_Rf_copyFolderTo_23 ?_
    refine aw_aload_0 S d_Rf_copyFolderTo_24 ?_
    refine aw_getf S I_Rf 2 hF.2.1 n_fl_Rf_23 d_Rf_copyFolderTo_25 rfl (by decide) ?_
    refine aw_aload_0 S d_Rf_copyFolderTo_28 ?_
    refine aw_iconst (v := 2) S d_Rf_copyFolderTo_29 (by decide) ?_
    refine aw_topi (show (2 : Int32) = nI 2 from rfl) ?_
    refine aw_callViR S (ev_Rf_beginOf 2 hF (by decide)) mb_Rf_beginOf mi_Rf_beginOf n_ml_Rf_71 d_Rf_copyFolderTo_30 I_Rf hF.2.1 rfl rfl rfl ?_
    rw [ho.1]
    refine aw_iload_2 S d_Rf_copyFolderTo_33 ?_
    refine aw_iconst (v := 1) S d_Rf_copyFolderTo_34 (by decide) ?_
    refine aw_iadd S d_Rf_copyFolderTo_35 ?_
    rw [hk0]
    refine aw_topi (nI_1 k0) ?_
    refine aw_callVv0 S (ev_Rw_addRange (sp_p1 xs) (k0 + 1) hO2 hR hd (by omega) (by omega) (by rw [hpp] at hl; exact hl)) mb_Rw_addRange mi_Rw_addRange n_ml_Rf_77 d_Rf_copyFolderTo_36 I_Rw hO2.cell rfl rfl rfl (fun g2_ n2_ h_ => ?_)
    obtain ⟨rfl, h1, hF1⟩ := h_
    refine aw_vret S rfl d_Rf_copyFolderTo_39 ?_ (by decide) (by decide)
    rw [hpp]
    exact ⟨rfl, h1, hF1⟩
set_option maxRecDepth 100000 in
set_option maxHeartbeats 4000000 in
theorem ev_Rs_init {l : Launch} {E : aw_E} {g : AH} {n : Nat} {a : Nat} (hb0 : E.2.2.1 ≤ a) (ha : g a = some (.inr (2, [.null]))) (hn : n = a + 1) : EV l E 2 2 1002 y_Rs_init c_Rs_init 1 none g n [.ref a] (aw_Pv (fun g2 n2 => n2 = a + 3 ∧ g2 a = some (.inr (2, [.ref (a + 1)])) ∧ IsRow E g2 (a + 1) 197 [] ∧ aw_fr g g2 a 3)) := by
  subst hn
  refine aw_enter "AddressTerms$Resolver" [some (.ref a)] (by decide) rfl rfl (Nat.le_of_ble_eq_true rfl) ?_
  intro p e s m args below meth c S hnm
  refine aw_aload_0 S d_Rs_init_0 ?_
  refine aw_objInit S n_ml_Rs_3 n_im_Jo_init n_co_Jo_init d_Rs_init_1 (by decide) (Nat.le_of_ble_eq_true rfl) ?_
  refine aw_aload_0 S d_Rs_init_4 ?_
  refine aw_new S I_Rw n_cl_Rs_9 n_ib_Rw n_ini_Rw d_Rs_init_5 [.null, .int 0] (fun j hj => by rcases (show j = 0 ∨ j = 1 by omega) with rfl | rfl <;> rfl) (by decide) (by decide) ?_
  refine aw_dup S d_Rs_init_8 rfl ?_
  refine aw_sipush (v := 197) S d_Rs_init_9 (by decide) ?_
  refine aw_topi (show (197 : Int32) = nI 197 from rfl) ?_
  refine aw_callIvA S 2 1002 (ev_Rw_init (a := a + 1) 197 (by omega) (aw_up_s _ _ _) rfl (by decide)) mb_Rw_init n_im_Rw_init rfl n_ml_Rs_11 d_Rs_init_12 rfl rfl (fun g2_ n2_ h_ => ?_)
  obtain ⟨rfl, h1, hF1⟩ := h_
  refine aw_putF (fs2 := [.ref (a + 1)]) S I_Rs 0 ((hF1 a (by omega)).trans (by rw [aw_up_n (by omega)]; exact ha)) n_fl_Rs_14 d_Rs_init_15 rfl hb0 rfl hnm rfl rfl rfl (by decide) (Nat.le_of_ble_eq_true rfl) ?_
  refine aw_vret S rfl d_Rs_init_18 ?_ (by decide) (by decide)
  refine ⟨rfl, aw_up_s _ _ _, h1.keep (aw_up_n (by omega)) (aw_up_n (by omega)), ?_⟩
  intro x hx
  rw [aw_up_n (by omega), hF1 x (by omega), aw_up_n (by omega)]
set_option maxRecDepth 100000 in
set_option maxHeartbeats 4000000 in
theorem ev_Rs_dropLast {l : Launch} {E : aw_E} {g : AH} {n : Nat} {a N : Nat} {xs : List Int32} (b : Nat) (hR : IsRow E g a N xs) (hb : b ≤ xs.length) : EV l E 2 0 0 y_Rs_dropLast c_Rs_dropLast 3 none g n [.ref a, .int (nI b)] (aw_Pv (fun g2 n2 => n2 = n ∧ IsRow E g2 a N (sp_drop xs b) ∧ aw_fr g g2 a 2)) := by
  have hN := hR.room
  refine aw_enter "AddressTerms$Resolver" [some (.ref a), some (.int (nI b)), none] (by decide) rfl rfl (Nat.le_of_ble_eq_true rfl) ?_
  intro p e s m args below meth c S hnm
  refine aw_aload_0 S d_Rs_dropLast_0 ?_
  refine aw_iload_1 S d_Rs_dropLast_1 ?_
  refine aw_aload_0 S d_Rs_dropLast_2 ?_
  refine aw_callViR S (ev_Rw_size hR) mb_Rw_size mi_Rw_size n_ml_Rs_69 d_Rs_dropLast_3 I_Rw hR.cell rfl rfl rfl ?_
  refine aw_callViR S (ev_Rw_lastSlash b xs.length hR (by omega) (Nat.le_refl _)) mb_Rw_lastSlash mi_Rw_lastSlash n_ml_Rs_113 d_Rs_dropLast_6 I_Rw hR.cell rfl rfl rfl ?_
  rw [sp_lsF_O]
  refine aw_istore_2 S d_Rs_dropLast_9 ?_
  refine aw_aload_0 S d_Rs_dropLast_10 ?_
  refine aw_iload_2 S d_Rs_dropLast_11 ?_
  refine aw_iconst (v := -1) S d_Rs_dropLast_12 (by decide) ?_
  refine aw_icmp_ne S 20 d_Rs_dropLast_13 (by decide) (fun c13 => ?_) (fun c13 => ?_)
  · obtain ⟨k0, hk0⟩ : ∃ k0, sp_lsO xs b xs.length = some k0 := by
      cases h : sp_lsO xs b xs.length with
      | none => rw [h] at c13; exact absurd rfl c13
      | some k0 => exact ⟨k0, rfl⟩
    have hk1 := sp_lsO_lt hk0
    refine aw_iload_2 S d_Rs_dropLast_20 ?_
    rw [hk0]
    refine aw_callVv0 S (ev_Rw_cutTo k0 hR (by omega)) mb_Rw_cutTo mi_Rw_cutTo n_ml_Rs_59 d_Rs_dropLast_21 I_Rw hR.cell rfl rfl rfl (fun g2_ n2_ h_ => ?_)
    obtain ⟨rfl, h1, hF1⟩ := h_
    refine aw_vret S rfl d_Rs_dropLast_24 ?_ (by decide) (by decide)
    have hpp : sp_drop xs b = xs.take k0 := by unfold sp_drop; rw [hk0]
    rw [hpp]
    exact ⟨rfl, h1, hF1⟩
  · refine aw_iload_1 S d_Rs_dropLast_16 ?_
    refine aw_goto S 21 d_Rs_dropLast_17 (by decide) ?_
    refine aw_callVv0 S (ev_Rw_cutTo b hR (by omega)) mb_Rw_cutTo mi_Rw_cutTo n_ml_Rs_59 d_Rs_dropLast_21 I_Rw hR.cell rfl rfl rfl (fun g2_ n2_ h_ => ?_)
    obtain ⟨rfl, h1, hF1⟩ := h_
    refine aw_vret S rfl d_Rs_dropLast_24 ?_ (by decide) (by decide)
    have hpp : sp_drop xs b = xs.take b := by
      unfold sp_drop
      cases h : sp_lsO xs b xs.length with
      | none => rfl
      | some k0 => rw [h] at c13; exact absurd c13 (nI_m (by have := sp_lsO_lt h; omega))
    rw [hpp]
    exact ⟨rfl, h1, hF1⟩
set_option maxRecDepth 100000 in
set_option maxHeartbeats 4000000 in
theorem ev_Rs_addBehind {l : Launch} {E : aw_E} {g : AH} {n : Nat} {a r N o M : Nat} {xs ys : List Int32} (i w : Nat) (hD : Rfst E g a r xs 5) (hR : IsRow E g r N xs) (hO2 : IsRow E g o M ys) (hd : o + 2 ≤ r ∨ r + 2 ≤ o) (hw : w < 5) (hi : i < 30) (had : o + 2 ≤ a ∨ a + 3 ≤ o) (hl : ys.length + (sp_beh (st_b i) xs w).length ≤ M) : EV l E 5 0 0 y_Rs_addBehind c_Rs_addBehind 4 none g n [.ref o, .ref (E.2.2.2.1 i), .ref a, .int (nI w)] (aw_Pv (fun g2 n2 => n2 = n ∧ IsRow E g2 o M (ys ++ sp_beh (st_b i) xs w) ∧ aw_fr g g2 o 2)) := by
  obtain ⟨fb, fe, hF, hO⟩ := hD.at5
  have hN := hR.room
  refine aw_enter "AddressTerms$Resolver" [some (.ref o), some (.ref (E.2.2.2.1 i)), some (.ref a), some (.int (nI w))] (by decide) rfl rfl (Nat.le_of_ble_eq_true rfl) ?_
  intro p e s m args below meth c S hnm
  refine aw_aload_2 S d_Rs_addBehind_0 ?_
  refine aw_iload_3 S d_Rs_addBehind_1 ?_
  refine aw_callViR S (ev_Rf_has w hD hw (by omega)) mb_Rf_has mi_Rf_has n_ml_Rs_20 d_Rs_addBehind_2 I_Rf hF.2.1 rfl rfl rfl ?_
  refine aw_if_eq S 19 d_Rs_addBehind_5 (by decide) (fun c5 => ?_) (fun c5 => ?_)
  · refine aw_vret S rfl d_Rs_addBehind_19 ?_ (by decide) (by decide)
    have hbb : sp_beh (st_b i) xs w = [] := by rw [sp_beh, aw_b_f c5]; rfl
    rw [hbb, List.append_nil]
    exact ⟨rfl, hO2, aw_fr.rf⟩
  · have hbb : sp_beh (st_b i) xs w = st_b i ++ sp_part xs w := by rw [sp_beh, if_pos (aw_b_t c5)]
    refine aw_aload_0 S d_Rs_addBehind_8 ?_
    refine aw_aload_1 S d_Rs_addBehind_9 ?_
    refine aw_callVv0 S (ev_Rw_addText i hO2 hi (by rw [hbb, List.length_append] at hl; omega)) mb_Rw_addText mi_Rw_addText n_ml_Rs_55 d_Rs_addBehind_10 I_Rw hO2.cell rfl rfl rfl (fun g2_ n2_ h_ => ?_)
    obtain ⟨rfl, h1, hF1⟩ := h_
    refine aw_aload_2 S d_Rs_addBehind_13 ?_
    refine aw_aload_0 S d_Rs_addBehind_14 ?_
    refine aw_iload_3 S d_Rs_addBehind_15 ?_
    refine aw_callVv0 S (ev_Rf_copyTo w (hD.fr hF1 (by omega)) (hR.fr hF1 (by omega)) h1 hd hw (by rw [hbb, List.length_append] at hl; rw [List.length_append]; omega)) mb_Rf_copyTo mi_Rf_copyTo n_ml_Rs_30 d_Rs_addBehind_16 I_Rf (hF.fr hF1 (by omega)).2.1 rfl rfl rfl (fun g2_ n2_ h_ => ?_)
    obtain ⟨rfl, h2, hF2⟩ := h_
    refine aw_vret S rfl d_Rs_addBehind_19 ?_ (by decide) (by decide)
    rw [hbb, ← List.append_assoc]
    exact ⟨rfl, h2, hF1.tr hF2⟩
