/-! the class: addresses -/
def sp_rfb (b : Int32) : Bool := sp_in b 33 126 && !decide (b ∈ ([34, 60, 62, 92, 94, 96, 123, 124, 125] : List Int32))
def sp_wrF : List Int32 → Nat → Option Nat
  | [], _ => none
  | b :: r, k => if sp_rfb b = true then (if b = 37 ∧ (sp_hex (r.getD 0 (-1)) = -1 ∨ sp_hex (r.getD 1 (-1)) = -1) then some k else sp_wrF r (k + 1)) else some k
theorem getD_drop (xs : List Int32) (k j : Nat) : (xs.drop k).getD j (-1) = xs.getD (k + j) (-1) := by
  simp [List.getD_eq_getElem?_getD, List.getElem?_drop]
theorem part_eq {xs : List Int32} {w : Nat} {q : Nat × Nat} (h : sp_pt xs w = some q) : (sp_part xs w).length = q.2 - q.1 := by
  have := sp_pt_le h
  unfold sp_part
  rw [h]
  simp
  omega
theorem len_part0 {xs : List Int32} (h : sp_sc xs = true) : (sp_part xs 0).length + 1 = sp_p0 xs := by
  obtain ⟨q, hq⟩ := Option.isSome_iff_exists.mp h
  rw [part_eq hq]
  cases hc : sp_col xs with
  | none => rw [sp_pt, hc] at hq; cases hq
  | some c =>
    rw [sp_pt, hc] at hq
    cases hq
    rw [sp_p0, hc]
    show c - 0 + 1 = c + 1
    omega
theorem p0_le_p1 (xs : List Int32) : sp_p0 xs ≤ sp_p1 xs := by
  unfold sp_p1
  split
  · next h => have := (sp_nx_le (L := [47, 63, 35]) (sp_au_le h)).1; omega
  · exact Nat.le_refl _
theorem len_beh1 (xs : List Int32) : (sp_beh [47, 47] xs 1).length = sp_p1 xs - sp_p0 xs := by
  unfold sp_beh
  by_cases h : sp_au xs = true
  · have e : sp_pt xs 1 = some (sp_p0 xs + 2, sp_p1 xs) := by rw [sp_pt, if_pos h]
    have h2 := sp_pt_le e
    rw [e, Option.isSome_some, if_pos rfl, List.length_append, part_eq e]
    simp at h2 ⊢
    omega
  · have e : sp_pt xs 1 = none := by rw [sp_pt, if_neg h]
    rw [e]
    have : sp_p1 xs = sp_p0 xs := by rw [sp_p1, if_neg h]
    simp
    omega
theorem len_part2 (xs : List Int32) : (sp_part xs 2).length = sp_p2 xs - sp_p1 xs := part_eq (q := (sp_p1 xs, sp_p2 xs)) rfl
theorem len_beh3 (xs : List Int32) : (sp_beh [63] xs 3).length ≤ sp_p3 xs - sp_p2 xs := by
  unfold sp_beh
  cases h : sp_pt xs 3 with
  | none => simp
  | some q =>
    have h2 := sp_pt_le h
    rw [Option.isSome_some, if_pos rfl, List.length_append, part_eq h]
    rw [sp_pt] at h
    split at h
    · cases h
      simp at h2 ⊢
      omega
    · cases h
theorem len_beh4 (xs : List Int32) : (sp_beh [35] xs 4).length ≤ xs.length - sp_p3 xs := by
  unfold sp_beh
  cases h : sp_pt xs 4 with
  | none => simp
  | some q =>
    have h2 := sp_pt_le h
    rw [Option.isSome_some, if_pos rfl, List.length_append, part_eq h]
    have e : sp_pt xs 4 = if xs.getD (sp_p3 xs) (-1) = 35 then some (sp_p3 xs + 1, xs.length) else none := rfl
    rw [e] at h
    split at h
    · cases h
      simp at h2 ⊢
      omega
    · cases h
theorem len_fold (xs : List Int32) : (sp_fold xs).length ≤ sp_p2 xs - sp_p1 xs := by
  unfold sp_fold
  cases h : sp_lsO xs (sp_p1 xs) (sp_p2 xs) with
  | none => simp
  | some k =>
    have := sp_lsO_lt h
    simp
    omega
theorem len_pl : ∀ (f : Nat) (i o : List Int32), (sp_pl f i o).length ≤ o.length + i.length := by
  intro f
  induction f with
  | zero => intro i o; exact Nat.le_add_right _ _
  | succ f ih =>
    intro i o
    rw [sp_pl]
    have hd : ∀ k, (i.drop k).length ≤ i.length := fun k => by rw [List.length_drop]; omega
    have h1 := sp_dl_len o
    have hne : ¬ i = [] → 1 ≤ i.length := fun h => by cases i with
      | nil => exact absurd rfl h
      | cons b q => simp
    split
    · exact Nat.le_add_right _ _
    · next hn =>
      have hn := hne hn
      split
      · have := ih (i.drop 3) o; have := hd 3; omega
      · split
        · have := ih (i.drop 2) o; have := hd 2; omega
        · split
          · have := ih (i.drop 2) o; have := hd 2; omega
          · split
            · have := ih [47] o; simp at this; omega
            · split
              · have := ih (i.drop 3) (sp_dl o); have := hd 3; omega
              · split
                · have := ih [47] (sp_dl o); simp at this; omega
                · split
                  · have := ih [] o; simp at this; omega
                  · split
                    · have := ih [] o; simp at this; omega
                    · have h3 := ih (i.drop (sp_nx [47] i 1)) (o ++ i.take (sp_nx [47] i 1))
                      rw [List.length_append, List.length_take, List.length_drop] at h3
                      omega
theorem len_plain (i : List Int32) : (sp_plain i).length ≤ i.length := by
  have := len_pl i.length i []
  simpa [sp_plain] using this
theorem len_gath (fl : Bool) (os bs : List Int32) : (sp_gath fl os bs).length ≤ (if fl then 0 else 1 + (sp_p2 bs - sp_p1 bs)) + (sp_p2 os - sp_p1 os) := by
  unfold sp_gath
  rw [List.length_append, len_part2]
  have := len_fold bs
  cases fl
  · simp only [Bool.not_false, Bool.true_and]
    split
    · split
      · simp
      · simp; omega
    · simp
  · simp
theorem len_r4 (os bs : List Int32) (h : sp_oq os = true ∨ sp_oa os = false) : (sp_r4 os bs).length ≤ (if sp_oq os then os.length - sp_p2 os else (sp_p3 bs - sp_p2 bs) + (os.length - sp_p3 os)) := by
  unfold sp_r4 sp_r5
  have h4 := len_beh4 os
  have p3 := sp_p3_le os
  rw [List.length_append]
  split
  · have h3 := len_beh3 os
    omega
  · have h3 := len_beh3 bs
    omega
/-- before the path there is so much, and behind it -/
theorem res_len {os bs : List Int32} (hb : sp_sc bs = true) : (sp_part (if sp_sc os then os else bs) 0).length + 1 + (sp_beh [47, 47] (if sp_oa os then os else bs) 1).length + (sp_gath (sp_oa os) os bs).length ≤ os.length + bs.length + 1 ∧ (sp_res os bs).length ≤ os.length + bs.length + 1 := by
  have hg := len_gath (sp_oa os) os bs
  have hp := len_plain (sp_gath (sp_oa os) os bs)
  have o1 := p0_le_p1 os
  have o2 := sp_p2_le os
  have o3 := sp_p3_le os
  have b1 := p0_le_p1 bs
  have b2 := sp_p2_le bs
  have b3 := sp_p3_le bs
  have h4 := len_beh4 os
  have e1 := len_beh1 os
  have e2 := len_beh1 bs
  have q1 := len_beh3 os
  have q2 := len_beh3 bs
  have pb := len_part2 bs
  have s2 := len_part0 hb
  unfold sp_res sp_r2 sp_r3 sp_r4 sp_r5
  simp only [List.length_append, List.length_singleton]
  cases hsc : sp_sc os
  · cases hoa : sp_oa os
    · rw [hoa] at hg hp
      cases hop : sp_op os
      · cases hoq : sp_oq os <;> simp at hg hp ⊢ <;> omega
      · have hoq : sp_oq os = true := by rw [sp_oq, hop, Bool.true_or]
        rw [hoq]
        simp at hg hp ⊢
        omega
    · have hop : sp_op os = true := by rw [sp_op, hoa, Bool.true_or]
      have hoq : sp_oq os = true := by rw [sp_oq, hop, Bool.true_or]
      rw [hoa] at hg hp
      rw [hop, hoq]
      simp at hg hp ⊢
      omega
  · have hoa : sp_oa os = true := by rw [sp_oa, hsc, Bool.true_or]
    have hop : sp_op os = true := by rw [sp_op, hoa, Bool.true_or]
    have hoq : sp_oq os = true := by rw [sp_oq, hop, Bool.true_or]
    have s1 := len_part0 hsc
    rw [hoa] at hg hp
    rw [hop, hoq, hoa]
    simp at hg hp ⊢
    omega
set_option maxRecDepth 100000 in
set_option maxHeartbeats 4000000 in
theorem ev_At_isReferenceByte {l : Launch} {E : aw_E} {g : AH} {n : Nat} (b : Int32)  : EV l E 4 0 0 y_At_isReferenceByte c_At_isReferenceByte 1 (some .boolean) g n [.int b] (aw_Pi (fun r_ g2 n2 => r_ = aw_b (sp_rfb b) ∧ g2 = g ∧ n2 = n)) := by
  refine aw_enter "AddressTerms" [some (.int b)] (by decide) rfl rfl (Nat.le_of_ble_eq_true rfl) ?_
  intro p e s m args below meth c S hnm
  refine aw_iload_0 S d_At_isReferenceByte_0 ?_
  refine aw_bipush (v := 33) S d_At_isReferenceByte_1 (by decide) ?_
  refine aw_icmp_lt S 26 d_At_isReferenceByte_3 (by decide) (fun c3 => ?_) (fun c3 => ?_)
  · refine aw_iconst (v := 0) S d_At_isReferenceByte_26 (by decide) ?_
    refine aw_zret S .boolean rfl (by rfl) d_At_isReferenceByte_27 ?_ (by decide) (by decide)
    exact ⟨aw_b0 (by simp [sp_rfb, sp_in, c3]), rfl, rfl⟩
  · refine aw_iload_0 S d_At_isReferenceByte_6 ?_
    refine aw_bipush (v := 126) S d_At_isReferenceByte_7 (by decide) ?_
    refine aw_icmp_gt S 26 d_At_isReferenceByte_9 (by decide) (fun c9 => ?_) (fun c9 => ?_)
    · refine aw_iconst (v := 0) S d_At_isReferenceByte_26 (by decide) ?_
      refine aw_zret S .boolean rfl (by rfl) d_At_isReferenceByte_27 ?_ (by decide) (by decide)
      exact ⟨aw_b0 (by simp [sp_rfb, sp_in, c9]), rfl, rfl⟩
    · have hb : sp_bt b := tape_bt (by unfold sp_tape sp_in; rw [decide_eq_false (fun h => c3 (Int32.lt_trans h (by decide))), decide_eq_false c9]; rfl)
      refine aw_ldcS S 0 (by decide) rfl d_At_isReferenceByte_12 ?_
      refine aw_iload_0 S d_At_isReferenceByte_14 ?_
      refine aw_i2c S d_At_isReferenceByte_15 ?_
      rw [c2c hb]
      refine aw_callJiR S (ev_Js_indexOf1 0 b (by decide) hb) mb_Js_indexOf1 mi_Js_indexOf1 n_ml_At_250 d_At_isReferenceByte_16 (by decide) rfl rfl rfl ?_
      refine aw_if_ge S 26 d_At_isReferenceByte_19 (by decide) (fun c19 => ?_) (fun c19 => ?_)
      · refine aw_iconst (v := 0) S d_At_isReferenceByte_26 (by decide) ?_
        refine aw_zret S .boolean rfl (by rfl) d_At_isReferenceByte_27 ?_ (by decide) (by decide)
        have hm : b ∈ ([34, 60, 62, 92, 94, 96, 123, 124, 125] : List Int32) := by
          have h1 := Int32.not_lt.mpr c19
          rw [sp_ixF_neg _ _ (by decide)] at h1
          exact Classical.not_not.mp h1
        exact ⟨aw_b0 (by rw [sp_rfb, decide_eq_true hm, Bool.not_true, Bool.and_false]), rfl, rfl⟩
      · refine aw_iconst (v := 1) S d_At_isReferenceByte_22 (by decide) ?_
        refine aw_goto S 27 d_At_isReferenceByte_23 (by decide) ?_
        refine aw_zret S .boolean rfl (by rfl) d_At_isReferenceByte_27 ?_ (by decide) (by decide)
        have hm : ¬ b ∈ ([34, 60, 62, 92, 94, 96, 123, 124, 125] : List Int32) := by
          have h1 := Int32.not_le.mp c19
          rw [sp_ixF_neg _ _ (by decide)] at h1
          exact h1
        exact ⟨aw_b1 (by rw [sp_rfb, decide_eq_false hm, sp_in, decide_eq_false c3, decide_eq_false c9]; rfl), rfl, rfl⟩
set_option maxRecDepth 100000 in
set_option maxHeartbeats 4000000 in
theorem ev_At_wrongInReference {l : Launch} {E : aw_E} {g : AH} {n : Nat} {a N : Nat} {xs : List Int32} (hR : IsRow E g a N xs) : EV l E 5 0 0 y_At_wrongInReference c_At_wrongInReference 3 (some .int) g n [.ref a] (aw_Pi (fun r_ g2 n2 => r_ = oi (sp_wrF xs 0) ∧ g2 = g ∧ n2 = n)) := by
  have hN := hR.room
  refine aw_enter "AddressTerms" [some (.ref a), none, none] (by decide) rfl rfl (Nat.le_of_ble_eq_true rfl) ?_
  intro p e s m args below meth c S hnm
  have loop : ∀ (j k : Nat) (x : Option Value), k + j = xs.length → sp_wrF (xs.drop k) k = sp_wrF xs 0 → AW p l e { frames := 5, cells := 0, slots := 0, locals := 40 * 5 } s m args below meth c E 3 (aw_Z E (aw_Pi (fun r_ g2 n2 => r_ = oi (sp_wrF xs 0) ∧ g2 = g ∧ n2 = n)) below args s 0 0) 0 0 g n 2 [some (.ref a), some (.int (nI k)), x] [] := by
    intro j
    induction j with
    | zero =>
      intro k x hk hv
      rw [List.drop_eq_nil_iff.mpr (show xs.length ≤ k by omega), sp_wrF] at hv
      refine aw_iload_1 S d_At_wrongInReference_2 ?_
      refine aw_aload_0 S d_At_wrongInReference_3 ?_
      refine aw_callViR S (ev_Rw_size hR) mb_Rw_size mi_Rw_size n_ml_At_75 d_At_wrongInReference_4 I_Rw hR.cell rfl rfl rfl ?_
      refine aw_icmp_ge S 67 d_At_wrongInReference_7 (by decide) (fun c7 => ?_) (fun c7 => ?_)
      · refine aw_iconst (v := -1) S d_At_wrongInReference_67 (by decide) ?_
        refine aw_iret S rfl d_At_wrongInReference_68 ?_ (by decide) (by decide)
        exact ⟨by rw [← hv]; rfl, rfl, rfl⟩
      · exact absurd (nI_le (by omega) (by omega)) c7
    | succ j ih =>
      intro k x hk hv
      have hkx : k < xs.length := by omega
      rw [drop_cons hkx, sp_wrF, getD_drop, getD_drop, Nat.add_zero] at hv
      refine aw_iload_1 S d_At_wrongInReference_2 ?_
      refine aw_aload_0 S d_At_wrongInReference_3 ?_
      refine aw_callViR S (ev_Rw_size hR) mb_Rw_size mi_Rw_size n_ml_At_75 d_At_wrongInReference_4 I_Rw hR.cell rfl rfl rfl ?_
      refine aw_icmp_ge S 67 d_At_wrongInReference_7 (by decide) (fun c7 => ?_) (fun c7 => ?_)
      · exact absurd c7 (nI_ge (by omega) (by omega))
      · refine aw_aload_0 S d_At_wrongInReference_10 ?_
        refine aw_iload_1 S d_At_wrongInReference_11 ?_
        refine aw_callViR S (ev_Rw_byteAt (nI (k)) hR) mb_Rw_byteAt mi_Rw_byteAt n_ml_At_162 d_At_wrongInReference_12 I_Rw hR.cell rfl rfl rfl ?_
        rw [sp_at_nI (by omega)]
        refine aw_istore_2 S d_At_wrongInReference_15 ?_
        refine aw_iload_2 S d_At_wrongInReference_16 ?_
        refine aw_callSiR S (ev_At_isReferenceByte (xs.getD k (-1))) mb_At_isReferenceByte n_st_At_isReferenceByte n_ml_At_267 d_At_wrongInReference_17 rfl rfl ?_
        refine aw_if_ne S 25 d_At_wrongInReference_20 (by decide) (fun c20 => ?_) (fun c20 => ?_)
        · refine aw_iload_2 S d_At_wrongInReference_25 ?_
          refine aw_bipush (v := 37) S d_At_wrongInReference_26 (by decide) ?_
          refine aw_icmp_ne S 61 d_At_wrongInReference_28 (by decide) (fun c28 => ?_) (fun c28 => ?_)
          · refine aw_iinc_1 (v := nI (k + 1)) S d_At_wrongInReference_61 (inc_1 k) ?_
            refine aw_goto S 2 d_At_wrongInReference_64 (by decide) ?_
            rw [if_pos (aw_b_t c20), if_neg (fun h => c28 h.1)] at hv
            exact ih (k + 1) _ (by omega) hv
          · refine aw_aload_0 S d_At_wrongInReference_31 ?_
            refine aw_iload_1 S d_At_wrongInReference_32 ?_
            refine aw_iconst (v := 1) S d_At_wrongInReference_33 (by decide) ?_
            refine aw_iadd S d_At_wrongInReference_34 ?_
            refine aw_topi (nI_1 k) ?_
            refine aw_callViR S (ev_Rw_byteAt (nI (k + 1)) hR) mb_Rw_byteAt mi_Rw_byteAt n_ml_At_162 d_At_wrongInReference_35 I_Rw hR.cell rfl rfl rfl ?_
            rw [sp_at_nI (by omega)]
            refine aw_callSiR S (ev_At_hexValue (xs.getD (k + 1) (-1))) mb_At_hexValue n_st_At_hexValue n_ml_At_270 d_At_wrongInReference_38 rfl rfl ?_
            refine aw_iconst (v := -1) S d_At_wrongInReference_41 (by decide) ?_
            refine aw_icmp_eq S 59 d_At_wrongInReference_42 (by decide) (fun c42 => ?_) (fun c42 => ?_)
            · refine aw_iload_1 S d_At_wrongInReference_59 ?_
              refine aw_iret S rfl d_At_wrongInReference_60 ?_ (by decide) (by decide)
              rw [if_pos (aw_b_t c20), if_pos ⟨c28, Or.inl c42⟩] at hv
              exact ⟨by rw [← hv]; rfl, rfl, rfl⟩
            · refine aw_aload_0 S d_At_wrongInReference_45 ?_
              refine aw_iload_1 S d_At_wrongInReference_46 ?_
              refine aw_iconst (v := 2) S d_At_wrongInReference_47 (by decide) ?_
              refine aw_topi (show (2 : Int32) = nI 2 from rfl) ?_
              refine aw_iadd S d_At_wrongInReference_48 ?_
              refine aw_topi (nI_add k 2) ?_
              refine aw_callViR S (ev_Rw_byteAt (nI (k + 1 + 1)) hR) mb_Rw_byteAt mi_Rw_byteAt n_ml_At_162 d_At_wrongInReference_49 I_Rw hR.cell rfl rfl rfl ?_
              rw [sp_at_nI (by omega)]
              refine aw_callSiR S (ev_At_hexValue (xs.getD (k + 1 + 1) (-1))) mb_At_hexValue n_st_At_hexValue n_ml_At_270 d_At_wrongInReference_52 rfl rfl ?_
              refine aw_iconst (v := -1) S d_At_wrongInReference_55 (by decide) ?_
              refine aw_icmp_ne S 61 d_At_wrongInReference_56 (by decide) (fun c56 => ?_) (fun c56 => ?_)
              · refine aw_iinc_1 (v := nI (k + 1)) S d_At_wrongInReference_61 (inc_1 k) ?_
                refine aw_goto S 2 d_At_wrongInReference_64 (by decide) ?_
                rw [if_pos (aw_b_t c20), if_neg (fun h => h.2.elim c42 c56)] at hv
                exact ih (k + 1) _ (by omega) hv
              · refine aw_iload_1 S d_At_wrongInReference_59 ?_
                refine aw_iret S rfl d_At_wrongInReference_60 ?_ (by decide) (by decide)
                rw [if_pos (aw_b_t c20), if_pos ⟨c28, Or.inr c56⟩] at hv
                exact ⟨by rw [← hv]; rfl, rfl, rfl⟩
        · refine aw_iload_1 S d_At_wrongInReference_23 ?_
          refine aw_iret S rfl d_At_wrongInReference_24 ?_ (by decide) (by decide)
          rw [if_neg (by rw [aw_b_f c20]; decide)] at hv
          exact ⟨by rw [← hv]; rfl, rfl, rfl⟩
  refine aw_iconst (v := 0) S d_At_wrongInReference_0 (by decide) ?_
  refine aw_topi nI_0.symm ?_
  refine aw_istore_1 S d_At_wrongInReference_1 ?_
  exact loop xs.length 0 none (by omega) rfl
def ad_v (xs : List Int32) : Tmv := (0, 0, 0, xs, [])
def okA (ts : List Tmv) : Prop := ∀ i, i < ts.length → (tmG ts i).1 = 0 → (tmG ts i).2.2.2.1.length ≤ 100 ∧ sp_sc (tmG ts i).2.2.2.1 = true
def op_resR (tape : List Int32) (ts : List Tmv) (bt : Int32) : Int32 := match sp_wrF tape 0 with
  | some k => -10 - nI k
  | none => match ixK ts 0 bt with
    | none => if sp_sc tape then op_place ts (ad_v tape) else -2
    | some i => if (sp_res tape (tmG ts i).2.2.2.1).length ≤ 100 then op_place ts (ad_v (sp_res tape (tmG ts i).2.2.2.1)) else -3
def op_resT (tape : List Int32) (ts : List Tmv) (bt : Int32) : List Tmv := match sp_wrF tape 0 with
  | some _ => ts
  | none => match ixK ts 0 bt with
    | none => if sp_sc tape then op_put ts (ad_v tape) else ts
    | some i => if (sp_res tape (tmG ts i).2.2.2.1).length ≤ 100 then op_put ts (ad_v (sp_res tape (tmG ts i).2.2.2.1)) else ts
theorem wrF_lt : ∀ (xs : List Int32) (k c : Nat), sp_wrF xs k = some c → c < k + xs.length := by
  intro xs
  induction xs with
  | nil => intro k c h; cases h
  | cons b r ih =>
    intro k c h
    rw [sp_wrF] at h
    rw [List.length_cons]
    split at h
    · split at h
      · cases h; omega
      · have := ih (k + 1) c h; omega
    · cases h; omega
theorem AtF.two {E : aw_E} {g g2 : AH} {o L K : Nat} {tb pb : Nat → Nat} {tape pr : List Int32} {bt : Int32} (hA : AtF E g o tb pb tape L bt K pr) (hf : aw_fr2 g g2 (o + 23) (o + 8)) (hn : ∃ v : Tmv, IsTv E g2 (o + 7) 197 16 v) (hz : ∃ zs, IsRow E g2 (o + 23) 197 zs) : AtF E g2 o tb pb tape L bt K pr := by
  obtain ⟨a1, a2, a3, a4, ⟨a5, ft, a6, a7⟩, ⟨a8, fp, a9, a10⟩, a11, a12, a13, a14, a15⟩ := hA
  have k : ∀ x, (x < o + 8 ∨ o + 10 ≤ x) → (x < o + 23 ∨ o + 25 ≤ x) → g2 x = g x := fun x h1 h2 => hf x (by omega) (by omega)
  refine ⟨a1, (k o (by omega) (by omega)).trans a2, a3.keep (k _ (by omega) (by omega)) (k _ (by omega) (by omega)), a4.keep (k _ (by omega) (by omega)) (k _ (by omega) (by omega)), ⟨a5, ft, (k _ (by omega) (by omega)).trans a6, a7⟩, ⟨a8, fp, (k _ (by omega) (by omega)).trans a9, a10⟩, hn, ?_, ?_, (k _ (by omega) (by omega)).trans a14, hz⟩
  · obtain ⟨r, fb, fe, h⟩ := a12
    exact ⟨r, fb, fe, h.1, (k _ (by omega) (by omega)).trans h.2.1, (k _ (by omega) (by omega)).trans h.2.2.1, (k _ (by omega) (by omega)).trans h.2.2.2⟩
  · obtain ⟨r, fb, fe, h⟩ := a13
    exact ⟨r, fb, fe, h.1, (k _ (by omega) (by omega)).trans h.2.1, (k _ (by omega) (by omega)).trans h.2.2.1, (k _ (by omega) (by omega)).trans h.2.2.2⟩
theorem Rfst.rf {E : aw_E} {g : AH} {a r k : Nat} {xs : List Int32} (h : Rfst E g a r xs k) : ∃ r fb fe, IsRf E g a r fb fe := by
  obtain ⟨fb, fe, h1, -⟩ := h
  exact ⟨r, fb, fe, h1⟩
set_option maxRecDepth 100000 in
set_option maxHeartbeats 4000000 in
theorem ev_At_addressOnTape {l : Launch} {E : aw_E} {g : AH} {n : Nat} {o : Nat} {tb pb : Nat → Nat} {tape pr : List Int32} {ts : List Tmv} {bt : Int32} {ps : List (List Int32 × Nat)} (hS0 : AtS E g n o tb pb tape ts bt ps pr) (hok : okA ts) : EV l E 8 5 2009 y_At_addressOnTape c_At_addressOnTape 3 (some .int) g n [.ref o] (aw_Pi (fun r_ g2 n2 => r_ = op_resR tape ts bt ∧ ∃ tb2 pb2, AtS E g2 n2 o tb2 pb2 (tape) (op_resT tape ts bt) (bt) (ps) (pr) ∧ aw_md o g g2)) := by
  obtain ⟨hA, hT⟩ := id hS0
  obtain ⟨a1, a2, a3, a4, ⟨a5, ft, a6, a7⟩, ⟨a8, fp, a9, a10⟩, a11, a12, a13, a14, a15⟩ := id hA
  have ht0 := hT.1
  have htp := a3.room
  refine aw_enter "AddressTerms" [some (.ref o), none, none] (by decide) rfl rfl (Nat.le_of_ble_eq_true rfl) ?_
  intro p e s m args below meth c S hnm
  have s128 : ∀ (g1 : AH) (w : Int32) (t : Option Value) (xs : List Int32), AtS E g1 n o tb pb tape ts bt ps pr → IsTv E g1 (o + 7) 197 16 (ad_v xs) → aw_md o g g1 → (if xs.length ≤ 100 then op_place ts (ad_v xs) else -3) = op_resR tape ts bt → (if xs.length ≤ 100 then op_put ts (ad_v xs) else ts) = op_resT tape ts bt → AW p l e { frames := 8, cells := 5, slots := 2009, locals := 40 * 8 } s m args below meth c E 3 (aw_Z E (aw_Pi (fun r_ g2 n2 => r_ = op_resR tape ts bt ∧ ∃ tb2 pb2, AtS E g2 n2 o tb2 pb2 (tape) (op_resT tape ts bt) (bt) (ps) (pr) ∧ aw_md o g g2)) below args s 5 2009) 0 0 g1 n 128 [some (.ref o), some (.int w), t] [] := by
    intro g1 w t xs hS1 hW hm e1 e2
    have hxr := hW.2.2.1.room
    have hxr : xs.length ≤ 197 ∧ _ := hxr
    refine aw_aload_0 S d_At_addressOnTape_128 ?_
    refine aw_getf S I_At 4 hS1.1.2.1 n_fl_At_36 d_At_addressOnTape_129 rfl (by decide) ?_
    refine aw_getf S I_Tm 0 hW.2.1 n_fl_At_109 d_At_addressOnTape_132 rfl (by decide) ?_
    refine aw_callViR S (ev_Rw_size hW.2.2.1) mb_Rw_size mi_Rw_size n_ml_At_75 d_At_addressOnTape_135 I_Rw hW.2.2.1.cell rfl rfl rfl ?_
    refine aw_bipush (v := 100) S d_At_addressOnTape_138 (by decide) ?_
    refine aw_icmp_le S 148 d_At_addressOnTape_140 (by decide) (fun c140 => ?_) (fun c140 => ?_)
    · rw [show (100 : Int32) = nI 100 from rfl, nI_leI (by show xs.length < _; omega) (by omega)] at c140
      have c140 : xs.length ≤ 100 := c140
      refine aw_aload_0 S d_At_addressOnTape_148 ?_
      refine aw_callViA S 5 2009 (ev_At_placeOfWanted (v := ad_v xs) hS1.1 hS1.2 hW) mb_At_placeOfWanted mi_At_placeOfWanted n_ml_At_96 d_At_addressOnTape_149 I_At hS1.1.2.1 rfl rfl rfl (fun v_ g2_ n2_ h_ => ?_)
      obtain ⟨rfl, tb2, hS2, hm2⟩ := h_
      refine aw_iret S rfl d_At_addressOnTape_152 ?_ (by decide) (by decide)
      rw [if_pos c140] at e1 e2
      rw [← e1, ← e2]
      exact ⟨rfl, tb2, pb, hS2, hm.tr hm2⟩
    · rw [show (100 : Int32) = nI 100 from rfl, nI_leI (by show xs.length < _; omega) (by omega)] at c140
      have c140 : ¬ xs.length ≤ 100 := c140
      refine aw_bipush (v := -3) S d_At_addressOnTape_143 (by decide) ?_
      refine aw_goto S 152 d_At_addressOnTape_145 (by decide) ?_
      refine aw_iret S rfl d_At_addressOnTape_152 ?_ (by decide) (by decide)
      rw [if_neg c140] at e1 e2
      rw [← e1, ← e2]
      exact ⟨rfl, tb, pb, hS1, hm⟩
  refine aw_aload_0 S d_At_addressOnTape_0 ?_
  refine aw_getf S I_At 0 a2 n_fl_At_14 d_At_addressOnTape_1 rfl (by decide) ?_
  refine aw_callSiR S (ev_At_wrongInReference a3) mb_At_wrongInReference n_st_At_wrongInReference n_ml_At_169 d_At_addressOnTape_4 rfl rfl ?_
  refine aw_istore_1 S d_At_addressOnTape_7 ?_
  refine aw_iload_1 S d_At_addressOnTape_8 ?_
  refine aw_iconst (v := -1) S d_At_addressOnTape_9 (by decide) ?_
  refine aw_icmp_eq S 18 d_At_addressOnTape_10 (by decide) (fun c10 => ?_) (fun c10 => ?_)
  · have hw : sp_wrF tape 0 = none := by
      cases h : sp_wrF tape 0 with
      | none => rfl
      | some k => rw [h] at c10; exact absurd c10 (nI_m (by have := wrF_lt _ _ _ h; omega))
    obtain ⟨rr, fb, fe, hRf⟩ := a12
    refine aw_aload_0 S d_At_addressOnTape_18 ?_
    refine aw_getf S I_At 5 a2 n_fl_At_43 d_At_addressOnTape_19 rfl (by decide) ?_
    refine aw_aload_0 S d_At_addressOnTape_22 ?_
    refine aw_getf S I_At 0 a2 n_fl_At_14 d_At_addressOnTape_23 rfl (by decide) ?_
    refine aw_callVv0 S (ev_Rf_read hRf a3 (by omega)) mb_Rf_read mi_Rf_read n_ml_At_112 d_At_addressOnTape_26 I_Rf hRf.2.1 rfl rfl rfl (fun g2_ n2_ h_ => ?_)
    obtain ⟨rfl, hD1, hF1⟩ := h_
    have hA1 := hA.given hF1 hD1.rf
    have hT1 := hT.fix hF1 (by omega)
    obtain ⟨wv, hW1⟩ := hA1.2.2.2.2.2.2.1
    refine aw_aload_0 S d_At_addressOnTape_29 ?_
    refine aw_aload_0 S d_At_addressOnTape_30 ?_
    refine aw_getf S I_At 10 hA1.2.1 n_fl_At_64 d_At_addressOnTape_31 rfl (by decide) ?_
    refine aw_callVqR S (ev_At_addressAt bt hA1 hT1) mb_At_addressAt mi_At_addressAt n_ml_At_88 d_At_addressOnTape_34 I_At hA1.2.1 rfl rfl rfl ?_
    refine aw_astoreQ_2 S d_At_addressOnTape_37 ?_
    refine aw_aloadQ_2 S d_At_addressOnTape_38 ?_
    refine aw_ifnonnull S 56 d_At_addressOnTape_39 (by decide) (fun y39 c39 => ?_) (fun c39 => ?_)
    · obtain ⟨i, hi, rfl⟩ := Option.map_eq_some_iff.mp c39
      obtain ⟨hia, hib⟩ := ixK_some hi
      refine aw_aload_0 S d_At_addressOnTape_56 ?_
      refine aw_getf S I_At 4 hA1.2.1 n_fl_At_36 d_At_addressOnTape_57 rfl (by decide) ?_
      refine aw_iconst (v := 0) S d_At_addressOnTape_60 (by decide) ?_
      refine aw_iconst (v := 0) S d_At_addressOnTape_61 (by decide) ?_
      refine aw_iconst (v := 0) S d_At_addressOnTape_62 (by decide) ?_
      refine aw_callVv0 S (ev_Tm_begin 0 0 0 hW1) mb_Tm_begin mi_Tm_begin n_ml_At_92 d_At_addressOnTape_63 I_Tm hW1.2.1 rfl rfl rfl (fun g2_ n2_ h_ => ?_)
      obtain ⟨rfl, hW2, hF2⟩ := h_
      have hA2 := hA1.wanted hF2 ⟨ad_v [], hW2⟩
      have hT2 := hT1.fix hF2 (by omega)
      have hD2 := hD1.fr hF2 (by omega)
      have hm2 := (aw_md.fr (o := o) hF1 (by omega)).tr (aw_md.fr hF2 (by omega))
      refine aw_aloadQ_2 S d_At_addressOnTape_66 ?_
      refine aw_ifnonnull S 95 d_At_addressOnTape_67 (by decide) (fun y67 c67 => ?_) (fun c67 => ?_)
      · obtain ⟨q1, q2, N1, N2, hB2⟩ := hT2.2.1 i (ixOf_lt (by omega) hia).1
        obtain ⟨rk, fbk, fek, hKf⟩ := hA2.2.2.2.2.2.2.2.2.1
        have hq := hok i (ixOf_lt (by omega) hia).1 hib
        have hrl := res_len (os := tape) hq.2
        have hgg : ∀ ys : List Int32, ys ++ sp_r3 tape (tmG ts i).2.2.2.1 = sp_res tape (tmG ts i).2.2.2.1 → ys.length + (sp_gath (sp_oa tape) tape (tmG ts i).2.2.2.1).length ≤ 197 := by
          intro ys hy
          have h1 := congrArg List.length hy
          rw [sp_res, sp_r2] at h1
          simp only [List.length_append, List.length_singleton] at h1
          omega
        rw [hi]
        refine aw_aload_0 S d_At_addressOnTape_95 ?_
        refine aw_getf S I_At 6 hA2.2.1 n_fl_At_47 d_At_addressOnTape_96 rfl (by decide) ?_
        refine aw_aload_2 S d_At_addressOnTape_99 ?_
        refine aw_getf S I_Tm 0 hB2.2.1 n_fl_At_109 d_At_addressOnTape_100 rfl (by decide) ?_
        refine aw_callVv0 S (ev_Rf_read hKf hB2.2.2.1 (by omega)) mb_Rf_read mi_Rf_read n_ml_At_112 d_At_addressOnTape_103 I_Rf hKf.2.1 rfl rfl rfl (fun g2_ n2_ h_ => ?_)
        obtain ⟨rfl, hD3, hF3⟩ := h_
        have hA3 := hA2.known hF3 hD3.rf
        have hT3 := hT2.fix hF3 (by omega)
        have hW3 : IsTm E g2_ (o + 7) 197 16 0 0 0 [] [] := hW2.fr hF3 (by omega)
        have hD13 := hD2.fr hF3 (by omega)
        have hB3 := hB2.fr hF3 (by omega)
        have hm3 := hm2.tr (aw_md.fr hF3 (by omega))
        refine aw_aload_0 S d_At_addressOnTape_106 ?_
        refine aw_getf S I_At 7 hA3.2.1 n_fl_At_53 d_At_addressOnTape_107 rfl (by decide) ?_
        refine aw_aload_0 S d_At_addressOnTape_110 ?_
        refine aw_getf S I_At 4 hA3.2.1 n_fl_At_36 d_At_addressOnTape_111 rfl (by decide) ?_
        refine aw_getf S I_Tm 0 hW3.2.1 n_fl_At_109 d_At_addressOnTape_114 rfl (by decide) ?_
        refine aw_aload_0 S d_At_addressOnTape_117 ?_
        refine aw_getf S I_At 5 hA3.2.1 n_fl_At_43 d_At_addressOnTape_118 rfl (by decide) ?_
        refine aw_aload_0 S d_At_addressOnTape_121 ?_
        refine aw_getf S I_At 6 hA3.2.1 n_fl_At_47 d_At_addressOnTape_122 rfl (by decide) ?_
        refine aw_callVv0 S (ev_Rs_resolveTo (a := o + 22) (o1 := o + 12) (o2 := o + 17) (r1 := o + 1) (r2 := tb i + 1) (ob := o + 8) (by unfold RsA; omega) ⟨hA3.2.2.2.2.2.2.2.2.2.1, hA3.2.2.2.2.2.2.2.2.2.2, hD13, hD3, hA3.2.2.1, hB3.2.2.1, aw_fr2.rf⟩ hW3.2.2.1 (by omega) (by omega) hgg) mb_Rs_resolveTo mi_Rs_resolveTo n_ml_At_177 d_At_addressOnTape_125 I_Rs hA3.2.2.2.2.2.2.2.2.2.1 rfl rfl rfl (fun g2_ n2_ h_ => ?_)
        obtain ⟨rfl, h4, hz4, hF4⟩ := h_
        have hW4 : IsTv E g2_ (o + 7) 197 16 (ad_v (sp_res tape (tmG ts i).2.2.2.1)) := ⟨by omega, (hF4 _ (by omega) (by omega)).trans hW3.2.1, h4, hW3.2.2.2.fr2 hF4 (by omega) (by omega)⟩
        refine s128 _ _ _ (sp_res tape (tmG ts i).2.2.2.1) ⟨hA3.two hF4 ⟨_, hW4⟩ hz4, hT3.fr (fun x q3 q4 => hF4 x (by omega) (by omega))⟩ hW4 (hm3.tr (fun x q3 q4 => hF4 x (by omega) (by omega))) ?_ ?_
        · rw [op_resR, hw, hi]
        · rw [op_resT, hw, hi]
      · rw [hi] at c67
        cases c67
    · refine aw_aload_0 S d_At_addressOnTape_42 ?_
      refine aw_getf S I_At 5 hA1.2.1 n_fl_At_43 d_At_addressOnTape_43 rfl (by decide) ?_
      refine aw_iconst (v := 0) S d_At_addressOnTape_46 (by decide) ?_
      refine aw_topi nI_0.symm ?_
      refine aw_callViR S (ev_Rf_has 0 hD1 (by decide) (by omega)) mb_Rf_has mi_Rf_has n_ml_At_116 d_At_addressOnTape_47 I_Rf hD1.cell rfl rfl rfl ?_
      refine aw_if_ne S 56 d_At_addressOnTape_50 (by decide) (fun c50 => ?_) (fun c50 => ?_)
      · refine aw_aload_0 S d_At_addressOnTape_56 ?_
        refine aw_getf S I_At 4 hA1.2.1 n_fl_At_36 d_At_addressOnTape_57 rfl (by decide) ?_
        refine aw_iconst (v := 0) S d_At_addressOnTape_60 (by decide) ?_
        refine aw_iconst (v := 0) S d_At_addressOnTape_61 (by decide) ?_
        refine aw_iconst (v := 0) S d_At_addressOnTape_62 (by decide) ?_
        refine aw_callVv0 S (ev_Tm_begin 0 0 0 hW1) mb_Tm_begin mi_Tm_begin n_ml_At_92 d_At_addressOnTape_63 I_Tm hW1.2.1 rfl rfl rfl (fun g2_ n2_ h_ => ?_)
        obtain ⟨rfl, hW2, hF2⟩ := h_
        have hA2 := hA1.wanted hF2 ⟨ad_v [], hW2⟩
        have hT2 := hT1.fix hF2 (by omega)
        have hD2 := hD1.fr hF2 (by omega)
        have hm2 := (aw_md.fr (o := o) hF1 (by omega)).tr (aw_md.fr hF2 (by omega))
        refine aw_aloadQ_2 S d_At_addressOnTape_66 ?_
        refine aw_ifnonnull S 95 d_At_addressOnTape_67 (by decide) (fun y67 c67 => ?_) (fun c67 => ?_)
        · rw [c39] at c67
          cases c67
        · refine aw_aload_0 S d_At_addressOnTape_70 ?_
          refine aw_getf S I_At 4 hA2.2.1 n_fl_At_36 d_At_addressOnTape_71 rfl (by decide) ?_
          refine aw_getf S I_Tm 0 hW2.2.1 n_fl_At_109 d_At_addressOnTape_74 rfl (by decide) ?_
          refine aw_aload_0 S d_At_addressOnTape_77 ?_
          refine aw_getf S I_At 0 hA2.2.1 n_fl_At_14 d_At_addressOnTape_78 rfl (by decide) ?_
          refine aw_iconst (v := 0) S d_At_addressOnTape_81 (by decide) ?_
          refine aw_topi nI_0.symm ?_
          refine aw_aload_0 S d_At_addressOnTape_82 ?_
          refine aw_getf S I_At 0 hA2.2.1 n_fl_At_14 d_At_addressOnTape_83 rfl (by decide) ?_
          refine aw_callViR S (ev_Rw_size hA2.2.2.1) mb_Rw_size mi_Rw_size n_ml_At_75 d_At_addressOnTape_86 I_Rw hA2.2.2.1.cell rfl rfl rfl ?_
          refine aw_callVv0 S (ev_Rw_addRange 0 tape.length hW2.2.2.1 hA2.2.2.1 (by omega) (by omega) (by omega) (by simp; omega)) mb_Rw_addRange mi_Rw_addRange n_ml_At_173 d_At_addressOnTape_89 I_Rw hW2.2.2.1.cell rfl rfl rfl (fun g2_ n2_ h_ => ?_)
          obtain ⟨rfl, h3, hF3⟩ := h_
          rw [List.nil_append, List.take_length, List.drop_zero] at h3
          refine aw_goto S 128 d_At_addressOnTape_92 (by decide) ?_
          have hn := Option.map_eq_none_iff.mp c39
          refine s128 _ _ _ tape ⟨hA2.two (aw_fr2.rf.r hF3) ⟨ad_v tape, (hF3 _ (by omega)).trans hW2.2.1 |> fun h => ⟨by omega, h, h3, hW2.2.2.2.fr hF3 (by omega)⟩⟩ ?_, hT2.fix hF3 (by omega)⟩ ⟨by omega, (hF3 _ (by omega)).trans hW2.2.1, h3, hW2.2.2.2.fr hF3 (by omega)⟩ (hm2.tr (aw_md.fr hF3 (by omega))) ?_ ?_
          · obtain ⟨zs, hz⟩ := hA2.2.2.2.2.2.2.2.2.2.2
            exact ⟨zs, hz.fr hF3 (by omega)⟩
          · rw [op_resR, hw, hn]; dsimp only; rw [show sp_sc tape = true from aw_b_t c50, if_pos rfl, if_pos (by omega)]
          · rw [op_resT, hw, hn]; dsimp only; rw [show sp_sc tape = true from aw_b_t c50, if_pos rfl, if_pos (by omega)]
      · refine aw_bipush (v := -2) S d_At_addressOnTape_53 (by decide) ?_
        refine aw_iret S rfl d_At_addressOnTape_55 ?_ (by decide) (by decide)
        have hn := Option.map_eq_none_iff.mp c39
        have hsc : sp_sc tape = false := aw_b_f c50
        have e1 : op_resR tape ts bt = -2 := by rw [op_resR, hw, hn]; dsimp only; rw [hsc]; rfl
        have e2 : op_resT tape ts bt = ts := by rw [op_resT, hw, hn]; dsimp only; rw [hsc]; rfl
        rw [e1, e2]
        exact ⟨rfl, tb, pb, ⟨hA1, hT1⟩, aw_md.fr hF1 (by omega)⟩
  · refine aw_bipush (v := -10) S d_At_addressOnTape_13 (by decide) ?_
    refine aw_iload_1 S d_At_addressOnTape_15 ?_
    refine aw_isub S d_At_addressOnTape_16 ?_
    refine aw_iret S rfl d_At_addressOnTape_17 ?_ (by decide) (by decide)
    cases h : sp_wrF tape 0 with
    | none => rw [h] at c10; exact absurd rfl c10
    | some k =>
      have e1 : op_resR tape ts bt = -10 - nI k := by rw [op_resR, h]
      have e2 : op_resT tape ts bt = ts := by rw [op_resT, h]
      rw [e1, e2]
      exact ⟨rfl, tb, pb, hS0, aw_md.rf⟩
set_option maxRecDepth 100000 in
set_option maxHeartbeats 4000000 in
theorem ev_At_resolve {l : Launch} {E : aw_E} {g : AH} {n : Nat} {o : Nat} {tb pb : Nat → Nat} {tape pr : List Int32} {ts : List Tmv} {bt : Int32} {ps : List (List Int32 × Nat)} (hS0 : AtS E g n o tb pb tape ts bt ps pr) (hok : okA ts) : EV l E 9 5 2009 y_At_resolve c_At_resolve 2 (some .int) g n [.ref o] (aw_Pi (fun r_ g2 n2 => r_ = op_resR tape ts bt ∧ ∃ tb2 pb2, AtS E g2 n2 o tb2 pb2 ([]) (op_resT tape ts bt) (bt) (ps) (pr) ∧ aw_md o g g2)) := by
  obtain ⟨hA, hT⟩ := id hS0
  obtain ⟨a1, a2, a3, a4, ⟨a5, ft, a6, a7⟩, ⟨a8, fp, a9, a10⟩, a11, a12, a13, a14, a15⟩ := id hA
  have ht0 := hT.1
  have htp := a3.room
  refine aw_enter "AddressTerms" [some (.ref o), none] (by decide) rfl rfl (Nat.le_of_ble_eq_true rfl) ?_
  intro p e s m args below meth c S hnm
  refine aw_aload_0 S d_At_resolve_0 ?_
  refine aw_callViA S 5 2009 (ev_At_addressOnTape hS0 hok) mb_At_addressOnTape mi_At_addressOnTape n_ml_At_82 d_At_resolve_1 I_At a2 rfl rfl rfl (fun v_ g2_ n2_ h_ => ?_)
  obtain ⟨rfl, tb2, pb2, hS2, hm2⟩ := h_
  refine aw_istore_1 S d_At_resolve_4 ?_
  refine aw_aload_0 S d_At_resolve_5 ?_
  refine aw_getf S I_At 0 hS2.1.2.1 n_fl_At_14 d_At_resolve_6 rfl (by decide) ?_
  refine aw_iconst (v := 0) S d_At_resolve_9 (by decide) ?_
  refine aw_topi nI_0.symm ?_
  refine aw_callVv0 S (ev_Rw_cutTo 0 hS2.1.2.2.1 (by decide)) mb_Rw_cutTo mi_Rw_cutTo n_ml_At_85 d_At_resolve_10 I_Rw hS2.1.2.2.1.cell rfl rfl rfl (fun g2_ n2_ h_ => ?_)
  obtain ⟨rfl, h3, hF3⟩ := h_
  refine aw_iload_1 S d_At_resolve_13 ?_
  refine aw_iret S rfl d_At_resolve_14 ?_ (by decide) (by decide)
  exact ⟨rfl, tb2, pb2, ⟨hS2.1.tape hF3 (by simpa using h3), hS2.2.fix hF3 (by omega)⟩, hm2.tr (aw_md.fr hF3 (by omega))⟩
def op_part (ts : List Tmv) (q w : Int32) : Int32 := match ixK ts 0 q, ixOf 5 w with
  | some i, some j => if (sp_pt (tmG ts i).2.2.2.1 j).isSome then sp_plen (tmG ts i).2.2.2.1 j else -2
  | _, _ => -1
set_option maxRecDepth 100000 in
set_option maxHeartbeats 4000000 in
theorem ev_At_part {l : Launch} {E : aw_E} {g : AH} {n : Nat} {o : Nat} {tb pb : Nat → Nat} {tape pr : List Int32} {ts : List Tmv} {bt : Int32} {ps : List (List Int32 × Nat)} (q w : Int32) (hS0 : AtS E g n o tb pb tape ts bt ps pr) : EV l E 6 0 0 y_At_part c_At_part 4 (some .int) g n [.ref o, .int q, .int w] (aw_Pi (fun r_ g2 n2 => r_ = op_part ts q w ∧ ∃ tb2 pb2, AtS E g2 n2 o tb2 pb2 (tape) (ts) (bt) (ps) (pr) ∧ aw_md o g g2)) := by
  obtain ⟨hA, hT⟩ := id hS0
  obtain ⟨a1, a2, a3, a4, ⟨a5, ft, a6, a7⟩, ⟨a8, fp, a9, a10⟩, a11, a12, a13, a14, a15⟩ := id hA
  have ht0 := hT.1
  have htp := a3.room
  refine aw_enter "AddressTerms" [some (.ref o), some (.int q), some (.int w), none] (by decide) rfl rfl (Nat.le_of_ble_eq_true rfl) ?_
  intro p e s m args below meth c S hnm
  refine aw_aload_0 S d_At_part_0 ?_
  refine aw_iload_1 S d_At_part_1 ?_
  refine aw_callVqR S (ev_At_addressAt q hA hT) mb_At_addressAt mi_At_addressAt n_ml_At_88 d_At_part_2 I_At a2 rfl rfl rfl ?_
  refine aw_astoreQ_3 S d_At_part_5 ?_
  refine aw_aloadQ_3 S d_At_part_6 ?_
  refine aw_ifnull S 19 d_At_part_7 (by decide) (fun c7 => ?_) (fun y7 c7 => ?_)
  · refine aw_iconst (v := -1) S d_At_part_19 (by decide) ?_
    refine aw_iret S rfl d_At_part_20 ?_ (by decide) (by decide)
    have e : op_part ts q w = -1 := by rw [op_part, Option.map_eq_none_iff.mp c7]
    exact ⟨e.symm, tb, pb, hS0, aw_md.rf⟩
  · obtain ⟨i, hi, rfl⟩ := Option.map_eq_some_iff.mp c7
    obtain ⟨hia, hib⟩ := ixK_some hi
    obtain ⟨q1, q2, N1, N2, hB⟩ := hT.2.1 i (ixOf_lt (by omega) hia).1
    rw [hi]
    refine aw_iload_2 S d_At_part_10 ?_
    refine aw_if_lt S 19 d_At_part_11 (by decide) (fun c11 => ?_) (fun c11 => ?_)
    · refine aw_iconst (v := -1) S d_At_part_19 (by decide) ?_
      refine aw_iret S rfl d_At_part_20 ?_ (by decide) (by decide)
      have e : op_part ts q w = -1 := by rw [op_part, hi, show ixOf 5 w = none by rw [ixOf, if_pos c11]]
      exact ⟨e.symm, tb, pb, hS0, aw_md.rf⟩
    · refine aw_iload_2 S d_At_part_14 ?_
      refine aw_iconst (v := 5) S d_At_part_15 (by decide) ?_
      refine aw_icmp_lt S 21 d_At_part_16 (by decide) (fun c16 => ?_) (fun c16 => ?_)
      · obtain ⟨j, hj, rfl⟩ := ix_of (n := 5) (by decide) c11 (fun h => Int32.not_lt.mpr h c16)
        obtain ⟨rk, fbk, fek, hKf⟩ := a13
        refine aw_aload_0 S d_At_part_21 ?_
        refine aw_getf S I_At 6 a2 n_fl_At_47 d_At_part_22 rfl (by decide) ?_
        refine aw_aload_3 S d_At_part_25 ?_
        refine aw_getf S I_Tm 0 hB.2.1 n_fl_At_109 d_At_part_26 rfl (by decide) ?_
        refine aw_callVv0 S (ev_Rf_read hKf hB.2.2.1 (by omega)) mb_Rf_read mi_Rf_read n_ml_At_112 d_At_part_29 I_Rf hKf.2.1 rfl rfl rfl (fun g2_ n2_ h_ => ?_)
        obtain ⟨rfl, hD, hF⟩ := h_
        have hA2 := hA.known hF hD.rf
        have hT2 := hT.fix hF (by omega)
        have hl0 := hB.2.2.1.room
        refine aw_aload_0 S d_At_part_32 ?_
        refine aw_getf S I_At 6 hA2.2.1 n_fl_At_47 d_At_part_33 rfl (by decide) ?_
        refine aw_iload_2 S d_At_part_36 ?_
        refine aw_callViR S (ev_Rf_has j hD hj (by omega)) mb_Rf_has mi_Rf_has n_ml_At_116 d_At_part_37 I_Rf hD.cell rfl rfl rfl ?_
        refine aw_if_eq S 54 d_At_part_40 (by decide) (fun c40 => ?_) (fun c40 => ?_)
        · refine aw_bipush (v := -2) S d_At_part_54 (by decide) ?_
          refine aw_iret S rfl d_At_part_56 ?_ (by decide) (by decide)
          have e : op_part ts q (nI j) = -2 := by rw [op_part, hi, ixOf_nI (by decide) hj]; dsimp only; rw [aw_b_f c40]; rfl
          exact ⟨e.symm, tb, pb, ⟨hA2, hT2⟩, aw_md.fr hF (by omega)⟩
        · refine aw_aload_0 S d_At_part_43 ?_
          refine aw_getf S I_At 6 hA2.2.1 n_fl_At_47 d_At_part_44 rfl (by decide) ?_
          refine aw_iload_2 S d_At_part_47 ?_
          refine aw_callViR S (ev_Rf_lengthOf j hD hj (by omega)) mb_Rf_lengthOf mi_Rf_lengthOf n_ml_At_119 d_At_part_48 I_Rf hD.cell rfl rfl rfl ?_
          refine aw_goto S 56 d_At_part_51 (by decide) ?_
          refine aw_iret S rfl d_At_part_56 ?_ (by decide) (by decide)
          have e : op_part ts q (nI j) = sp_plen (tmG ts i).2.2.2.1 j := by rw [op_part, hi, ixOf_nI (by decide) hj]; dsimp only; rw [aw_b_t c40]; rfl
          exact ⟨e.symm, tb, pb, ⟨hA2, hT2⟩, aw_md.fr hF (by omega)⟩
      · refine aw_iconst (v := -1) S d_At_part_19 (by decide) ?_
        refine aw_iret S rfl d_At_part_20 ?_ (by decide) (by decide)
        have e : op_part ts q w = -1 := by rw [op_part, hi, show ixOf 5 w = none by rw [ixOf, if_neg c11, if_pos (show nI 5 ≤ w from Int32.not_lt.mp c16)]]
        exact ⟨e.symm, tb, pb, hS0, aw_md.rf⟩
