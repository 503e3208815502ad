/-! rows of bytes: the loops -/
def sp_cmp : List Int32 → List Int32 → Int32
  | [], [] => 0
  | [], _ :: _ => -1
  | _ :: _, [] => 1
  | a :: xs, b :: ys => if sp_ord a b = 0 then sp_cmp xs ys else sp_ord a b
def sp_pre : List Int32 → List Int32 → Bool
  | [], _ => true
  | _ :: _, [] => false
  | a :: ys, b :: xs => decide (b = a) && sp_pre ys xs
def sp_nxF (L : List Int32) : List Int32 → Nat → Nat
  | [], k => k
  | b :: r, k => if b ∈ L then k else sp_nxF L r (k + 1)
def sp_nx (L xs : List Int32) (p : Nat) : Nat := sp_nxF L (xs.drop p) p
def sp_lsF (xs : List Int32) (b : Nat) : Nat → Int32
  | 0 => -1
  | k + 1 => if k < b then -1 else if xs.getD k (-1) = 47 then nI k else sp_lsF xs b k
def sp_num (k : Nat) : List Int32 := (if 100 ≤ k then [nI (48 + k / 100 % 10)] else []) ++ ((if 10 ≤ k then [nI (48 + k / 10 % 10)] else []) ++ [nI (48 + k % 10)])
theorem drop_cons {xs : List Int32} {k : Nat} (h : k < xs.length) : xs.drop k = xs.getD k (-1) :: xs.drop (k + 1) := by
  rw [List.drop_eq_getElem_cons h, getD_at h]
theorem nI_m1 {k : Nat} (h : 0 < k) : nI k - 1 = nI (k - 1) := by
  obtain ⟨j, rfl⟩ : ∃ j, k = j + 1 := ⟨k - 1, by omega⟩
  exact nI_pred j
theorem st_bt : ∀ i, i < 30 → ∀ x ∈ st_b i, sp_bt x := by unfold sp_bt; decide +kernel
theorem getD_0 {xs : List Int32} {k : Nat} (h : k < xs.length) (d : Int32) : xs.getD k d = xs.getD k (-1) := by
  simp [List.getD_eq_getElem?_getD, List.getElem?_eq_getElem h]
theorem c2c {x : Int32} (h : sp_bt x) : (x.toUInt32 % 65536).toInt32 = x := by
  obtain ⟨j, hj, rfl⟩ := h.nat
  have : ∀ j, j < 128 → ((nI j).toUInt32 % 65536).toInt32 = nI j := by decide +kernel
  exact this j hj
theorem min_nI {a b : Nat} (ha : a < 2 ^ 31) (hb : b < 2 ^ 31) : (if nI b < nI a then nI b else nI a) = nI (min a b) := by
  by_cases h : b < a
  · rw [if_pos (nI_lt h ha), Nat.min_eq_right (by omega)]
  · rw [if_neg (nI_nlt (by omega) hb), Nat.min_eq_left (by omega)]
set_option maxRecDepth 100000 in
set_option maxHeartbeats 4000000 in
theorem ev_Rw_init {l : Launch} {E : aw_E} {g : AH} {n : Nat} {a : Nat} (k : Nat) (hb0 : E.2.2.1 ≤ a) (ha : g a = some (.inr (3, [.null, .int 0]))) (hn : n = a + 1) (hk : k < 1000) : EV l E 1 1 1000 y_Rw_init c_Rw_init 2 none g n [.ref a, .int (nI k)] (aw_Pv (fun g2 n2 => n2 = n + 1 ∧ IsRow E g2 a k [] ∧ aw_fr g g2 a 2)) := by
  refine aw_enter "AddressTerms$Row" [some (.ref a), some (.int (nI k))] (by decide) rfl rfl (Nat.le_of_ble_eq_true rfl) ?_
  intro p e s m args below meth c S hnm
  refine aw_aload_0 S d_Rw_init_0 ?_
  refine aw_objInit S n_ml_Rw_3 n_im_Jo_init n_co_Jo_init d_Rw_init_1 (by decide) (Nat.le_of_ble_eq_true rfl) ?_
  refine aw_aload_0 S d_Rw_init_4 ?_
  refine aw_iconst (v := 0) S d_Rw_init_5 (by decide) ?_
  refine aw_putf (fs2 := [.null, .int 0]) S I_Rw 1 ha n_fl_Rw_9 d_Rw_init_6 rfl hb0 rfl rfl rfl (by decide) (Nat.le_of_ble_eq_true rfl) ?_
  refine aw_aload_0 S d_Rw_init_9 ?_
  refine aw_iload_1 S d_Rw_init_10 ?_
  refine aw_iconst (v := 0) S d_Rw_init_11 (by decide) ?_
  refine aw_mmax S n_ml_Rw_15 n_st_Jm_max n_ini_Jm n_co_Jm_max (by decide) (Nat.le_of_ble_eq_true rfl) (by decide) (by decide) d_Rw_init_12 ?_
  rw [if_neg (nI_pos (by omega))]
  refine aw_newa (ty := .byte) S 0 rfl rfl (fun U h => h) n_ac_byte k d_Rw_init_15 (k, .inl (fun _ => 0)) (fun _ => rfl) rfl (by omega) (by decide) (by decide) (by show 0 + k ≤ 1000; omega) ?_
  refine aw_putF (fs2 := [.ref n, .int 0]) S I_Rw 0 (by rw [aw_up_n (by omega), aw_up_s]) n_fl_Rw_21 d_Rw_init_17 rfl hb0 rfl hnm rfl rfl rfl (by decide) (Nat.le_of_ble_eq_true rfl) ?_
  refine aw_vret S rfl d_Rw_init_20 ?_ (by decide) (by show 0 + k ≤ 1000; omega)
  subst hn
  refine ⟨rfl, ⟨hb0, Nat.zero_le _, hk, fun x hx => (by cases hx), ?_, fun _ => 0, ?_, fun i hi => absurd hi (Nat.not_lt_zero i)⟩, fun x hx => ?_⟩
  · rw [aw_up_s]; rfl
  · rw [aw_up_n (by omega), aw_up_s]
  · rw [aw_up_n (by omega), aw_up_n (by omega), aw_up_n (by omega)]
set_option maxRecDepth 100000 in
set_option maxHeartbeats 4000000 in
theorem ev_Rw_addRange {l : Launch} {E : aw_E} {g : AH} {n : Nat} {a a2 N N2 : Nat} {xs ys : List Int32} (b z : Nat) (hR : IsRow E g a N xs) (hR2 : IsRow E g a2 N2 ys) (hd : a + 2 ≤ a2 ∨ a2 + 2 ≤ a) (hb : b < 2 ^ 31) (hz : z < 2 ^ 31) (hl : xs.length + ((ys.take z).drop b).length ≤ N) : EV l E 1 0 0 y_Rw_addRange c_Rw_addRange 6 none g n [.ref a, .ref a2, .int (nI b), .int (nI z)] (aw_Pv (fun g2 n2 => n2 = n ∧ IsRow E g2 a N (xs ++ (ys.take z).drop b) ∧ aw_fr g g2 a 2)) := by
  obtain ⟨q1, q2, q3, q4, q5, f2, q6, q7⟩ := id hR2
  refine aw_enter "AddressTerms$Row" [some (.ref a), some (.ref a2), some (.int (nI b)), some (.int (nI z)), none, none] (by decide) rfl rfl (Nat.le_of_ble_eq_true rfl) ?_
  intro p e s m args below meth c S hnm
  have loop : ∀ (q : List Int32) (k : Nat) (g1 : AH) (zs : List Int32), (ys.take z).drop k = q → k < 2 ^ 31 → zs ++ q = xs ++ (ys.take z).drop b → IsRow E g1 a N zs → IsRow E g1 a2 N2 ys → aw_fr g g1 a 2 → AW p l e { frames := 1, cells := 0, slots := 0, locals := 40 * 1 } s m args below meth c E 6 (aw_Z E (aw_Pv (fun g2 n2 => n2 = n ∧ IsRow E g2 a N (xs ++ (ys.take z).drop b) ∧ aw_fr g g2 a 2)) below args s 0 0) 0 0 g1 n 17 [some (.ref a), some (.ref a2), some (.int (nI b)), some (.int (nI z)), some (.int (nI (min z ys.length))), some (.int (nI k))] [] := by
    intro q
    induction q with
    | nil =>
      intro k g1 zs e hk hz hG hG2 hF
      have hk2 : min z ys.length ≤ k := by have := List.drop_eq_nil_iff.mp e; rw [List.length_take] at this; exact this
      refine aw_iload_5 S d_Rw_addRange_17 ?_
      refine aw_iload_4 S d_Rw_addRange_19 ?_
      refine aw_icmp_ge S 40 d_Rw_addRange_21 (by decide) (fun c21 => ?_) (fun c21 => ?_)
      · refine aw_vret S rfl d_Rw_addRange_40 ?_ (by decide) (by decide)
        exact ⟨rfl, by rw [← hz, List.append_nil]; exact hG, hF⟩
      · exact absurd (nI_le hk2 hk) c21
    | cons x q ih =>
      intro k g1 zs e hk hz hG hG2 hF
      have hk2 : k < min z ys.length := by
        rcases Nat.lt_or_ge k (min z ys.length) with h | h
        · exact h
        · rw [List.drop_eq_nil_iff.mpr (by rw [List.length_take]; exact h)] at e; cases e
      have hlt : k < (ys.take z).length := by rw [List.length_take]; exact hk2
      rw [drop_cons hlt] at e
      injection e with e1 e2
      have hx : ys.getD k (-1) = x := by rw [← e1]; simp [List.getD_eq_getElem?_getD, List.getElem?_take, show k < z by omega]
      have hky : k < ys.length := by omega
      have hxb : sp_bt x := by rw [← hx]; exact q4 _ (getD_mem hky)
      have hlen : zs.length < N := by
        have h1 := congrArg List.length hz
        rw [List.length_append, List.length_cons, List.length_append] at h1
        omega
      obtain ⟨s1, s2, s3, s4, s5, f3, s6, s7⟩ := id hG
      obtain ⟨u1, u2, u3, u4, u5, f4, u6, u7⟩ := id hG2
      refine aw_iload_5 S d_Rw_addRange_17 ?_
      refine aw_iload_4 S d_Rw_addRange_19 ?_
      refine aw_icmp_ge S 40 d_Rw_addRange_21 (by decide) (fun c21 => ?_) (fun c21 => ?_)
      · exact absurd c21 (nI_ge hk2 (by omega))
      · refine aw_aload_0 S d_Rw_addRange_24 ?_
        refine aw_aload_1 S d_Rw_addRange_25 ?_
        refine aw_iload_5 S d_Rw_addRange_26 ?_
        refine aw_callViR S (ev_Rw_byteAt (nI k) hG2) mb_Rw_byteAt mi_Rw_byteAt n_ml_Rw_28 d_Rw_addRange_28 I_Rw u5 rfl rfl rfl ?_
        rw [sp_at_nI (by omega), hx]
        refine aw_callVv0 S (ev_Rw_add x hG hxb hlen) mb_Rw_add mi_Rw_add n_ml_Rw_32 d_Rw_addRange_31 I_Rw s5 rfl rfl rfl (fun g2_ n2_ h_ => ?_)
        obtain ⟨rfl, hG3, hF3⟩ := h_
        refine aw_iinc_5 (v := nI (k + 1)) S d_Rw_addRange_34 ((nI_succ k).symm) ?_
        refine aw_goto S 17 d_Rw_addRange_37 (by decide) ?_
        exact ih (k + 1) g2_ (zs ++ [x]) e2 (by omega) (by rw [← hz, List.append_assoc]; rfl) hG3 (hG2.fr hF3 (by omega)) (hF.tr hF3)
  refine aw_iload_3 S d_Rw_addRange_0 ?_
  refine aw_aload_1 S d_Rw_addRange_1 ?_
  refine aw_getf S I_Rw 1 q5 n_fl_Rw_9 d_Rw_addRange_2 rfl (by decide) ?_
  refine aw_mmin S n_ml_Rw_25 n_st_Jm_min n_ini_Jm n_co_Jm_min (by decide) (Nat.le_of_ble_eq_true rfl) (by decide) (by decide) d_Rw_addRange_5 ?_
  rw [min_nI hz (by omega)]
  refine aw_istore_4 S d_Rw_addRange_8 ?_
  refine aw_iload_2 S d_Rw_addRange_10 ?_
  refine aw_iconst (v := 0) S d_Rw_addRange_11 (by decide) ?_
  refine aw_mmax S n_ml_Rw_15 n_st_Jm_max n_ini_Jm n_co_Jm_max (by decide) (Nat.le_of_ble_eq_true rfl) (by decide) (by decide) d_Rw_addRange_12 ?_
  rw [if_neg (nI_pos hb)]
  refine aw_istore_5 S d_Rw_addRange_15 ?_
  exact loop _ b g xs rfl hb rfl hR hR2 aw_fr.rf
set_option maxRecDepth 100000 in
set_option maxHeartbeats 4000000 in
theorem ev_Rw_addText {l : Launch} {E : aw_E} {g : AH} {n : Nat} {a N : Nat} {xs : List Int32} (i : Nat) (hR : IsRow E g a N xs) (hi : i < 30) (hl : xs.length + (st_b i).length ≤ N) : EV l E 4 0 0 y_Rw_addText c_Rw_addText 3 none g n [.ref a, .ref (E.2.2.2.1 i)] (aw_Pv (fun g2 n2 => n2 = n ∧ IsRow E g2 a N (xs ++ st_b i) ∧ aw_fr g g2 a 2)) := by
  have hL := st_len i hi
  refine aw_enter "AddressTerms$Row" [some (.ref a), some (.ref (E.2.2.2.1 i)), none] (by decide) rfl rfl (Nat.le_of_ble_eq_true rfl) ?_
  intro p e s m args below meth c S hnm
  have loop : ∀ (q : List Int32) (k : Nat) (g1 : AH) (zs : List Int32), (st_b i).drop k = q → k ≤ (st_b i).length → zs ++ q = xs ++ st_b i → IsRow E g1 a N zs → aw_fr g g1 a 2 → AW p l e { frames := 4, cells := 0, slots := 0, locals := 40 * 4 } s m args below meth c E 3 (aw_Z E (aw_Pv (fun g2 n2 => n2 = n ∧ IsRow E g2 a N (xs ++ st_b i) ∧ aw_fr g g2 a 2)) below args s 0 0) 0 0 g1 n 2 [some (.ref a), some (.ref (E.2.2.2.1 i)), some (.int (nI k))] [] := by
    intro q
    induction q with
    | nil =>
      intro k g1 zs e hk hz hG hF
      have hk2 := List.drop_eq_nil_iff.mp e
      refine aw_iload_2 S d_Rw_addText_2 ?_
      refine aw_aload_1 S d_Rw_addText_3 ?_
      refine aw_callJiR S (ev_Js_length i hi) mb_Js_length mi_Js_length n_ml_Rw_36 d_Rw_addText_4 hi rfl rfl rfl ?_
      refine aw_icmp_ge S 25 d_Rw_addText_7 (by decide) (fun c7 => ?_) (fun c7 => ?_)
      · refine aw_vret S rfl d_Rw_addText_25 ?_ (by decide) (by decide)
        exact ⟨rfl, by rw [← hz, List.append_nil]; exact hG, hF⟩
      · exact absurd (nI_le hk2 (by omega)) c7
    | cons x q ih =>
      intro k g1 zs e hk hz hG hF
      have hk2 : k < (st_b i).length := by
        rcases Nat.lt_or_ge k (st_b i).length with h | h
        · exact h
        · rw [List.drop_eq_nil_iff.mpr h] at e; cases e
      rw [drop_cons hk2] at e
      injection e with e1 e2
      have hxb : sp_bt x := by rw [← e1]; exact st_bt i hi _ (getD_mem hk2)
      have hlen : zs.length < N := by
        have h1 := congrArg List.length hz
        rw [List.length_append, List.length_cons, List.length_append] at h1
        omega
      obtain ⟨s1, s2, s3, s4, s5, f3, s6, s7⟩ := id hG
      refine aw_iload_2 S d_Rw_addText_2 ?_
      refine aw_aload_1 S d_Rw_addText_3 ?_
      refine aw_callJiR S (ev_Js_length i hi) mb_Js_length mi_Js_length n_ml_Rw_36 d_Rw_addText_4 hi rfl rfl rfl ?_
      refine aw_icmp_ge S 25 d_Rw_addText_7 (by decide) (fun c7 => ?_) (fun c7 => ?_)
      · exact absurd c7 (nI_ge hk2 (by omega))
      · refine aw_aload_0 S d_Rw_addText_10 ?_
        refine aw_aload_1 S d_Rw_addText_11 ?_
        refine aw_iload_2 S d_Rw_addText_12 ?_
        refine aw_callJiR S (ev_Js_charAt i k hi hk2) mb_Js_charAt mi_Js_charAt n_ml_Rw_41 d_Rw_addText_13 hi rfl rfl rfl ?_
        rw [getD_0 hk2, e1]
        refine aw_callVv0 S (ev_Rw_add x hG hxb hlen) mb_Rw_add mi_Rw_add n_ml_Rw_32 d_Rw_addText_16 I_Rw s5 rfl rfl rfl (fun g2_ n2_ h_ => ?_)
        obtain ⟨rfl, hG3, hF3⟩ := h_
        refine aw_iinc_2 (v := nI (k + 1)) S d_Rw_addText_19 ((nI_succ k).symm) ?_
        refine aw_goto S 2 d_Rw_addText_22 (by decide) ?_
        exact ih (k + 1) g2_ (zs ++ [x]) e2 hk2 (by rw [← hz, List.append_assoc]; rfl) hG3 (hF.tr hF3)
  refine aw_iconst (v := 0) S d_Rw_addText_0 (by decide) ?_
  refine aw_istore_2 S d_Rw_addText_1 ?_
  exact loop _ 0 g xs rfl (Nat.zero_le _) rfl hR aw_fr.rf
