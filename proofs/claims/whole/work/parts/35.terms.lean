/-! terms and prefixes -/
theorem IsRow.cell {E : aw_E} {g : AH} {a N : Nat} {xs : List Int32} (h : IsRow E g a N xs) : g a = some (.inr (3, [.ref (a + 1), .int (nI xs.length)])) := h.2.2.2.2.1
theorem IsRow.base {E : aw_E} {g : AH} {a N : Nat} {xs : List Int32} (h : IsRow E g a N xs) : E.2.2.1 ≤ a := h.1
theorem IsRow.room {E : aw_E} {g : AH} {a N : Nat} {xs : List Int32} (h : IsRow E g a N xs) : xs.length ≤ N ∧ N < 1000 := ⟨h.2.1, h.2.2.1⟩
theorem IsRow.bts {E : aw_E} {g : AH} {a N : Nat} {xs : List Int32} (h : IsRow E g a N xs) : ∀ x ∈ xs, sp_bt x := h.2.2.2.1
def IsTm (E : aw_E) (g : AH) (a N1 N2 : Nat) (k s m : Int32) (xs tg : List Int32) : Prop :=
  E.2.2.1 ≤ a ∧ g a = some (.inr (4, [.ref (a + 1), .ref (a + 3), .int k, .int s, .int m])) ∧ IsRow E g (a + 1) N1 xs ∧ IsRow E g (a + 3) N2 tg
theorem IsTm.fr {E : aw_E} {g g2 : AH} {a N1 N2 b j : Nat} {k s m : Int32} {xs tg : List Int32} (h : IsTm E g a N1 N2 k s m xs tg) (hf : aw_fr g g2 b j) (hd : a + 5 ≤ b ∨ b + j ≤ a) : IsTm E g2 a N1 N2 k s m xs tg :=
  ⟨h.1, (hf a (by omega)).trans h.2.1, h.2.2.1.fr hf (by omega), h.2.2.2.fr hf (by omega)⟩
def sp_tord (k1 s1 m1 : Int32) (x1 t1 : List Int32) (k2 s2 m2 : Int32) (x2 t2 : List Int32) : Int32 :=
  if sp_ord (sp_rank k1) (sp_rank k2) = 0 then (if sp_ord m1 m2 = 0 then (if sp_cmp x1 x2 = 0 then (if sp_ord s1 s2 = 0 then sp_cmp t1 t2 else sp_ord s1 s2) else sp_cmp x1 x2) else sp_ord m1 m2) else sp_ord (sp_rank k1) (sp_rank k2)
def sp_safe (b : Int32) : Bool := sp_ld b || (decide (b = 95) || decide (b = 45))
def sp_tells (ys xs : List Int32) : Bool := sp_pre ys xs && (xs.drop ys.length).all sp_safe
def sp_better (la : Nat) (na : List Int32) (lb : Nat) (nb : List Int32) : Bool := if sp_ord (nI lb) (nI la) = 0 then decide (sp_cmp na nb < 0) else decide (sp_ord (nI lb) (nI la) < 0)
theorem i100 : (100 : Int32) = nI 100 := rfl
theorem i10 : (10 : Int32) = nI 10 := rfl
theorem i48 : (48 : Int32) = nI 48 := rfl
theorem bt_nI {j : Nat} (h : j < 128) : sp_bt (nI j) := byte_all2 j h
set_option maxRecDepth 100000 in
set_option maxHeartbeats 4000000 in
theorem ev_Rw_addNumber {l : Launch} {E : aw_E} {g : AH} {n : Nat} {a N : Nat} {xs : List Int32} (k : Nat) (hR : IsRow E g a N xs) (hk : k < 1000) (hl : xs.length + 3 ≤ N) : EV l E 1 0 0 y_Rw_addNumber c_Rw_addNumber 2 none g n [.ref a, .int (nI k)] (aw_Pv (fun g2 n2 => n2 = n ∧ IsRow E g2 a N (xs ++ sp_num k) ∧ aw_fr g g2 a 2)) := by
  have hN := hR.room
  refine aw_enter "AddressTerms$Row" [some (.ref a), some (.int (nI k))] (by decide) rfl rfl (Nat.le_of_ble_eq_true rfl) ?_
  intro p e s m args below meth c S hnm
  refine aw_iload_1 S d_Rw_addNumber_0 ?_
  refine aw_bipush (v := 100) S d_Rw_addNumber_1 (by decide) ?_
  refine aw_icmp_lt S 20 d_Rw_addNumber_3 (by decide) (fun c3 => ?_) (fun c3 => ?_)
  · rw [i100, nI_ltI (by omega) (by omega)] at c3
    refine aw_iload_1 S d_Rw_addNumber_20 ?_
    refine aw_bipush (v := 10) S d_Rw_addNumber_21 (by decide) ?_
    refine aw_icmp_lt S 40 d_Rw_addNumber_23 (by decide) (fun c23 => ?_) (fun c23 => ?_)
    · rw [i10, nI_ltI (by omega) (by omega)] at c23
      refine aw_aload_0 S d_Rw_addNumber_40 ?_
      refine aw_bipush (v := 48) S d_Rw_addNumber_41 (by decide) ?_
      refine aw_iload_1 S d_Rw_addNumber_43 ?_
      refine aw_bipush (v := 10) S d_Rw_addNumber_44 (by decide) ?_
      refine aw_irem S d_Rw_addNumber_46 (by decide) ?_
      rw [i10, pk_rem (by omega) (by omega) (by omega)]
      refine aw_iadd S d_Rw_addNumber_47 ?_
      rw [i48, nI_add]
      refine aw_callVv0 S (ev_Rw_add (nI (48 + k % 10)) hR (bt_nI (by omega)) (by first | omega | (simp; omega))) mb_Rw_add mi_Rw_add n_ml_Rw_32 d_Rw_addNumber_48 I_Rw hR.cell rfl rfl rfl (fun g2_ n2_ h_ => ?_)
      obtain ⟨rfl, h3, h3F⟩ := h_
      refine aw_vret S rfl d_Rw_addNumber_51 ?_ (by decide) (by decide)
      refine ⟨rfl, ?_, h3F⟩
      have e : sp_num k = [nI (48 + k % 10)] := by rw [sp_num, if_neg (by omega), if_neg (by omega)]; rfl
      rw [e]
      simpa using h3
    · rw [i10, nI_ltI (by omega) (by omega)] at c23
      refine aw_aload_0 S d_Rw_addNumber_26 ?_
      refine aw_bipush (v := 48) S d_Rw_addNumber_27 (by decide) ?_
      refine aw_iload_1 S d_Rw_addNumber_29 ?_
      refine aw_bipush (v := 10) S d_Rw_addNumber_30 (by decide) ?_
      refine aw_idiv S d_Rw_addNumber_32 (by decide) ?_
      rw [i10, pk_div (by omega) (by omega) (by omega)]
      refine aw_bipush (v := 10) S d_Rw_addNumber_33 (by decide) ?_
      refine aw_irem S d_Rw_addNumber_35 (by decide) ?_
      rw [i10, pk_rem (by omega) (by omega) (by omega)]
      refine aw_iadd S d_Rw_addNumber_36 ?_
      rw [i48, nI_add]
      refine aw_callVv0 S (ev_Rw_add (nI (48 + k / 10 % 10)) hR (bt_nI (by omega)) (by first | omega | (simp; omega))) mb_Rw_add mi_Rw_add n_ml_Rw_32 d_Rw_addNumber_37 I_Rw hR.cell rfl rfl rfl (fun g2_ n2_ h_ => ?_)
      obtain ⟨rfl, h2, h2F⟩ := h_
      refine aw_aload_0 S d_Rw_addNumber_40 ?_
      refine aw_bipush (v := 48) S d_Rw_addNumber_41 (by decide) ?_
      refine aw_iload_1 S d_Rw_addNumber_43 ?_
      refine aw_bipush (v := 10) S d_Rw_addNumber_44 (by decide) ?_
      refine aw_irem S d_Rw_addNumber_46 (by decide) ?_
      rw [i10, pk_rem (by omega) (by omega) (by omega)]
      refine aw_iadd S d_Rw_addNumber_47 ?_
      rw [i48, nI_add]
      refine aw_callVv0 S (ev_Rw_add (nI (48 + k % 10)) h2 (bt_nI (by omega)) (by first | omega | (simp; omega))) mb_Rw_add mi_Rw_add n_ml_Rw_32 d_Rw_addNumber_48 I_Rw h2.cell rfl rfl rfl (fun g2_ n2_ h_ => ?_)
      obtain ⟨rfl, h3, h3F⟩ := h_
      refine aw_vret S rfl d_Rw_addNumber_51 ?_ (by decide) (by decide)
      refine ⟨rfl, ?_, (h2F.tr h3F)⟩
      have e : sp_num k = [nI (48 + k / 10 % 10), nI (48 + k % 10)] := by rw [sp_num, if_neg (by omega), if_pos (by omega)]; rfl
      rw [e]
      simpa using h3
  · rw [i100, nI_ltI (by omega) (by omega)] at c3
    refine aw_aload_0 S d_Rw_addNumber_6 ?_
    refine aw_bipush (v := 48) S d_Rw_addNumber_7 (by decide) ?_
    refine aw_iload_1 S d_Rw_addNumber_9 ?_
    refine aw_bipush (v := 100) S d_Rw_addNumber_10 (by decide) ?_
    refine aw_idiv S d_Rw_addNumber_12 (by decide) ?_
    rw [i100, pk_div (by omega) (by omega) (by omega)]
    refine aw_bipush (v := 10) S d_Rw_addNumber_13 (by decide) ?_
    refine aw_irem S d_Rw_addNumber_15 (by decide) ?_
    rw [i10, pk_rem (by omega) (by omega) (by omega)]
    refine aw_iadd S d_Rw_addNumber_16 ?_
    rw [i48, nI_add]
    refine aw_callVv0 S (ev_Rw_add (nI (48 + k / 100 % 10)) hR (bt_nI (by omega)) (by first | omega | (simp; omega))) mb_Rw_add mi_Rw_add n_ml_Rw_32 d_Rw_addNumber_17 I_Rw hR.cell rfl rfl rfl (fun g2_ n2_ h_ => ?_)
    obtain ⟨rfl, h1, h1F⟩ := h_
    refine aw_iload_1 S d_Rw_addNumber_20 ?_
    refine aw_bipush (v := 10) S d_Rw_addNumber_21 (by decide) ?_
    refine aw_icmp_lt S 40 d_Rw_addNumber_23 (by decide) (fun c23 => ?_) (fun c23 => ?_)
    · rw [i10, nI_ltI (by omega) (by omega)] at c23
      omega
    · rw [i10, nI_ltI (by omega) (by omega)] at c23
      refine aw_aload_0 S d_Rw_addNumber_26 ?_
      refine aw_bipush (v := 48) S d_Rw_addNumber_27 (by decide) ?_
      refine aw_iload_1 S d_Rw_addNumber_29 ?_
      refine aw_bipush (v := 10) S d_Rw_addNumber_30 (by decide) ?_
      refine aw_idiv S d_Rw_addNumber_32 (by decide) ?_
      rw [i10, pk_div (by omega) (by omega) (by omega)]
      refine aw_bipush (v := 10) S d_Rw_addNumber_33 (by decide) ?_
      refine aw_irem S d_Rw_addNumber_35 (by decide) ?_
      rw [i10, pk_rem (by omega) (by omega) (by omega)]
      refine aw_iadd S d_Rw_addNumber_36 ?_
      rw [i48, nI_add]
      refine aw_callVv0 S (ev_Rw_add (nI (48 + k / 10 % 10)) h1 (bt_nI (by omega)) (by first | omega | (simp; omega))) mb_Rw_add mi_Rw_add n_ml_Rw_32 d_Rw_addNumber_37 I_Rw h1.cell rfl rfl rfl (fun g2_ n2_ h_ => ?_)
      obtain ⟨rfl, h2, h2F⟩ := h_
      refine aw_aload_0 S d_Rw_addNumber_40 ?_
      refine aw_bipush (v := 48) S d_Rw_addNumber_41 (by decide) ?_
      refine aw_iload_1 S d_Rw_addNumber_43 ?_
      refine aw_bipush (v := 10) S d_Rw_addNumber_44 (by decide) ?_
      refine aw_irem S d_Rw_addNumber_46 (by decide) ?_
      rw [i10, pk_rem (by omega) (by omega) (by omega)]
      refine aw_iadd S d_Rw_addNumber_47 ?_
      rw [i48, nI_add]
      refine aw_callVv0 S (ev_Rw_add (nI (48 + k % 10)) h2 (bt_nI (by omega)) (by first | omega | (simp; omega))) mb_Rw_add mi_Rw_add n_ml_Rw_32 d_Rw_addNumber_48 I_Rw h2.cell rfl rfl rfl (fun g2_ n2_ h_ => ?_)
      obtain ⟨rfl, h3, h3F⟩ := h_
      refine aw_vret S rfl d_Rw_addNumber_51 ?_ (by decide) (by decide)
      refine ⟨rfl, ?_, ((h1F.tr h2F).tr h3F)⟩
      have e : sp_num k = [nI (48 + k / 100 % 10), nI (48 + k / 10 % 10), nI (48 + k % 10)] := by rw [sp_num, if_pos (by omega), if_pos (by omega)]; rfl
      rw [e]
      simpa using h3
set_option maxRecDepth 100000 in
set_option maxHeartbeats 4000000 in
theorem ev_Rw_copy {l : Launch} {E : aw_E} {g : AH} {n : Nat} {a N : Nat} {xs : List Int32} (hR : IsRow E g a N xs) (hn : a + 2 ≤ n) : EV l E 2 2 1002 y_Rw_copy c_Rw_copy 2 (some (.object "AddressTerms$Row")) g n [.ref a] (aw_Pq (fun r_ g2 n2 => r_ = some n ∧ n2 = n + 2 ∧ IsRow E g2 n xs.length xs ∧ aw_fr g g2 n 2)) := by
  have hN := hR.room
  have hb := hR.base
  refine aw_enter "AddressTerms$Row" [some (.ref a), none] (by decide) rfl rfl (Nat.le_of_ble_eq_true rfl) ?_
  intro p e s m args below meth c S hnm
  refine aw_new S I_Rw n_cl_Rw_10 n_ib_Rw n_ini_Rw d_Rw_copy_0 [.null, .int 0] (fun j hj => by rcases (show j = 0 ∨ j = 1 by omega) with rfl | rfl <;> rfl) (by decide) (by decide) ?_
  refine aw_dup S d_Rw_copy_3 rfl ?_
  refine aw_aload_0 S d_Rw_copy_4 ?_
  refine aw_getf S I_Rw 1 (by rw [aw_up_n (by omega)]; exact hR.cell) n_fl_Rw_9 d_Rw_copy_5 rfl (by decide) ?_
  refine aw_callIvA S 2 1002 (ev_Rw_init (a := n) xs.length (by omega) (aw_up_s _ _ _) rfl (by omega)) mb_Rw_init n_im_Rw_init rfl n_ml_Rw_45 d_Rw_copy_8 rfl rfl (fun g2_ n2_ h_ => ?_)
  obtain ⟨rfl, h1, hF1⟩ := h_
  have hF0 : aw_fr g g2_ n 2 := fun x hx => (hF1 x hx).trans (aw_up_n (by omega))
  have hR1 : IsRow E g2_ a N xs := hR.fr hF0 (by omega)
  clear hF1
  refine aw_astore_1 S d_Rw_copy_11 ?_
  refine aw_aload_1 S d_Rw_copy_12 ?_
  refine aw_aload_0 S d_Rw_copy_13 ?_
  refine aw_iconst (v := 0) S d_Rw_copy_14 (by decide) ?_
  refine aw_topi nI_0.symm ?_
  refine aw_aload_0 S d_Rw_copy_15 ?_
  refine aw_getf S I_Rw 1 hR1.cell n_fl_Rw_9 d_Rw_copy_16 rfl (by decide) ?_
  refine aw_callVv0 S (ev_Rw_addRange 0 xs.length h1 hR1 (by omega) (by omega) (by omega) (by simp)) mb_Rw_addRange mi_Rw_addRange n_ml_Rw_47 d_Rw_copy_19 I_Rw h1.cell rfl rfl rfl (fun g2_ n2_ h_ => ?_)
  obtain ⟨rfl, h2, hF2⟩ := h_
  refine aw_aload_1 S d_Rw_copy_22 ?_
  refine aw_aret (v := some n) S _ rfl d_Rw_copy_23 ?_ (by decide) (by decide)
  refine ⟨rfl, rfl, ?_, hF0.tr hF2⟩
  simpa using h2
set_option maxRecDepth 100000 in
set_option maxHeartbeats 4000000 in
theorem ev_Tm_init {l : Launch} {E : aw_E} {g : AH} {n : Nat} {a : Nat} (k1 k2 : Nat) (hb0 : E.2.2.1 ≤ a) (ha : g a = some (.inr (4, [.null, .null, .int 0, .int 0, .int 0]))) (hn : n = a + 1) (hk1 : k1 < 1000) (hk2 : k2 < 1000) : EV l E 2 4 2004 y_Tm_init c_Tm_init 3 none g n [.ref a, .int (nI k1), .int (nI k2)] (aw_Pv (fun g2 n2 => n2 = a + 5 ∧ IsTm E g2 a k1 k2 1 0 0 [] [] ∧ aw_fr g g2 a 5)) := by
  subst hn
  refine aw_enter "AddressTerms$Term" [some (.ref a), some (.int (nI k1)), some (.int (nI k2))] (by decide) rfl rfl (Nat.le_of_ble_eq_true rfl) ?_
  intro p e s m args below meth c S hnm
  refine aw_aload_0 S d_Tm_init_0 ?_
  refine aw_objInit S n_ml_Tm_3 n_im_Jo_init n_co_Jo_init d_Tm_init_1 (by decide) (Nat.le_of_ble_eq_true rfl) ?_
  refine aw_aload_0 S d_Tm_init_4 ?_
  refine aw_iconst (v := 1) S d_Tm_init_5 (by decide) ?_
  refine aw_putf (fs2 := [.null, .null, .int 1, .int 0, .int 0]) S I_Tm 2 ha n_fl_Tm_9 d_Tm_init_6 rfl hb0 rfl rfl rfl (by decide) (Nat.le_of_ble_eq_true rfl) ?_
  refine aw_aload_0 S d_Tm_init_9 ?_
  refine aw_iconst (v := 0) S d_Tm_init_10 (by decide) ?_
  refine aw_putf (fs2 := [.null, .null, .int 1, .int 0, .int 0]) S I_Tm 3 (aw_up_s _ _ _) n_fl_Tm_15 d_Tm_init_11 rfl hb0 rfl rfl rfl (by decide) (Nat.le_of_ble_eq_true rfl) ?_
  refine aw_aload_0 S d_Tm_init_14 ?_
  refine aw_iconst (v := 0) S d_Tm_init_15 (by decide) ?_
  refine aw_putf (fs2 := [.null, .null, .int 1, .int 0, .int 0]) S I_Tm 4 (aw_up_s _ _ _) n_fl_Tm_18 d_Tm_init_16 rfl hb0 rfl rfl rfl (by decide) (Nat.le_of_ble_eq_true rfl) ?_
  refine aw_aload_0 S d_Tm_init_19 ?_
  refine aw_new S I_Rw n_cl_Tm_21 n_ib_Rw n_ini_Rw d_Tm_init_20 [.null, .int 0] (fun j hj => by rcases (show j = 0 ∨ j = 1 by omega) with rfl | rfl <;> rfl) (by decide) (by decide) ?_
  refine aw_dup S d_Tm_init_23 rfl ?_
  refine aw_iload_1 S d_Tm_init_24 ?_
  refine aw_callIvA S 2 1002 (ev_Rw_init (a := a + 1) k1 (by omega) (aw_up_s _ _ _) rfl hk1) mb_Rw_init n_im_Rw_init rfl n_ml_Tm_23 d_Tm_init_25 rfl rfl (fun g2_ n2_ h_ => ?_)
  obtain ⟨rfl, h1, hF1⟩ := h_
  refine aw_putF (fs2 := [.ref (a + 1), .null, .int 1, .int 0, .int 0]) S I_Tm 0 ((hF1 a (by omega)).trans (by rw [aw_up_n (by omega), aw_up_s])) n_fl_Tm_26 d_Tm_init_28 rfl hb0 rfl hnm rfl rfl rfl (by decide) (Nat.le_of_ble_eq_true rfl) ?_
  refine aw_aload_0 S d_Tm_init_31 ?_
  refine aw_new S I_Rw n_cl_Tm_21 n_ib_Rw n_ini_Rw d_Tm_init_32 [.null, .int 0] (fun j hj => by rcases (show j = 0 ∨ j = 1 by omega) with rfl | rfl <;> rfl) (by decide) (by decide) ?_
  refine aw_dup S d_Tm_init_35 rfl ?_
  refine aw_iload_2 S d_Tm_init_36 ?_
  refine aw_callIvA S 4 2004 (ev_Rw_init (a := a + 1 + 1 + 1) k2 (by omega) (aw_up_s _ _ _) rfl hk2) mb_Rw_init n_im_Rw_init rfl n_ml_Tm_23 d_Tm_init_37 rfl rfl (fun g2_ n2_ h_ => ?_)
  obtain ⟨rfl, h2, hF2⟩ := h_
  refine aw_putF (fs2 := [.ref (a + 1), .ref (a + 3), .int 1, .int 0, .int 0]) S I_Tm 1 ((hF2 a (by omega)).trans (by rw [aw_up_n (by omega), aw_up_s])) n_fl_Tm_30 d_Tm_init_40 rfl hb0 rfl hnm rfl rfl rfl (by decide) (Nat.le_of_ble_eq_true rfl) ?_
  refine aw_vret S rfl d_Tm_init_43 ?_ (by decide) (by decide)
  have e1 : ∀ x, x ≠ a → (x < a + 3 ∨ a + 5 ≤ x) → aw_up g2_ a (.inr (4, [.ref (a + 1), .ref (a + 3), .int 1, .int 0, .int 0])) x = g2_ x := fun x h _ => aw_up_n h
  refine ⟨rfl, ⟨hb0, aw_up_s _ _ _, ?_, ?_⟩, ?_⟩
  · refine h1.keep ?_ ?_
    · rw [aw_up_n (by omega), hF2 (a + 1) (by omega), aw_up_n (by omega), aw_up_n (by omega)]
    · rw [aw_up_n (by omega), hF2 (a + 1 + 1) (by omega), aw_up_n (by omega), aw_up_n (by omega)]
  · exact h2.keep (aw_up_n (by omega)) (aw_up_n (by omega))
  · intro x hx
    rw [aw_up_n (by omega), hF2 x (by omega), aw_up_n (by omega), aw_up_n (by omega), hF1 x (by omega), aw_up_n (by omega), aw_up_n (by omega), aw_up_n (by omega), aw_up_n (by omega)]
set_option maxRecDepth 100000 in
set_option maxHeartbeats 4000000 in
theorem ev_Tm_begin {l : Launch} {E : aw_E} {g : AH} {n : Nat} {a N1 N2 : Nat} {kd so nu : Int32} {xs tg : List Int32} (k2 s2 m2 : Int32) (hT : IsTm E g a N1 N2 kd so nu xs tg) : EV l E 1 0 0 y_Tm_begin c_Tm_begin 4 none g n [.ref a, .int k2, .int s2, .int m2] (aw_Pv (fun g2 n2 => n2 = n ∧ IsTm E g2 a N1 N2 k2 s2 m2 [] [] ∧ aw_fr g g2 a 5)) := by
  obtain ⟨t1, t2, t3, t4⟩ := id hT
  refine aw_enter "AddressTerms$Term" [some (.ref a), some (.int k2), some (.int s2), some (.int m2)] (by decide) rfl rfl (Nat.le_of_ble_eq_true rfl) ?_
  intro p e s m args below meth c S hnm
  refine aw_aload_0 S d_Tm_begin_0 ?_
  refine aw_iload_1 S d_Tm_begin_1 ?_
  refine aw_putf (fs2 := [.ref (a + 1), .ref (a + 3), .int k2, .int so, .int nu]) S I_Tm 2 t2 n_fl_Tm_9 d_Tm_begin_2 rfl t1 rfl rfl rfl (by decide) (Nat.le_of_ble_eq_true rfl) ?_
  refine aw_aload_0 S d_Tm_begin_5 ?_
  refine aw_iload_2 S d_Tm_begin_6 ?_
  refine aw_putf (fs2 := [.ref (a + 1), .ref (a + 3), .int k2, .int s2, .int nu]) S I_Tm 3 (aw_up_s _ _ _) n_fl_Tm_15 d_Tm_begin_7 rfl t1 rfl rfl rfl (by decide) (Nat.le_of_ble_eq_true rfl) ?_
  refine aw_aload_0 S d_Tm_begin_10 ?_
  refine aw_iload_3 S d_Tm_begin_11 ?_
  refine aw_putf (fs2 := [.ref (a + 1), .ref (a + 3), .int k2, .int s2, .int m2]) S I_Tm 4 (aw_up_s _ _ _) n_fl_Tm_18 d_Tm_begin_12 rfl t1 rfl rfl rfl (by decide) (Nat.le_of_ble_eq_true rfl) ?_
  refine aw_aload_0 S d_Tm_begin_15 ?_
  refine aw_getf S I_Tm 0 (aw_up_s _ _ _) n_fl_Tm_26 d_Tm_begin_16 rfl (by decide) ?_
  refine aw_iconst (v := 0) S d_Tm_begin_19 (by decide) ?_
  refine aw_topi nI_0.symm ?_
  refine aw_callVv0 S (ev_Rw_cutTo 0 (IsRow.keep t3 (by rw [aw_up_n (by omega), aw_up_n (by omega), aw_up_n (by omega)]) (by rw [aw_up_n (by omega), aw_up_n (by omega), aw_up_n (by omega)])) (by decide)) mb_Rw_cutTo mi_Rw_cutTo n_ml_Tm_33 d_Tm_begin_20 I_Rw (by rw [aw_up_n (by omega), aw_up_n (by omega), aw_up_n (by omega)]; exact t3.cell) rfl rfl rfl (fun g2_ n2_ h_ => ?_)
  obtain ⟨rfl, h1, hF1⟩ := h_
  refine aw_aload_0 S d_Tm_begin_23 ?_
  refine aw_getf S I_Tm 1 ((hF1 a (by omega)).trans (aw_up_s _ _ _)) n_fl_Tm_30 d_Tm_begin_24 rfl (by decide) ?_
  refine aw_iconst (v := 0) S d_Tm_begin_27 (by decide) ?_
  refine aw_topi nI_0.symm ?_
  refine aw_callVv0 S (ev_Rw_cutTo 0 (IsRow.keep t4 (by rw [hF1 _ (by omega), aw_up_n (by omega), aw_up_n (by omega), aw_up_n (by omega)]) (by rw [hF1 _ (by omega), aw_up_n (by omega), aw_up_n (by omega), aw_up_n (by omega)])) (by decide)) mb_Rw_cutTo mi_Rw_cutTo n_ml_Tm_33 d_Tm_begin_28 I_Rw (by rw [hF1 _ (by omega), aw_up_n (by omega), aw_up_n (by omega), aw_up_n (by omega)]; exact t4.cell) rfl rfl rfl (fun g2_ n2_ h_ => ?_)
  obtain ⟨rfl, h2, hF2⟩ := h_
  refine aw_vret S rfl d_Tm_begin_31 ?_ (by decide) (by decide)
  refine ⟨rfl, ⟨t1, ?_, ?_, ?_⟩, ?_⟩
  · rw [hF2 a (by omega), hF1 a (by omega), aw_up_s]
  · have := h1.fr hF2 (by omega)
    simpa using this
  · simpa using h2
  · intro x hx
    rw [hF2 x (by omega), hF1 x (by omega), aw_up_n (by omega), aw_up_n (by omega), aw_up_n (by omega)]
set_option maxRecDepth 100000 in
set_option maxHeartbeats 4000000 in
theorem ev_Tm_copy {l : Launch} {E : aw_E} {g : AH} {n : Nat} {a N1 N2 : Nat} {kd so nu : Int32} {xs tg : List Int32} (hT : IsTm E g a N1 N2 kd so nu xs tg) (hn : a + 5 ≤ n) : EV l E 3 5 2009 y_Tm_copy c_Tm_copy 2 (some (.object "AddressTerms$Term")) g n [.ref a] (aw_Pq (fun r_ g2 n2 => r_ = some n ∧ n2 = n + 5 ∧ IsTm E g2 n xs.length tg.length kd so nu xs tg ∧ aw_fr g g2 n 5)) := by
  have hb := hT.1
  have hN1 := hT.2.2.1.room
  have hN2 := hT.2.2.2.room
  refine aw_enter "AddressTerms$Term" [some (.ref a), none] (by decide) rfl rfl (Nat.le_of_ble_eq_true rfl) ?_
  intro p e s m args below meth c S hnm
  refine aw_new S I_Tm n_cl_Tm_10 n_ib_Tm n_ini_Tm d_Tm_copy_0 [.null, .null, .int 0, .int 0, .int 0] (fun j hj => by rcases (show j = 0 ∨ j = 1 ∨ j = 2 ∨ j = 3 ∨ j = 4 by omega) with rfl | rfl | rfl | rfl | rfl <;> rfl) (by decide) (by decide) ?_
  obtain ⟨g0, hg0⟩ : ∃ z, z = aw_up g n (.inr (4, [.null, .null, .int 0, .int 0, .int 0])) := ⟨_, rfl⟩
  rw [← hg0]
  have hF0 : aw_fr g g0 n 5 := fun x hx => by rw [hg0, aw_up_n (by omega)]
  have hc0 : g0 n = some (.inr (4, [.null, .null, .int 0, .int 0, .int 0])) := by rw [hg0, aw_up_s]
  have hT0 := hT.fr hF0 (by omega)
  refine aw_dup S d_Tm_copy_3 rfl ?_
  refine aw_aload_0 S d_Tm_copy_4 ?_
  refine aw_getf S I_Tm 0 hT0.2.1 n_fl_Tm_26 d_Tm_copy_5 rfl (by decide) ?_
  refine aw_callViR S (ev_Rw_size hT0.2.2.1) mb_Rw_size mi_Rw_size n_ml_Tm_36 d_Tm_copy_8 I_Rw hT0.2.2.1.cell rfl rfl rfl ?_
  refine aw_aload_0 S d_Tm_copy_11 ?_
  refine aw_getf S I_Tm 1 hT0.2.1 n_fl_Tm_30 d_Tm_copy_12 rfl (by decide) ?_
  refine aw_callViR S (ev_Rw_size hT0.2.2.2) mb_Rw_size mi_Rw_size n_ml_Tm_36 d_Tm_copy_15 I_Rw hT0.2.2.2.cell rfl rfl rfl ?_
  refine aw_callIvA S 5 2009 (ev_Tm_init (a := n) xs.length tg.length (by omega) hc0 rfl (by omega) (by omega)) mb_Tm_init n_im_Tm_init rfl n_ml_Tm_40 d_Tm_copy_18 rfl rfl (fun g2_ n2_ h_ => ?_)
  obtain ⟨rfl, h1, hF1⟩ := h_
  have hT1 := hT0.fr hF1 (by omega)
  refine aw_astore_1 S d_Tm_copy_21 ?_
  refine aw_aload_1 S d_Tm_copy_22 ?_
  refine aw_aload_0 S d_Tm_copy_23 ?_
  refine aw_getf S I_Tm 2 hT1.2.1 n_fl_Tm_9 d_Tm_copy_24 rfl (by decide) ?_
  refine aw_aload_0 S d_Tm_copy_27 ?_
  refine aw_getf S I_Tm 3 hT1.2.1 n_fl_Tm_15 d_Tm_copy_28 rfl (by decide) ?_
  refine aw_aload_0 S d_Tm_copy_31 ?_
  refine aw_getf S I_Tm 4 hT1.2.1 n_fl_Tm_18 d_Tm_copy_32 rfl (by decide) ?_
  refine aw_callVv0 S (ev_Tm_begin kd so nu h1) mb_Tm_begin mi_Tm_begin n_ml_Tm_43 d_Tm_copy_35 I_Tm h1.2.1 rfl rfl rfl (fun g2_ n2_ h_ => ?_)
  obtain ⟨rfl, h2, hF2⟩ := h_
  have hT2 := hT1.fr hF2 (by omega)
  refine aw_aload_1 S d_Tm_copy_38 ?_
  refine aw_getf S I_Tm 0 h2.2.1 n_fl_Tm_26 d_Tm_copy_39 rfl (by decide) ?_
  refine aw_aload_0 S d_Tm_copy_42 ?_
  refine aw_getf S I_Tm 0 hT2.2.1 n_fl_Tm_26 d_Tm_copy_43 rfl (by decide) ?_
  refine aw_iconst (v := 0) S d_Tm_copy_46 (by decide) ?_
  refine aw_topi nI_0.symm ?_
  refine aw_aload_0 S d_Tm_copy_47 ?_
  refine aw_getf S I_Tm 0 hT2.2.1 n_fl_Tm_26 d_Tm_copy_48 rfl (by decide) ?_
  refine aw_callViR S (ev_Rw_size hT2.2.2.1) mb_Rw_size mi_Rw_size n_ml_Tm_36 d_Tm_copy_51 I_Rw hT2.2.2.1.cell rfl rfl rfl ?_
  refine aw_callVv0 S (ev_Rw_addRange 0 xs.length h2.2.2.1 hT2.2.2.1 (by omega) (by omega) (by omega) (by simp)) mb_Rw_addRange mi_Rw_addRange n_ml_Tm_47 d_Tm_copy_54 I_Rw h2.2.2.1.cell rfl rfl rfl (fun g2_ n2_ h_ => ?_)
  obtain ⟨rfl, h3, hF3⟩ := h_
  have hT3 := hT2.fr (hF3.wide (b := n) (j := 5) (by omega) (by omega)) (by omega)
  have h4 := h2.2.2.2.fr hF3 (by omega)
  have hc4 := (hF3 n (by omega)).trans h2.2.1
  refine aw_aload_1 S d_Tm_copy_57 ?_
  refine aw_getf S I_Tm 1 hc4 n_fl_Tm_30 d_Tm_copy_58 rfl (by decide) ?_
  refine aw_aload_0 S d_Tm_copy_61 ?_
  refine aw_getf S I_Tm 1 hT3.2.1 n_fl_Tm_30 d_Tm_copy_62 rfl (by decide) ?_
  refine aw_iconst (v := 0) S d_Tm_copy_65 (by decide) ?_
  refine aw_topi nI_0.symm ?_
  refine aw_aload_0 S d_Tm_copy_66 ?_
  refine aw_getf S I_Tm 1 hT3.2.1 n_fl_Tm_30 d_Tm_copy_67 rfl (by decide) ?_
  refine aw_callViR S (ev_Rw_size hT3.2.2.2) mb_Rw_size mi_Rw_size n_ml_Tm_36 d_Tm_copy_70 I_Rw hT3.2.2.2.cell rfl rfl rfl ?_
  refine aw_callVv0 S (ev_Rw_addRange 0 tg.length h4 hT3.2.2.2 (by omega) (by omega) (by omega) (by simp)) mb_Rw_addRange mi_Rw_addRange n_ml_Tm_47 d_Tm_copy_73 I_Rw h4.cell rfl rfl rfl (fun g2_ n2_ h_ => ?_)
  obtain ⟨rfl, h5, hF5⟩ := h_
  refine aw_aload_1 S d_Tm_copy_76 ?_
  refine aw_aret (v := some n) S _ rfl d_Tm_copy_77 ?_ (by decide) (by decide)
  refine ⟨rfl, rfl, ⟨by omega, (hF5 n (by omega)).trans hc4, ?_, ?_⟩, ?_⟩
  · have := h3.fr hF5 (by omega)
    simpa using this
  · simpa using h5
  · exact (((hF0.tr hF1).tr hF2).tr (hF3.wide (by omega) (by omega))).tr (hF5.wide (by omega) (by omega))
set_option maxRecDepth 100000 in
set_option maxHeartbeats 4000000 in
theorem ev_Tm_rank {l : Launch} {E : aw_E} {g : AH} {n : Nat} {a N1 N2 : Nat} {kd so nu : Int32} {xs tg : List Int32} (hT : IsTm E g a N1 N2 kd so nu xs tg) : EV l E 0 0 0 y_Tm_rank c_Tm_rank 1 (some .int) g n [.ref a] (aw_Pi (fun r_ g2 n2 => r_ = sp_rank kd ∧ g2 = g ∧ n2 = n)) := by
  refine aw_enter "AddressTerms$Term" [some (.ref a)] (by decide) rfl rfl (Nat.le_of_ble_eq_true rfl) ?_
  intro p e s m args below meth c S hnm
  refine aw_aload_0 S d_Tm_rank_0 ?_
  refine aw_getf S I_Tm 2 hT.2.1 n_fl_Tm_9 d_Tm_rank_1 rfl (by decide) ?_
  refine aw_iconst (v := 1) S d_Tm_rank_4 (by decide) ?_
  refine aw_icmp_ne S 10 d_Tm_rank_5 (by decide) (fun c5 => ?_) (fun c5 => ?_)
  · refine aw_aload_0 S d_Tm_rank_10 ?_
    refine aw_getf S I_Tm 2 hT.2.1 n_fl_Tm_9 d_Tm_rank_11 rfl (by decide) ?_
    refine aw_if_ne S 21 d_Tm_rank_14 (by decide) (fun c14 => ?_) (fun c14 => ?_)
    · refine aw_iconst (v := 2) S d_Tm_rank_21 (by decide) ?_
      refine aw_iret S rfl d_Tm_rank_22 ?_ (by decide) (by decide)
      exact ⟨by simp_all [sp_rank], rfl, rfl⟩
    · refine aw_iconst (v := 1) S d_Tm_rank_17 (by decide) ?_
      refine aw_goto S 22 d_Tm_rank_18 (by decide) ?_
      refine aw_iret S rfl d_Tm_rank_22 ?_ (by decide) (by decide)
      exact ⟨by simp_all [sp_rank], rfl, rfl⟩
  · refine aw_iconst (v := 0) S d_Tm_rank_8 (by decide) ?_
    refine aw_iret S rfl d_Tm_rank_9 ?_ (by decide) (by decide)
    exact ⟨by simp_all [sp_rank], rfl, rfl⟩
set_option maxRecDepth 100000 in
set_option maxHeartbeats 4000000 in
theorem ev_Tm_order {l : Launch} {E : aw_E} {g : AH} {n : Nat} {a a2 N1 N2 N3 N4 : Nat} {kd so nu k2 s2 m2 : Int32} {xs tg xs2 tg2 : List Int32} (hT : IsTm E g a N1 N2 kd so nu xs tg) (hT2 : IsTm E g a2 N3 N4 k2 s2 m2 xs2 tg2) : EV l E 2 0 0 y_Tm_order c_Tm_order 3 (some .int) g n [.ref a, .ref a2] (aw_Pi (fun r_ g2 n2 => r_ = sp_tord kd so nu xs tg k2 s2 m2 xs2 tg2 ∧ g2 = g ∧ n2 = n)) := by
  refine aw_enter "AddressTerms$Term" [some (.ref a), some (.ref a2), none] (by decide) rfl rfl (Nat.le_of_ble_eq_true rfl) ?_
  intro p e s m args below meth c S hnm
  refine aw_aload_0 S d_Tm_order_0 ?_
  refine aw_callViR S (ev_Tm_rank hT) mb_Tm_rank mi_Tm_rank n_ml_Tm_51 d_Tm_order_1 I_Tm hT.2.1 rfl rfl rfl ?_
  refine aw_aload_1 S d_Tm_order_4 ?_
  refine aw_callViR S (ev_Tm_rank hT2) mb_Tm_rank mi_Tm_rank n_ml_Tm_51 d_Tm_order_5 I_Tm hT2.2.1 rfl rfl rfl ?_
  refine aw_callSNiR S (ev_At_orderOf (sp_rank kd) (sp_rank k2)) mb_At_orderOf n_st_At_orderOf (S.2.2.1.2.2.1 _ (List.mem_of_getElem? (i := 4) rfl)) d_Tm_order_8 rfl rfl ?_
  refine aw_istore_2 S d_Tm_order_11 ?_
  refine aw_iload_2 S d_Tm_order_12 ?_
  refine aw_if_ne S 28 d_Tm_order_13 (by decide) (fun c13 => ?_) (fun c13 => ?_)
  · refine aw_iload_2 S d_Tm_order_28 ?_
    refine aw_if_ne S 44 d_Tm_order_29 (by decide) (fun c29 => ?_) (fun c29 => ?_)
    · refine aw_iload_2 S d_Tm_order_44 ?_
      refine aw_if_ne S 60 d_Tm_order_45 (by decide) (fun c45 => ?_) (fun c45 => ?_)
      · refine aw_iload_2 S d_Tm_order_60 ?_
        refine aw_if_ne S 78 d_Tm_order_61 (by decide) (fun c61 => ?_) (fun c61 => ?_)
        · refine aw_iload_2 S d_Tm_order_78 ?_
          refine aw_iret S rfl d_Tm_order_79 ?_ (by decide) (by decide)
          exact ⟨by simp [sp_tord, *], rfl, rfl⟩
        · exact absurd c61 c45
      · exact absurd c45 c29
    · exact absurd c29 c13
  · refine aw_aload_0 S d_Tm_order_16 ?_
    refine aw_getf S I_Tm 4 hT.2.1 n_fl_Tm_18 d_Tm_order_17 rfl (by decide) ?_
    refine aw_aload_1 S d_Tm_order_20 ?_
    refine aw_getf S I_Tm 4 hT2.2.1 n_fl_Tm_18 d_Tm_order_21 rfl (by decide) ?_
    refine aw_callSNiR S (ev_At_orderOf nu m2) mb_At_orderOf n_st_At_orderOf (S.2.2.1.2.2.1 _ (List.mem_of_getElem? (i := 4) rfl)) d_Tm_order_24 rfl rfl ?_
    refine aw_istore_2 S d_Tm_order_27 ?_
    refine aw_iload_2 S d_Tm_order_28 ?_
    refine aw_if_ne S 44 d_Tm_order_29 (by decide) (fun c29 => ?_) (fun c29 => ?_)
    · refine aw_iload_2 S d_Tm_order_44 ?_
      refine aw_if_ne S 60 d_Tm_order_45 (by decide) (fun c45 => ?_) (fun c45 => ?_)
      · refine aw_iload_2 S d_Tm_order_60 ?_
        refine aw_if_ne S 78 d_Tm_order_61 (by decide) (fun c61 => ?_) (fun c61 => ?_)
        · refine aw_iload_2 S d_Tm_order_78 ?_
          refine aw_iret S rfl d_Tm_order_79 ?_ (by decide) (by decide)
          exact ⟨by simp [sp_tord, *], rfl, rfl⟩
        · exact absurd c61 c45
      · exact absurd c45 c29
    · refine aw_aload_0 S d_Tm_order_32 ?_
      refine aw_getf S I_Tm 0 hT.2.1 n_fl_Tm_26 d_Tm_order_33 rfl (by decide) ?_
      refine aw_aload_1 S d_Tm_order_36 ?_
      refine aw_getf S I_Tm 0 hT2.2.1 n_fl_Tm_26 d_Tm_order_37 rfl (by decide) ?_
      refine aw_callViR S (ev_Rw_order hT.2.2.1 hT2.2.2.1) mb_Rw_order mi_Rw_order n_ml_Tm_58 d_Tm_order_40 I_Rw hT.2.2.1.cell rfl rfl rfl ?_
      refine aw_istore_2 S d_Tm_order_43 ?_
      refine aw_iload_2 S d_Tm_order_44 ?_
      refine aw_if_ne S 60 d_Tm_order_45 (by decide) (fun c45 => ?_) (fun c45 => ?_)
      · refine aw_iload_2 S d_Tm_order_60 ?_
        refine aw_if_ne S 78 d_Tm_order_61 (by decide) (fun c61 => ?_) (fun c61 => ?_)
        · refine aw_iload_2 S d_Tm_order_78 ?_
          refine aw_iret S rfl d_Tm_order_79 ?_ (by decide) (by decide)
          exact ⟨by simp [sp_tord, *], rfl, rfl⟩
        · exact absurd c61 c45
      · refine aw_aload_0 S d_Tm_order_48 ?_
        refine aw_getf S I_Tm 3 hT.2.1 n_fl_Tm_15 d_Tm_order_49 rfl (by decide) ?_
        refine aw_aload_1 S d_Tm_order_52 ?_
        refine aw_getf S I_Tm 3 hT2.2.1 n_fl_Tm_15 d_Tm_order_53 rfl (by decide) ?_
        refine aw_callSNiR S (ev_At_orderOf so s2) mb_At_orderOf n_st_At_orderOf (S.2.2.1.2.2.1 _ (List.mem_of_getElem? (i := 4) rfl)) d_Tm_order_56 rfl rfl ?_
        refine aw_istore_2 S d_Tm_order_59 ?_
        refine aw_iload_2 S d_Tm_order_60 ?_
        refine aw_if_ne S 78 d_Tm_order_61 (by decide) (fun c61 => ?_) (fun c61 => ?_)
        · refine aw_iload_2 S d_Tm_order_78 ?_
          refine aw_iret S rfl d_Tm_order_79 ?_ (by decide) (by decide)
          exact ⟨by simp [sp_tord, *], rfl, rfl⟩
        · refine aw_aload_0 S d_Tm_order_64 ?_
          refine aw_getf S I_Tm 1 hT.2.1 n_fl_Tm_30 d_Tm_order_65 rfl (by decide) ?_
          refine aw_aload_1 S d_Tm_order_68 ?_
          refine aw_getf S I_Tm 1 hT2.2.1 n_fl_Tm_30 d_Tm_order_69 rfl (by decide) ?_
          refine aw_callViR S (ev_Rw_order hT.2.2.2 hT2.2.2.2) mb_Rw_order mi_Rw_order n_ml_Tm_58 d_Tm_order_72 I_Rw hT.2.2.2.cell rfl rfl rfl ?_
          refine aw_goto S 79 d_Tm_order_75 (by decide) ?_
          refine aw_iret S rfl d_Tm_order_79 ?_ (by decide) (by decide)
          exact ⟨by simp [sp_tord, *], rfl, rfl⟩
