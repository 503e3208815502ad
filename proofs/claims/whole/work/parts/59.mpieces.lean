/-! the reference: pieces of resolving -/
theorem seg_step {rs : List Int32} {a k : Nat} (h1 : a ≤ k) (h2 : k < rs.length) : (rs.take (k + 1)).drop a = (rs.take k).drop a ++ [rs.getD k (-1)] := by
  rw [take_step h2, List.drop_append_of_le_length (by rw [List.length_take]; omega)]
theorem seg_nil {rs : List Int32} {a : Nat} : (rs.take a).drop a = [] := List.drop_eq_nil_iff.mpr (by rw [List.length_take]; omega)
theorem seg_len {rs : List Int32} {a b : Nat} (h : b ≤ rs.length) : ((rs.take b).drop a).length = b - a := by rw [List.length_drop, List.length_take]; omega
set_option maxRecDepth 100000 in
set_option maxHeartbeats 4000000 in
theorem ev_Md_addRef {l : Launch} {E : aw_E} {g : AH} {n : Nat} {g0 : AH} {d : Nat} {v : Nat → Int32} {f : Nat → Nat → Int32} {xs rs : List Int32} (a b : Nat) (hM : mG E g0 d v f g) (h4 : v 4 = nI xs.length) (hL : mL (f 10) 0 xs) (hR : mL (f 13) 0 rs) (hr : rs.length ≤ 100) (hab : a ≤ b) (hbr : b ≤ rs.length) (hfit : xs.length + (b - a) ≤ 400) : EV l E 1 0 0 y_Md_addRef c_Md_addRef 4 none g n [.ref d, .int (nI a), .int (nI b)] (aw_Pv (fun g2 n2 => n2 = n ∧ ∃ v2 f2, mG E g0 d v2 f2 g2 ∧ mfr [4] [10] v v2 f f2 ∧ v2 4 = nI (xs ++ (rs.take b).drop a).length ∧ mL (f2 10) 0 (xs ++ (rs.take b).drop a))) := by
  refine aw_enter "AddressTermsModel" [some (.ref d), some (.int (nI a)), some (.int (nI b)), none] (by decide) rfl rfl (Nat.le_of_ble_eq_true rfl) ?_
  intro p e s m args below meth c S hnm
  have loop : ∀ (j k : Nat) (v1 : Nat → Int32) (f1 : Nat → Nat → Int32) (g : AH), k + j = b → a ≤ k → v1 4 = nI (xs ++ (rs.take k).drop a).length → mL (f1 10) 0 (xs ++ (rs.take k).drop a) → mfr [4] [10] v v1 f f1 → mG E g0 d v1 f1 g → AW p l e { frames := 1, cells := 0, slots := 0, locals := 40 * 1 } s m args below meth c E 4 (aw_Z E (aw_Pv (fun g2 n2 => n2 = n ∧ ∃ v2 f2, mG E g0 d v2 f2 g2 ∧ mfr [4] [10] v v2 f f2 ∧ v2 4 = nI (xs ++ (rs.take b).drop a).length ∧ mL (f2 10) 0 (xs ++ (rs.take b).drop a))) below args s 0 0) 0 0 g n 2 [some (.ref d), some (.int (nI a)), some (.int (nI b)), some (.int (nI k))] [] := by
    intro j
    induction j with
    | zero =>
      intro k v1 f1 g hk hak h4 hL hf hM
      have hk : k = b := by omega
      subst hk
      refine aw_iload_3 S d_Md_addRef_2 ?_
      refine aw_iload_2 S d_Md_addRef_3 ?_
      refine aw_icmp_ge S 23 d_Md_addRef_4 (by decide) (fun c4 => ?_) (fun c4 => ?_)
      · refine aw_vret S rfl d_Md_addRef_23 ?_ (by decide) (by decide)
        exact ⟨rfl, v1, f1, hM, hf, h4, hL⟩
      · exact absurd (nI_le (Nat.le_refl _) (by omega)) c4
    | succ j ih =>
      intro k v1 f1 g hk hak h4 hL hf hM
      have hlen := seg_len (rs := rs) (a := a) (b := k) (by omega)
      refine aw_iload_3 S d_Md_addRef_2 ?_
      refine aw_iload_2 S d_Md_addRef_3 ?_
      refine aw_icmp_ge S 23 d_Md_addRef_4 (by decide) (fun c4 => ?_) (fun c4 => ?_)
      · exact absurd c4 (nI_ge (by omega) (by omega))
      · refine aw_aload_0 S d_Md_addRef_7 ?_
        refine aw_aload_0 S d_Md_addRef_8 ?_
        refine aw_getf S I_Md 21 hM.2.1 n_fl_Md_53 d_Md_addRef_9 rfl (by decide) ?_
        refine aw_iload_3 S d_Md_addRef_12 ?_
        refine aw_mld S hM 13 (by decide) ((congrFun (hf.2 13 (by decide)) _).trans (hR.at0 (by omega))) (show _ < 100 by omega) d_Md_addRef_13 ?_
        refine aw_callVv0 S (ev_Md_add (rs.getD k (-1)) hM h4 hL (by rw [List.length_append, hlen]; omega)) mb_Md_add mi_Md_add n_ml_Md_146 d_Md_addRef_14 I_Md hM.2.1 rfl rfl rfl (fun g2_ n2_ h_ => ?_)
        obtain ⟨rfl, v3, f3, hM, hf3, h4, hL⟩ := h_
        rw [List.append_assoc, ← seg_step hak (by omega)] at h4 hL
        refine aw_iinc_3 (v := nI (k + 1)) S d_Md_addRef_17 ((nI_succ (k)).symm) ?_
        refine aw_goto S 2 d_Md_addRef_20 (by decide) ?_
        exact ih (k + 1) v3 f3 _ (by omega) (by omega) h4 hL (hf.tr hf3) hM
  refine aw_iload_1 S d_Md_addRef_0 ?_
  refine aw_istore_3 S d_Md_addRef_1 ?_
  exact loop (b - a) a v f _ (by omega) (Nat.le_refl _) (by rw [seg_nil, List.append_nil]; exact h4) (by rw [seg_nil, List.append_nil]; exact hL) mfr.rf hM
set_option maxRecDepth 100000 in
set_option maxHeartbeats 4000000 in
theorem ev_Md_addBase {l : Launch} {E : aw_E} {g : AH} {n : Nat} {g0 : AH} {d : Nat} {v : Nat → Int32} {f : Nat → Nat → Int32} {xs rs : List Int32} (a b : Nat) (t : Nat) (hM : mG E g0 d v f g) (h4 : v 4 = nI xs.length) (hL : mL (f 10) 0 xs) (hb : v 2 = nI t) (ht : t < 60) (hB : mL (f 4) (100 * t) rs) (hr : rs.length ≤ 100) (hab : a ≤ b) (hbr : b ≤ rs.length) (hfit : xs.length + (b - a) ≤ 400) : EV l E 1 0 0 y_Md_addBase c_Md_addBase 4 none g n [.ref d, .int (nI a), .int (nI b)] (aw_Pv (fun g2 n2 => n2 = n ∧ ∃ v2 f2, mG E g0 d v2 f2 g2 ∧ mfr [4] [10] v v2 f f2 ∧ v2 4 = nI (xs ++ (rs.take b).drop a).length ∧ mL (f2 10) 0 (xs ++ (rs.take b).drop a))) := by
  refine aw_enter "AddressTermsModel" [some (.ref d), some (.int (nI a)), some (.int (nI b)), none] (by decide) rfl rfl (Nat.le_of_ble_eq_true rfl) ?_
  intro p e s m args below meth c S hnm
  have loop : ∀ (j k : Nat) (v1 : Nat → Int32) (f1 : Nat → Nat → Int32) (g : AH), k + j = b → a ≤ k → v1 4 = nI (xs ++ (rs.take k).drop a).length → mL (f1 10) 0 (xs ++ (rs.take k).drop a) → mfr [4] [10] v v1 f f1 → mG E g0 d v1 f1 g → AW p l e { frames := 1, cells := 0, slots := 0, locals := 40 * 1 } s m args below meth c E 4 (aw_Z E (aw_Pv (fun g2 n2 => n2 = n ∧ ∃ v2 f2, mG E g0 d v2 f2 g2 ∧ mfr [4] [10] v v2 f f2 ∧ v2 4 = nI (xs ++ (rs.take b).drop a).length ∧ mL (f2 10) 0 (xs ++ (rs.take b).drop a))) below args s 0 0) 0 0 g n 2 [some (.ref d), some (.int (nI a)), some (.int (nI b)), some (.int (nI k))] [] := by
    intro j
    induction j with
    | zero =>
      intro k v1 f1 g hk hak h4 hL hf hM
      have hk : k = b := by omega
      subst hk
      refine aw_iload_3 S d_Md_addBase_2 ?_
      refine aw_iload_2 S d_Md_addBase_3 ?_
      refine aw_icmp_ge S 31 d_Md_addBase_4 (by decide) (fun c4 => ?_) (fun c4 => ?_)
      · refine aw_vret S rfl d_Md_addBase_31 ?_ (by decide) (by decide)
        exact ⟨rfl, v1, f1, hM, hf, h4, hL⟩
      · exact absurd (nI_le (Nat.le_refl _) (by omega)) c4
    | succ j ih =>
      intro k v1 f1 g hk hak h4 hL hf hM
      have hlen := seg_len (rs := rs) (a := a) (b := k) (by omega)
      refine aw_iload_3 S d_Md_addBase_2 ?_
      refine aw_iload_2 S d_Md_addBase_3 ?_
      refine aw_icmp_ge S 31 d_Md_addBase_4 (by decide) (fun c4 => ?_) (fun c4 => ?_)
      · exact absurd c4 (nI_ge (by omega) (by omega))
      · refine aw_aload_0 S d_Md_addBase_7 ?_
        refine aw_aload_0 S d_Md_addBase_8 ?_
        refine aw_getf S I_Md 6 hM.2.1 n_fl_Md_22 d_Md_addBase_9 rfl (by decide) ?_
        refine aw_bipush (v := 100) S d_Md_addBase_12 (by decide) ?_
        refine aw_aload_0 S d_Md_addBase_14 ?_
        refine aw_getf S I_Md 9 hM.2.1 n_fl_Md_31 d_Md_addBase_15 rfl (by decide) ?_
        refine aw_topi ((hf.1 2 (by decide)).trans hb) ?_
        refine aw_imul S d_Md_addBase_18 ?_
        refine aw_iload_3 S d_Md_addBase_19 ?_
        refine aw_iadd S d_Md_addBase_20 ?_
        refine aw_topi (ix100 (t) (k)) ?_
        refine aw_mld S hM 4 (by decide) ((congrFun (hf.2 4 (by decide)) _).trans (hB k (by omega))) (show _ < 6000 by omega) d_Md_addBase_21 ?_
        refine aw_callVv0 S (ev_Md_add (rs.getD k (-1)) hM h4 hL (by rw [List.length_append, hlen]; omega)) mb_Md_add mi_Md_add n_ml_Md_146 d_Md_addBase_22 I_Md hM.2.1 rfl rfl rfl (fun g2_ n2_ h_ => ?_)
        obtain ⟨rfl, v3, f3, hM, hf3, h4, hL⟩ := h_
        rw [List.append_assoc, ← seg_step hak (by omega)] at h4 hL
        refine aw_iinc_3 (v := nI (k + 1)) S d_Md_addBase_25 ((nI_succ (k)).symm) ?_
        refine aw_goto S 2 d_Md_addBase_28 (by decide) ?_
        exact ih (k + 1) v3 f3 _ (by omega) (by omega) h4 hL (hf.tr hf3) hM
  refine aw_iload_1 S d_Md_addBase_0 ?_
  refine aw_istore_3 S d_Md_addBase_1 ?_
  exact loop (b - a) a v f _ (by omega) (Nat.le_refl _) (by rw [seg_nil, List.append_nil]; exact h4) (by rw [seg_nil, List.append_nil]; exact hL) mfr.rf hM
set_option maxRecDepth 100000 in
set_option maxHeartbeats 4000000 in
theorem ev_Md_feed {l : Launch} {E : aw_E} {g : AH} {n : Nat} {g0 : AH} {d : Nat} {v : Nat → Int32} {f : Nat → Nat → Int32} {is rs : List Int32} (a b : Nat) (hM : mG E g0 d v f g) (h8 : v 8 = nI is.length) (hI : mL (f 18) 0 is) (hR : mL (f 13) 0 rs) (hr : rs.length ≤ 100) (hab : a ≤ b) (hbr : b ≤ rs.length) (hfit : is.length + (b - a) ≤ 300) : EV l E 0 0 0 y_Md_feed c_Md_feed 4 none g n [.ref d, .int (nI a), .int (nI b)] (aw_Pv (fun g2 n2 => n2 = n ∧ ∃ v2 f2, mG E g0 d v2 f2 g2 ∧ mfr [8] [18] v v2 f f2 ∧ v2 8 = nI (is ++ (rs.take b).drop a).length ∧ mL (f2 18) 0 (is ++ (rs.take b).drop a))) := by
  refine aw_enter "AddressTermsModel" [some (.ref d), some (.int (nI a)), some (.int (nI b)), none] (by decide) rfl rfl (Nat.le_of_ble_eq_true rfl) ?_
  intro p e s m args below meth c S hnm
  have loop : ∀ (j k : Nat) (v1 : Nat → Int32) (f1 : Nat → Nat → Int32) (g : AH), k + j = b → a ≤ k → v1 8 = nI (is ++ (rs.take k).drop a).length → mL (f1 18) 0 (is ++ (rs.take k).drop a) → mfr [8] [18] v v1 f f1 → mG E g0 d v1 f1 g → AW p l e { frames := 0, cells := 0, slots := 0, locals := 40 * 0 } s m args below meth c E 4 (aw_Z E (aw_Pv (fun g2 n2 => n2 = n ∧ ∃ v2 f2, mG E g0 d v2 f2 g2 ∧ mfr [8] [18] v v2 f f2 ∧ v2 8 = nI (is ++ (rs.take b).drop a).length ∧ mL (f2 18) 0 (is ++ (rs.take b).drop a))) below args s 0 0) 0 0 g n 2 [some (.ref d), some (.int (nI a)), some (.int (nI b)), some (.int (nI k))] [] := by
    intro j
    induction j with
    | zero =>
      intro k v1 f1 g hk hak h4 hL hf hM
      have hk : k = b := by omega
      subst hk
      refine aw_iload_3 S d_Md_feed_2 ?_
      refine aw_iload_2 S d_Md_feed_3 ?_
      refine aw_icmp_ge S 38 d_Md_feed_4 (by decide) (fun c4 => ?_) (fun c4 => ?_)
      · refine aw_vret S rfl d_Md_feed_38 ?_ (by decide) (by decide)
        exact ⟨rfl, v1, f1, hM, hf, h4, hL⟩
      · exact absurd (nI_le (Nat.le_refl _) (by omega)) c4
    | succ j ih =>
      intro k v1 f1 g hk hak h4 hL hf hM
      have hlen : (is ++ (rs.take k).drop a).length = is.length + (k - a) := by rw [List.length_append, seg_len (by omega)]
      refine aw_iload_3 S d_Md_feed_2 ?_
      refine aw_iload_2 S d_Md_feed_3 ?_
      refine aw_icmp_ge S 38 d_Md_feed_4 (by decide) (fun c4 => ?_) (fun c4 => ?_)
      · exact absurd c4 (nI_ge (by omega) (by omega))
      · refine aw_aload_0 S d_Md_feed_7 ?_
        refine aw_getf S I_Md 27 hM.2.1 n_fl_Md_68 d_Md_feed_8 rfl (by decide) ?_
        refine aw_aload_0 S d_Md_feed_11 ?_
        refine aw_getf S I_Md 26 hM.2.1 n_fl_Md_129 d_Md_feed_12 rfl (by decide) ?_
        refine aw_topi h4 ?_
        refine aw_aload_0 S d_Md_feed_15 ?_
        refine aw_getf S I_Md 21 hM.2.1 n_fl_Md_53 d_Md_feed_16 rfl (by decide) ?_
        refine aw_iload_3 S d_Md_feed_19 ?_
        refine aw_mld S hM 13 (by decide) ((congrFun (hf.2 13 (by decide)) _).trans (hR.at0 (by omega))) (show _ < 100 by omega) d_Md_feed_20 ?_
        refine aw_mst S hM 18 (by decide) (show _ < 300 by omega) d_Md_feed_21 (fun g_ hM => ?_)
        refine aw_aload_0 S d_Md_feed_22 ?_
        refine aw_dup S d_Md_feed_23 rfl ?_
        refine aw_getf S I_Md 26 hM.2.1 n_fl_Md_129 d_Md_feed_24 rfl (by decide) ?_
        refine aw_topi h4 ?_
        refine aw_iconst (v := 1) S d_Md_feed_27 (by decide) ?_
        refine aw_iadd S d_Md_feed_28 ?_
        refine aw_topi (nI_1 _) ?_
        refine aw_mput8 S hM n_fl_Md_129 d_Md_feed_29 (fun g_ hM => ?_)
        refine aw_iinc_3 (v := nI (k + 1)) S d_Md_feed_32 ((nI_succ (k)).symm) ?_
        refine aw_goto S 2 d_Md_feed_35 (by decide) ?_
        refine ih (k + 1) _ _ _ (by omega) (by omega) ?_ ?_ ((hf.f (by decide)).v (by decide)) hM
        · rw [seg_step hak (by omega), ← List.append_assoc, List.length_append (bs := [_])]; rfl
        · rw [seg_step hak (by omega), ← List.append_assoc]; exact hL.snoc0
  refine aw_iload_1 S d_Md_feed_0 ?_
  refine aw_istore_3 S d_Md_feed_1 ?_
  exact loop (b - a) a v f _ (by omega) (Nat.le_refl _) (by rw [seg_nil, List.append_nil]; exact h8) (by rw [seg_nil, List.append_nil]; exact hI) mfr.rf hM
def bq (xs : List Int32) (i : Nat) (a : Int32) : Bool := decide (a < 0) || decide (xs.getD i (-1) = a)
def mbg (xs : List Int32) (a b q z : Int32) : Bool := bq xs 0 a && (bq xs 1 b && (bq xs 2 q && bq xs 3 z))
theorem bq_neg {xs : List Int32} {i : Nat} {a : Int32} (h : a < 0) : bq xs i a = true := by rw [bq, decide_eq_true h, Bool.true_or]
theorem bq_eq {xs : List Int32} {i : Nat} {a : Int32} (h : xs.getD i (-1) = a) : bq xs i a = true := by rw [bq, decide_eq_true h, Bool.or_true]
theorem bq_ne {xs : List Int32} {i : Nat} {a : Int32} (h0 : ¬ a < 0) (h : ¬ xs.getD i (-1) = a) : bq xs i a = false := by rw [bq, decide_eq_false h0, decide_eq_false h]; rfl
theorem bq_sh {xs : List Int32} {i : Nat} {a : Int32} (h0 : ¬ a < 0) (h : xs.length ≤ i) : bq xs i a = false := bq_ne h0 (by rw [getD_out h]; exact fun z => h0 (by rw [← z]; decide))
theorem mbgF {xs : List Int32} {a b q z : Int32} (h : bq xs 0 a = false ∨ bq xs 1 b = false ∨ bq xs 2 q = false ∨ bq xs 3 z = false) : mbg xs a b q z = false := by
  unfold mbg
  rcases h with h | h | h | h <;> rw [h] <;> simp
set_option maxRecDepth 100000 in
set_option maxHeartbeats 4000000 in
theorem ev_Md_begins {l : Launch} {E : aw_E} {g : AH} {n : Nat} {g0 : AH} {d : Nat} {v : Nat → Int32} {f : Nat → Nat → Int32} {xs : List Int32} (a0 a1 a2 a3 : Int32) (hM : mG E g0 d v f g) (h8 : v 8 = nI xs.length) (hI : mL (f 18) 0 xs) (hx : xs.length ≤ 300) : EV l E 0 0 0 y_Md_begins c_Md_begins 5 (some .boolean) g n [.ref d, .int a0, .int a1, .int a2, .int a3] (aw_Pi (fun r_ g2 n2 => r_ = aw_b (mbg xs a0 a1 a2 a3) ∧ g2 = g ∧ n2 = n)) := by
  refine aw_enter "AddressTermsModel" [some (.ref d), some (.int a0), some (.int a1), some (.int a2), some (.int a3)] (by decide) rfl rfl (Nat.le_of_ble_eq_true rfl) ?_
  intro p e s m args below meth c S hnm
  have s93 : mbg xs a0 a1 a2 a3 = false → AW p l e { frames := 0, cells := 0, slots := 0, locals := 40 * 0 } s m args below meth c E 5 (aw_Z E (aw_Pi (fun r_ g2 n2 => r_ = aw_b (mbg xs a0 a1 a2 a3) ∧ g2 = g ∧ n2 = n)) below args s 0 0) 0 0 g n 93 [some (.ref d), some (.int a0), some (.int a1), some (.int a2), some (.int a3)] [] := by
    intro hb
    refine aw_iconst (v := 0) S d_Md_begins_93 (by decide) ?_
    refine aw_zret S .boolean rfl (by rfl) d_Md_begins_94 ?_ (by decide) (by decide)
    exact ⟨aw_b0 hb, rfl, rfl⟩
  have s89 : bq xs 0 a0 = true → bq xs 1 a1 = true → bq xs 2 a2 = true → bq xs 3 a3 = true → AW p l e { frames := 0, cells := 0, slots := 0, locals := 40 * 0 } s m args below meth c E 5 (aw_Z E (aw_Pi (fun r_ g2 n2 => r_ = aw_b (mbg xs a0 a1 a2 a3) ∧ g2 = g ∧ n2 = n)) below args s 0 0) 0 0 g n 89 [some (.ref d), some (.int a0), some (.int a1), some (.int a2), some (.int a3)] [] := by
    intro e0 e1 e2 e3
    refine aw_iconst (v := 1) S d_Md_begins_89 (by decide) ?_
    refine aw_goto S 94 d_Md_begins_90 (by decide) ?_
    refine aw_zret S .boolean rfl (by rfl) d_Md_begins_94 ?_ (by decide) (by decide)
    exact ⟨aw_b1 (by unfold mbg; rw [e0, e1, e2, e3]; rfl), rfl, rfl⟩
  have s65 : bq xs 0 a0 = true → bq xs 1 a1 = true → bq xs 2 a2 = true → AW p l e { frames := 0, cells := 0, slots := 0, locals := 40 * 0 } s m args below meth c E 5 (aw_Z E (aw_Pi (fun r_ g2 n2 => r_ = aw_b (mbg xs a0 a1 a2 a3) ∧ g2 = g ∧ n2 = n)) below args s 0 0) 0 0 g n 65 [some (.ref d), some (.int a0), some (.int a1), some (.int a2), some (.int a3)] [] := by
    intro e0 e1 e2
    refine aw_iload_4 S d_Md_begins_65 ?_
    refine aw_if_lt S 89 d_Md_begins_67 (by decide) (fun c67 => ?_) (fun c67 => ?_)
    · exact s89 e0 e1 e2 (bq_neg c67)
    · refine aw_aload_0 S d_Md_begins_70 ?_
      refine aw_getf S I_Md 26 hM.2.1 n_fl_Md_129 d_Md_begins_71 rfl (by decide) ?_
      refine aw_topi h8 ?_
      refine aw_iconst (v := 3) S d_Md_begins_74 (by decide) ?_
      refine aw_icmp_le S 93 d_Md_begins_75 (by decide) (fun c75 => ?_) (fun c75 => ?_)
      · exact s93 (mbgF (Or.inr (Or.inr (Or.inr (bq_sh c67 ((nI_leI (b := 3) (by omega) (by omega)).mp c75))))))
      · refine aw_aload_0 S d_Md_begins_78 ?_
        refine aw_getf S I_Md 27 hM.2.1 n_fl_Md_68 d_Md_begins_79 rfl (by decide) ?_
        refine aw_iconst (v := 3) S d_Md_begins_82 (by decide) ?_
        refine aw_mld (j := 3) S hM 18 (by decide) (hI.at0 (Nat.not_le.mp (fun z => c75 (nI_le (b := 3) z (by omega))))) (show _ < 300 by omega) d_Md_begins_83 ?_
        refine aw_iload_4 S d_Md_begins_84 ?_
        refine aw_icmp_ne S 93 d_Md_begins_86 (by decide) (fun c86 => ?_) (fun c86 => ?_)
        · exact s93 (mbgF (Or.inr (Or.inr (Or.inr (bq_ne c67 c86)))))
        · exact s89 e0 e1 e2 (bq_eq c86)
  have s43 : bq xs 0 a0 = true → bq xs 1 a1 = true → AW p l e { frames := 0, cells := 0, slots := 0, locals := 40 * 0 } s m args below meth c E 5 (aw_Z E (aw_Pi (fun r_ g2 n2 => r_ = aw_b (mbg xs a0 a1 a2 a3) ∧ g2 = g ∧ n2 = n)) below args s 0 0) 0 0 g n 43 [some (.ref d), some (.int a0), some (.int a1), some (.int a2), some (.int a3)] [] := by
    intro e0 e1
    refine aw_iload_3 S d_Md_begins_43 ?_
    refine aw_if_lt S 65 d_Md_begins_44 (by decide) (fun c44 => ?_) (fun c44 => ?_)
    · exact s65 e0 e1 (bq_neg c44)
    · refine aw_aload_0 S d_Md_begins_47 ?_
      refine aw_getf S I_Md 26 hM.2.1 n_fl_Md_129 d_Md_begins_48 rfl (by decide) ?_
      refine aw_topi h8 ?_
      refine aw_iconst (v := 2) S d_Md_begins_51 (by decide) ?_
      refine aw_icmp_le S 93 d_Md_begins_52 (by decide) (fun c52 => ?_) (fun c52 => ?_)
      · exact s93 (mbgF (Or.inr (Or.inr (Or.inl (bq_sh c44 ((nI_leI (b := 2) (by omega) (by omega)).mp c52))))))
      · refine aw_aload_0 S d_Md_begins_55 ?_
        refine aw_getf S I_Md 27 hM.2.1 n_fl_Md_68 d_Md_begins_56 rfl (by decide) ?_
        refine aw_iconst (v := 2) S d_Md_begins_59 (by decide) ?_
        refine aw_mld (j := 2) S hM 18 (by decide) (hI.at0 (Nat.not_le.mp (fun z => c52 (nI_le (b := 2) z (by omega))))) (show _ < 300 by omega) d_Md_begins_60 ?_
        refine aw_iload_3 S d_Md_begins_61 ?_
        refine aw_icmp_ne S 93 d_Md_begins_62 (by decide) (fun c62 => ?_) (fun c62 => ?_)
        · exact s93 (mbgF (Or.inr (Or.inr (Or.inl (bq_ne c44 c62)))))
        · exact s65 e0 e1 (bq_eq c62)
  have s21 : bq xs 0 a0 = true → AW p l e { frames := 0, cells := 0, slots := 0, locals := 40 * 0 } s m args below meth c E 5 (aw_Z E (aw_Pi (fun r_ g2 n2 => r_ = aw_b (mbg xs a0 a1 a2 a3) ∧ g2 = g ∧ n2 = n)) below args s 0 0) 0 0 g n 21 [some (.ref d), some (.int a0), some (.int a1), some (.int a2), some (.int a3)] [] := by
    intro e0
    refine aw_iload_2 S d_Md_begins_21 ?_
    refine aw_if_lt S 43 d_Md_begins_22 (by decide) (fun c22 => ?_) (fun c22 => ?_)
    · exact s43 e0 (bq_neg c22)
    · refine aw_aload_0 S d_Md_begins_25 ?_
      refine aw_getf S I_Md 26 hM.2.1 n_fl_Md_129 d_Md_begins_26 rfl (by decide) ?_
      refine aw_topi h8 ?_
      refine aw_iconst (v := 1) S d_Md_begins_29 (by decide) ?_
      refine aw_icmp_le S 93 d_Md_begins_30 (by decide) (fun c30 => ?_) (fun c30 => ?_)
      · exact s93 (mbgF (Or.inr (Or.inl (bq_sh c22 ((nI_leI (b := 1) (by omega) (by omega)).mp c30)))))
      · refine aw_aload_0 S d_Md_begins_33 ?_
        refine aw_getf S I_Md 27 hM.2.1 n_fl_Md_68 d_Md_begins_34 rfl (by decide) ?_
        refine aw_iconst (v := 1) S d_Md_begins_37 (by decide) ?_
        refine aw_mld (j := 1) S hM 18 (by decide) (hI.at0 (Nat.not_le.mp (fun z => c30 (nI_le (b := 1) z (by omega))))) (show _ < 300 by omega) d_Md_begins_38 ?_
        refine aw_iload_2 S d_Md_begins_39 ?_
        refine aw_icmp_ne S 93 d_Md_begins_40 (by decide) (fun c40 => ?_) (fun c40 => ?_)
        · exact s93 (mbgF (Or.inr (Or.inl (bq_ne c22 c40))))
        · exact s43 e0 (bq_eq c40)
  refine aw_iload_1 S d_Md_begins_0 ?_
  refine aw_if_lt S 21 d_Md_begins_1 (by decide) (fun c1 => ?_) (fun c1 => ?_)
  · exact s21  (bq_neg c1)
  · refine aw_aload_0 S d_Md_begins_4 ?_
    refine aw_getf S I_Md 26 hM.2.1 n_fl_Md_129 d_Md_begins_5 rfl (by decide) ?_
    refine aw_topi h8 ?_
    refine aw_if_le S 93 d_Md_begins_8 (by decide) (fun c8 => ?_) (fun c8 => ?_)
    · exact s93 (mbgF (Or.inl (bq_sh c1 ((nI_leI (b := 0) (by omega) (by omega)).mp c8))))
    · refine aw_aload_0 S d_Md_begins_11 ?_
      refine aw_getf S I_Md 27 hM.2.1 n_fl_Md_68 d_Md_begins_12 rfl (by decide) ?_
      refine aw_iconst (v := 0) S d_Md_begins_15 (by decide) ?_
      refine aw_mld (j := 0) S hM 18 (by decide) (hI.at0 (nI_gt c8)) (show _ < 300 by omega) d_Md_begins_16 ?_
      refine aw_iload_1 S d_Md_begins_17 ?_
      refine aw_icmp_ne S 93 d_Md_begins_18 (by decide) (fun c18 => ?_) (fun c18 => ?_)
      · exact s93 (mbgF (Or.inl (bq_ne c1 c18)))
      · exact s21  (bq_eq c18)
set_option maxRecDepth 100000 in
set_option maxHeartbeats 4000000 in
theorem ev_Md_skip {l : Launch} {E : aw_E} {g : AH} {n : Nat} {g0 : AH} {d : Nat} {v : Nat → Int32} {f : Nat → Nat → Int32} {xs : List Int32} (c0 : Nat) (hM : mG E g0 d v f g) (h8 : v 8 = nI xs.length) (hI : mL (f 18) 0 xs) (hx : xs.length ≤ 300) (hc : c0 ≤ xs.length) : EV l E 0 0 0 y_Md_skip c_Md_skip 3 none g n [.ref d, .int (nI c0)] (aw_Pv (fun g2 n2 => n2 = n ∧ ∃ v2 f2, mG E g0 d v2 f2 g2 ∧ mfr [8] [18] v v2 f f2 ∧ v2 8 = nI (xs.drop c0).length ∧ mL (f2 18) 0 (xs.drop c0))) := by
  refine aw_enter "AddressTermsModel" [some (.ref d), some (.int (nI c0)), none] (by decide) rfl rfl (Nat.le_of_ble_eq_true rfl) ?_
  intro p e s m args below meth c S hnm
  have loop : ∀ (j k : Nat) (v1 : Nat → Int32) (f1 : Nat → Nat → Int32) (g : AH), k + j = xs.length - c0 → v1 8 = nI (xs.length - c0) → (∀ q, q < k → f1 18 q = xs.getD (c0 + q) (-1)) → (∀ q, k ≤ q → q < xs.length → f1 18 q = xs.getD q (-1)) → mfr [8] [18] v v1 f f1 → mG E g0 d v1 f1 g → AW p l e { frames := 0, cells := 0, slots := 0, locals := 40 * 0 } s m args below meth c E 3 (aw_Z E (aw_Pv (fun g2 n2 => n2 = n ∧ ∃ v2 f2, mG E g0 d v2 f2 g2 ∧ mfr [8] [18] v v2 f f2 ∧ v2 8 = nI (xs.drop c0).length ∧ mL (f2 18) 0 (xs.drop c0))) below args s 0 0) 0 0 g n 12 [some (.ref d), some (.int (nI c0)), some (.int (nI k))] [] := by
    intro j
    induction j with
    | zero =>
      intro k v1 f1 g hk h8 h1 h2 hf hM
      refine aw_iload_2 S d_Md_skip_12 ?_
      refine aw_aload_0 S d_Md_skip_13 ?_
      refine aw_getf S I_Md 26 hM.2.1 n_fl_Md_129 d_Md_skip_14 rfl (by decide) ?_
      refine aw_topi h8 ?_
      refine aw_icmp_ge S 40 d_Md_skip_17 (by decide) (fun c17 => ?_) (fun c17 => ?_)
      · refine aw_vret S rfl d_Md_skip_40 ?_ (by decide) (by decide)
        refine ⟨rfl, v1, f1, hM, hf, by rw [List.length_drop]; exact h8, fun q hq => ?_⟩
        rw [List.length_drop] at hq
        rw [Nat.zero_add, h1 q (by omega)]
        simp [List.getD_eq_getElem?_getD]
      · exact absurd (nI_le (by omega) (by omega)) c17
    | succ j ih =>
      intro k v1 f1 g hk h8 h1 h2 hf hM
      refine aw_iload_2 S d_Md_skip_12 ?_
      refine aw_aload_0 S d_Md_skip_13 ?_
      refine aw_getf S I_Md 26 hM.2.1 n_fl_Md_129 d_Md_skip_14 rfl (by decide) ?_
      refine aw_topi h8 ?_
      refine aw_icmp_ge S 40 d_Md_skip_17 (by decide) (fun c17 => ?_) (fun c17 => ?_)
      · exact absurd c17 (nI_ge (by omega) (by omega))
      · refine aw_aload_0 S d_Md_skip_20 ?_
        refine aw_getf S I_Md 27 hM.2.1 n_fl_Md_68 d_Md_skip_21 rfl (by decide) ?_
        refine aw_iload_2 S d_Md_skip_24 ?_
        refine aw_aload_0 S d_Md_skip_25 ?_
        refine aw_getf S I_Md 27 hM.2.1 n_fl_Md_68 d_Md_skip_26 rfl (by decide) ?_
        refine aw_iload_2 S d_Md_skip_29 ?_
        refine aw_iload_1 S d_Md_skip_30 ?_
        refine aw_iadd S d_Md_skip_31 ?_
        refine aw_topi (nI_add _ _) ?_
        refine aw_mld S hM 18 (by decide) (h2 (k + c0) (by omega) (by omega)) (show _ < 300 by omega) d_Md_skip_32 ?_
        refine aw_mst S hM 18 (by decide) (show _ < 300 by omega) d_Md_skip_33 (fun g_ hM => ?_)
        refine aw_iinc_2 (v := nI (k + 1)) S d_Md_skip_34 ((nI_succ (k)).symm) ?_
        refine aw_goto S 12 d_Md_skip_37 (by decide) ?_
        refine ih (k + 1) _ _ _ (by omega) h8 (fun q hq => ?_) (fun q hq1 hq2 => ?_) (hf.f (by decide)) hM
        · rw [fu_s]
          by_cases e : q = k
          · subst e; rw [upd_s, Nat.add_comm]
          · rw [upd_n e]; exact h1 q (by omega)
        · rw [fu_s, upd_n (by omega)]; exact h2 q (by omega) hq2
  refine aw_aload_0 S d_Md_skip_0 ?_
  refine aw_dup S d_Md_skip_1 rfl ?_
  refine aw_getf S I_Md 26 hM.2.1 n_fl_Md_129 d_Md_skip_2 rfl (by decide) ?_
  refine aw_topi h8 ?_
  refine aw_iload_1 S d_Md_skip_5 ?_
  refine aw_isub S d_Md_skip_6 ?_
  refine aw_topi (nI_subt hc) ?_
  refine aw_mput8 S hM n_fl_Md_129 d_Md_skip_7 (fun g_ hM => ?_)
  refine aw_iconst (v := 0) S d_Md_skip_10 (by decide) ?_
  refine aw_topi nI_0.symm ?_
  refine aw_istore_2 S d_Md_skip_11 ?_
  exact loop _ 0 _ f _ (Nat.zero_add _) rfl (fun q hq => absurd hq (Nat.not_lt_zero q)) (fun q _ hq => hI.at0 hq) (mfr.rf.v (by decide)) hM
theorem sp_dl_take {os : List Int32} : ∃ k, sp_dl os = os.take k ∧ k ≤ os.length := by
  unfold sp_dl
  cases h : sp_lsO os 0 os.length with
  | none => exact ⟨0, by simp, by omega⟩
  | some k => exact ⟨k, rfl, by have := sp_lsO_lt h; omega⟩
set_option maxRecDepth 100000 in
set_option maxHeartbeats 4000000 in
theorem ev_Md_back {l : Launch} {E : aw_E} {g : AH} {n : Nat} {g0 : AH} {d : Nat} {v : Nat → Int32} {f : Nat → Nat → Int32} {os : List Int32} (hM : mG E g0 d v f g) (h9 : v 9 = nI os.length) (hO : mL (f 19) 0 os) (ho : os.length ≤ 300) : EV l E 0 0 0 y_Md_back c_Md_back 2 none g n [.ref d] (aw_Pv (fun g2 n2 => n2 = n ∧ ∃ v2 f2, mG E g0 d v2 f2 g2 ∧ mfr [9] [] v v2 f f2 ∧ v2 9 = nI (sp_dl os).length ∧ mL (f2 19) 0 (sp_dl os))) := by
  refine aw_enter "AddressTermsModel" [some (.ref d), none] (by decide) rfl rfl (Nat.le_of_ble_eq_true rfl) ?_
  intro p e s m args below meth c S hnm
  have fin : ∀ (k : Nat), sp_dl os = os.take k → k ≤ os.length → AW p l e { frames := 0, cells := 0, slots := 0, locals := 40 * 0 } s m args below meth c E 2 (aw_Z E (aw_Pv (fun g2 n2 => n2 = n ∧ ∃ v2 f2, mG E g0 d v2 f2 g2 ∧ mfr [9] [] v v2 f f2 ∧ v2 9 = nI (sp_dl os).length ∧ mL (f2 19) 0 (sp_dl os))) below args s 0 0) 0 0 g n 28 [some (.ref d), some (.int (nI k))] [] := by
    intro k hd hk
    refine aw_aload_0 S d_Md_back_28 ?_
    refine aw_iload_1 S d_Md_back_29 ?_
    refine aw_if_ge S 37 d_Md_back_30 (by decide) (fun c30 => ?_) (fun c30 => ?_)
    · refine aw_iload_1 S d_Md_back_37 ?_
      refine aw_mput9 S hM n_fl_Md_132 d_Md_back_38 (fun g_ hM => ?_)
      refine aw_vret S rfl d_Md_back_41 ?_ (by decide) (by decide)
      refine ⟨rfl, _, f, hM, mfr.rf.v (by decide), ?_, by rw [hd]; exact hO.take k⟩
      rw [hd, List.length_take, Nat.min_eq_left hk]; rfl
    · exact absurd (nI_pos' (by omega)) c30
  have loop : ∀ (k : Nat), k < os.length → sp_lsO os 0 (k + 1) = sp_lsO os 0 os.length → AW p l e { frames := 0, cells := 0, slots := 0, locals := 40 * 0 } s m args below meth c E 2 (aw_Z E (aw_Pv (fun g2 n2 => n2 = n ∧ ∃ v2 f2, mG E g0 d v2 f2 g2 ∧ mfr [9] [] v v2 f f2 ∧ v2 9 = nI (sp_dl os).length ∧ mL (f2 19) 0 (sp_dl os))) below args s 0 0) 0 0 g n 7 [some (.ref d), some (.int (nI k))] [] := by
    intro k
    induction k with
    | zero =>
      intro hk hv
      refine aw_iload_1 S d_Md_back_7 ?_
      refine aw_if_le S 28 d_Md_back_8 (by decide) (fun c8 => ?_) (fun c8 => ?_)
      · refine fin 0 ?_ (by omega)
        rw [sp_dl, ← hv, sp_lsO_succ, if_neg (by omega)]
        by_cases q : os.getD 0 (-1) = 47
        · rw [if_pos q]
        · rw [if_neg q]; simp [sp_lsO]
      · exact absurd (show nI 0 ≤ 0 by decide) c8
    | succ k ih =>
      intro hk hv
      refine aw_iload_1 S d_Md_back_7 ?_
      refine aw_if_le S 28 d_Md_back_8 (by decide) (fun c8 => ?_) (fun c8 => ?_)
      · exact absurd c8 (nI_nle (by omega) (by omega))
      · refine aw_aload_0 S d_Md_back_11 ?_
        refine aw_getf S I_Md 29 hM.2.1 n_fl_Md_71 d_Md_back_12 rfl (by decide) ?_
        refine aw_iload_1 S d_Md_back_15 ?_
        refine aw_mld S hM 19 (by decide) (hO.at0 (by omega)) (show _ < 300 by omega) d_Md_back_16 ?_
        refine aw_bipush (v := 47) S d_Md_back_17 (by decide) ?_
        refine aw_icmp_eq S 28 d_Md_back_19 (by decide) (fun c19 => ?_) (fun c19 => ?_)
        · refine fin (k + 1) ?_ (by omega)
          rw [sp_dl, ← hv, sp_lsO_succ, if_neg (by omega), if_pos c19]
        · refine aw_iinc_1 (v := nI k) S d_Md_back_22 ((dec_i _).trans (nI_pred k)) ?_
          refine aw_goto S 7 d_Md_back_25 (by decide) ?_
          refine ih (by omega) ?_
          rw [← hv, sp_lsO_succ os 0 (k + 1), if_neg (by omega), if_neg c19]
  rcases Nat.eq_zero_or_pos os.length with hz | hz
  · refine aw_aload_0 S d_Md_back_0 ?_
    refine aw_getf S I_Md 28 hM.2.1 n_fl_Md_132 d_Md_back_1 rfl (by decide) ?_
    refine aw_topi h9 ?_
    refine aw_iconst (v := 1) S d_Md_back_4 (by decide) ?_
    refine aw_isub S d_Md_back_5 ?_
    refine aw_topi (show nI os.length - 1 = -1 by rw [hz]; decide) ?_
    refine aw_istore_1 S d_Md_back_6 ?_
    refine aw_iload_1 S d_Md_back_7 ?_
    refine aw_if_le S 28 d_Md_back_8 (by decide) (fun c8 => ?_) (fun c8 => ?_)
    · refine aw_aload_0 S d_Md_back_28 ?_
      refine aw_iload_1 S d_Md_back_29 ?_
      refine aw_if_ge S 37 d_Md_back_30 (by decide) (fun c30 => ?_) (fun c30 => ?_)
      · exact absurd c30 (by decide)
      · refine aw_iconst (v := 0) S d_Md_back_33 (by decide) ?_
        refine aw_goto S 38 d_Md_back_34 (by decide) ?_
        refine aw_mput9 S hM n_fl_Md_132 d_Md_back_38 (fun g_ hM => ?_)
        refine aw_vret S rfl d_Md_back_41 ?_ (by decide) (by decide)
        have e : sp_dl os = [] := by rw [List.eq_nil_of_length_eq_zero hz]; rfl
        exact ⟨rfl, _, f, hM, mfr.rf.v (by decide), by rw [e]; rfl, by rw [e]; exact mL.nil⟩
    · exact absurd (show (-1 : Int32) ≤ 0 by decide) c8
  · refine aw_aload_0 S d_Md_back_0 ?_
    refine aw_getf S I_Md 28 hM.2.1 n_fl_Md_132 d_Md_back_1 rfl (by decide) ?_
    refine aw_topi h9 ?_
    refine aw_iconst (v := 1) S d_Md_back_4 (by decide) ?_
    refine aw_isub S d_Md_back_5 ?_
    refine aw_topi (nI_m1 hz) ?_
    refine aw_istore_1 S d_Md_back_6 ?_
    exact loop (os.length - 1) (by omega) (by rw [show os.length - 1 + 1 = os.length by omega])
