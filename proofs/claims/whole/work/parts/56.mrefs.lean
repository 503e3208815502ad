/-! the reference: add, the reference's parts -/
theorem fu_rw {f : Nat → Nat → Int32} {k : Nat} {h : Nat → Int32} {q : Nat} (hq : q ≠ k) : fu f k h q = f q := fu_n hq
set_option maxRecDepth 100000 in
set_option maxHeartbeats 4000000 in
theorem ev_Md_add {l : Launch} {E : aw_E} {g : AH} {n : Nat} {g0 : AH} {d : Nat} {v : Nat → Int32} {f : Nat → Nat → Int32} {xs : List Int32} (b : Int32) (hM : mG E g0 d v f g) (h4 : v 4 = nI xs.length) (hL : mL (f 10) 0 xs) (hl : xs.length < 400) : EV l E 0 0 0 y_Md_add c_Md_add 2 none g n [.ref d, .int b] (aw_Pv (fun g2 n2 => n2 = n ∧ ∃ v2 f2, mG E g0 d v2 f2 g2 ∧ mfr [4] [10] v v2 f f2 ∧ v2 4 = nI (xs ++ [b]).length ∧ mL (f2 10) 0 (xs ++ [b]))) := by
  refine aw_enter "AddressTermsModel" [some (.ref d), some (.int b)] (by decide) rfl rfl (Nat.le_of_ble_eq_true rfl) ?_
  intro p e s m args below meth c S hnm
  refine aw_aload_0 S d_Md_add_0 ?_
  refine aw_getf S I_Md 15 hM.2.1 n_fl_Md_44 d_Md_add_1 rfl (by decide) ?_
  refine aw_aload_0 S d_Md_add_4 ?_
  refine aw_getf S I_Md 14 hM.2.1 n_fl_Md_93 d_Md_add_5 rfl (by decide) ?_
  refine aw_topi h4 ?_
  refine aw_iload_1 S d_Md_add_8 ?_
  refine aw_mst S hM 10 (by decide) (show _ < 400 by omega) d_Md_add_9 (fun g_ hM => ?_)
  refine aw_aload_0 S d_Md_add_10 ?_
  refine aw_dup S d_Md_add_11 rfl ?_
  refine aw_getf S I_Md 14 hM.2.1 n_fl_Md_93 d_Md_add_12 rfl (by decide) ?_
  refine aw_topi h4 ?_
  refine aw_iconst (v := 1) S d_Md_add_15 (by decide) ?_
  refine aw_iadd S d_Md_add_16 ?_
  refine aw_topi (nI_1 _) ?_
  refine aw_mput4 S hM n_fl_Md_93 d_Md_add_17 (fun g_ hM => ?_)
  refine aw_vret S rfl d_Md_add_20 ?_ (by decide) (by decide)
  refine ⟨rfl, _, _, hM, (mfr.rf.f (by decide)).v (by decide), ?_, hL.snoc0⟩
  rw [List.length_append]; rfl
set_option maxRecDepth 100000 in
set_option maxHeartbeats 4000000 in
theorem ev_Md_lead {l : Launch} {E : aw_E} {g : AH} {n : Nat} {g0 : AH} {d : Nat} {v : Nat → Int32} {f : Nat → Nat → Int32} {xs : List Int32} (a b : Int32) (hM : mG E g0 d v f g) (h4 : v 4 = nI xs.length) (hL : mL (f 10) 0 xs) (hl : xs.length + 1 < 400) : EV l E 1 0 0 y_Md_lead c_Md_lead 3 none g n [.ref d, .int a, .int b] (aw_Pv (fun g2 n2 => n2 = n ∧ ∃ v2 f2, mG E g0 d v2 f2 g2 ∧ mfr [4] [10] v v2 f f2 ∧ v2 4 = nI (xs ++ (if b < 0 then [a] else [a, b])).length ∧ mL (f2 10) 0 (xs ++ (if b < 0 then [a] else [a, b])))) := by
  refine aw_enter "AddressTermsModel" [some (.ref d), some (.int a), some (.int b)] (by decide) rfl rfl (Nat.le_of_ble_eq_true rfl) ?_
  intro p e s m args below meth c S hnm
  refine aw_aload_0 S d_Md_lead_0 ?_
  refine aw_iload_1 S d_Md_lead_1 ?_
  refine aw_callVv0 S (ev_Md_add a hM h4 hL (by omega)) mb_Md_add mi_Md_add n_ml_Md_146 d_Md_lead_2 I_Md hM.2.1 rfl rfl rfl (fun g2_ n2_ h_ => ?_)
  obtain ⟨rfl, v2, f2, hM, hf, h4, hL⟩ := h_
  refine aw_iload_2 S d_Md_lead_5 ?_
  refine aw_if_lt S 14 d_Md_lead_6 (by decide) (fun c6 => ?_) (fun c6 => ?_)
  · refine aw_vret S rfl d_Md_lead_14 ?_ (by decide) (by decide)
    rw [if_pos c6]
    exact ⟨rfl, v2, f2, hM, hf, h4, hL⟩
  · refine aw_aload_0 S d_Md_lead_9 ?_
    refine aw_iload_2 S d_Md_lead_10 ?_
    refine aw_callVv0 S (ev_Md_add b hM h4 hL (by rw [List.length_append, List.length_singleton]; omega)) mb_Md_add mi_Md_add n_ml_Md_146 d_Md_lead_11 I_Md hM.2.1 rfl rfl rfl (fun g2_ n2_ h_ => ?_)
    obtain ⟨rfl, v3, f3, hM, hf3, h4, hL⟩ := h_
    refine aw_vret S rfl d_Md_lead_14 ?_ (by decide) (by decide)
    rw [if_neg c6]
    rw [List.append_assoc] at h4 hL
    exact ⟨rfl, v3, f3, hM, hf.tr hf3, h4, hL⟩
set_option maxRecDepth 100000 in
set_option maxHeartbeats 4000000 in
theorem ev_Md_refAt {l : Launch} {E : aw_E} {g : AH} {n : Nat} {g0 : AH} {d : Nat} {v : Nat → Int32} {f : Nat → Nat → Int32} {rs : List Int32} (k : Nat) (hM : mG E g0 d v f g) (h7 : v 7 = nI rs.length) (hR : mL (f 13) 0 rs) (hr : rs.length ≤ 100) (hk : k < 1000) : EV l E 0 0 0 y_Md_refAt c_Md_refAt 2 (some .int) g n [.ref d, .int (nI k)] (aw_Pi (fun r_ g2 n2 => r_ = rs.getD k (-1) ∧ g2 = g ∧ n2 = n)) := by
  refine aw_enter "AddressTermsModel" [some (.ref d), some (.int (nI k))] (by decide) rfl rfl (Nat.le_of_ble_eq_true rfl) ?_
  intro p e s m args below meth c S hnm
  refine aw_iload_1 S d_Md_refAt_0 ?_
  refine aw_aload_0 S d_Md_refAt_1 ?_
  refine aw_getf S I_Md 20 hM.2.1 n_fl_Md_109 d_Md_refAt_2 rfl (by decide) ?_
  refine aw_topi h7 ?_
  refine aw_icmp_ge S 17 d_Md_refAt_5 (by decide) (fun c5 => ?_) (fun c5 => ?_)
  · refine aw_iconst (v := -1) S d_Md_refAt_17 (by decide) ?_
    refine aw_iret S rfl d_Md_refAt_18 ?_ (by decide) (by decide)
    rw [nI_leI (by omega) (by omega)] at c5
    exact ⟨(getD_out c5).symm, rfl, rfl⟩
  · rw [nI_leI (by omega) (by omega)] at c5
    refine aw_aload_0 S d_Md_refAt_8 ?_
    refine aw_getf S I_Md 21 hM.2.1 n_fl_Md_53 d_Md_refAt_9 rfl (by decide) ?_
    refine aw_iload_1 S d_Md_refAt_12 ?_
    refine aw_mld S hM 13 (by decide) (hR.at0 (by omega)) (show _ < 100 by omega) d_Md_refAt_13 ?_
    refine aw_goto S 18 d_Md_refAt_14 (by decide) ?_
    refine aw_iret S rfl d_Md_refAt_18 ?_ (by decide) (by decide)
    exact ⟨rfl, rfl, rfl⟩
def stL (a b : Bool) : List Int32 := (if a then [47] else []) ++ ((if b then [63] else []) ++ [35])
theorem stL_mem {a b : Bool} {x : Int32} : x ∈ stL a b ↔ (a = true ∧ x = 47) ∨ (b = true ∧ x = 63) ∨ x = 35 := by
  cases a <;> cases b <;> simp [stL]
theorem sp_nx_ge {L xs : List Int32} {k : Nat} (h : xs.length ≤ k) : sp_nx L xs k = k := by
  rw [sp_nx, List.drop_eq_nil_iff.mpr h, sp_nxF]
theorem sp_nx_hit {L xs : List Int32} {k : Nat} (h : k < xs.length) (hm : xs.getD k (-1) ∈ L) : sp_nx L xs k = k := by
  rw [sp_nx, drop_cons h, sp_nxF, if_pos hm]
theorem sp_nx_miss {L xs : List Int32} {k : Nat} (h : k < xs.length) (hm : xs.getD k (-1) ∉ L) : sp_nx L xs k = sp_nx L xs (k + 1) := by
  rw [sp_nx, drop_cons h, sp_nxF, if_neg hm, sp_nx]
set_option maxRecDepth 100000 in
set_option maxHeartbeats 4000000 in
theorem ev_Md_stop {l : Launch} {E : aw_E} {g : AH} {n : Nat} {g0 : AH} {d : Nat} {v : Nat → Int32} {f : Nat → Nat → Int32} {rs : List Int32} (k0 : Nat) (a b : Bool) (hM : mG E g0 d v f g) (h7 : v 7 = nI rs.length) (hR : mL (f 13) 0 rs) (hr : rs.length ≤ 100) (hk0 : k0 < 1000) : EV l E 0 0 0 y_Md_stop c_Md_stop 5 (some .int) g n [.ref d, .int (nI k0), .int (aw_b a), .int (aw_b b)] (aw_Pi (fun r_ g2 n2 => r_ = nI (sp_nx (stL a b) rs k0) ∧ g2 = g ∧ n2 = n)) := by
  refine aw_enter "AddressTermsModel" [some (.ref d), some (.int (nI k0)), some (.int (aw_b a)), some (.int (aw_b b)), none] (by decide) rfl rfl (Nat.le_of_ble_eq_true rfl) ?_
  intro p e s m args below meth c S hnm
  have loop : ∀ (j k : Nat), rs.length ≤ k + j → k < 1000 → sp_nx (stL a b) rs k = sp_nx (stL a b) rs k0 → AW p l e { frames := 0, cells := 0, slots := 0, locals := 40 * 0 } s m args below meth c E 5 (aw_Z E (aw_Pi (fun r_ g2 n2 => r_ = nI (sp_nx (stL a b) rs k0) ∧ g2 = g ∧ n2 = n)) below args s 0 0) 0 0 g n 3 [some (.ref d), some (.int (nI k0)), some (.int (aw_b a)), some (.int (aw_b b)), some (.int (nI k))] [] := by
    intro j
    induction j with
    | zero =>
      intro k hk hk1 hv
      rw [sp_nx_ge (by omega)] at hv
      refine aw_iload_4 S d_Md_stop_3 ?_
      refine aw_aload_0 S d_Md_stop_5 ?_
      refine aw_getf S I_Md 20 hM.2.1 n_fl_Md_109 d_Md_stop_6 rfl (by decide) ?_
      refine aw_topi h7 ?_
      refine aw_icmp_ge S 62 d_Md_stop_9 (by decide) (fun c9 => ?_) (fun c9 => ?_)
      · refine aw_iload_4 S d_Md_stop_62 ?_
        refine aw_iret S rfl d_Md_stop_64 ?_ (by decide) (by decide)
        exact ⟨by rw [← hv], rfl, rfl⟩
      · exact absurd (nI_le (by omega) (by omega)) c9
    | succ j ih =>
      intro k hk hk1 hv
      have s56 : k < rs.length → rs.getD k (-1) ∉ stL a b → AW p l e { frames := 0, cells := 0, slots := 0, locals := 40 * 0 } s m args below meth c E 5 (aw_Z E (aw_Pi (fun r_ g2 n2 => r_ = nI (sp_nx (stL a b) rs k0) ∧ g2 = g ∧ n2 = n)) below args s 0 0) 0 0 g n 56 [some (.ref d), some (.int (nI k0)), some (.int (aw_b a)), some (.int (aw_b b)), some (.int (nI k))] [] := by
        intro hkr hm
        refine aw_iinc_4 (v := nI (k + 1)) S d_Md_stop_56 ((nI_succ (k)).symm) ?_
        refine aw_goto S 3 d_Md_stop_59 (by decide) ?_
        exact ih (k + 1) (by omega) (by omega) (by rw [← hv]; exact (sp_nx_miss hkr hm).symm)
      have s62 : k < rs.length → rs.getD k (-1) ∈ stL a b → AW p l e { frames := 0, cells := 0, slots := 0, locals := 40 * 0 } s m args below meth c E 5 (aw_Z E (aw_Pi (fun r_ g2 n2 => r_ = nI (sp_nx (stL a b) rs k0) ∧ g2 = g ∧ n2 = n)) below args s 0 0) 0 0 g n 62 [some (.ref d), some (.int (nI k0)), some (.int (aw_b a)), some (.int (aw_b b)), some (.int (nI k))] [] := by
        intro hkr hm
        refine aw_iload_4 S d_Md_stop_62 ?_
        refine aw_iret S rfl d_Md_stop_64 ?_ (by decide) (by decide)
        exact ⟨by rw [← hv, sp_nx_hit hkr hm], rfl, rfl⟩
      have s44 : k < rs.length → ¬ (a = true ∧ rs.getD k (-1) = 47) → ¬ (b = true ∧ rs.getD k (-1) = 63) → AW p l e { frames := 0, cells := 0, slots := 0, locals := 40 * 0 } s m args below meth c E 5 (aw_Z E (aw_Pi (fun r_ g2 n2 => r_ = nI (sp_nx (stL a b) rs k0) ∧ g2 = g ∧ n2 = n)) below args s 0 0) 0 0 g n 44 [some (.ref d), some (.int (nI k0)), some (.int (aw_b a)), some (.int (aw_b b)), some (.int (nI k))] [] := by
        intro hkr h1 h2
        refine aw_aload_0 S d_Md_stop_44 ?_
        refine aw_getf S I_Md 21 hM.2.1 n_fl_Md_53 d_Md_stop_45 rfl (by decide) ?_
        refine aw_iload_4 S d_Md_stop_48 ?_
        refine aw_mld S hM 13 (by decide) (hR.at0 hkr) (show _ < 100 by omega) d_Md_stop_50 ?_
        refine aw_bipush (v := 35) S d_Md_stop_51 (by decide) ?_
        refine aw_icmp_eq S 62 d_Md_stop_53 (by decide) (fun c53 => ?_) (fun c53 => ?_)
        · exact s62 hkr (stL_mem.mpr (Or.inr (Or.inr c53)))
        · exact s56 hkr (fun z => by rcases stL_mem.mp z with q | q | q; exact h1 q; exact h2 q; exact c53 q)
      have s28 : k < rs.length → ¬ (a = true ∧ rs.getD k (-1) = 47) → AW p l e { frames := 0, cells := 0, slots := 0, locals := 40 * 0 } s m args below meth c E 5 (aw_Z E (aw_Pi (fun r_ g2 n2 => r_ = nI (sp_nx (stL a b) rs k0) ∧ g2 = g ∧ n2 = n)) below args s 0 0) 0 0 g n 28 [some (.ref d), some (.int (nI k0)), some (.int (aw_b a)), some (.int (aw_b b)), some (.int (nI k))] [] := by
        intro hkr h1
        refine aw_iload_3 S d_Md_stop_28 ?_
        refine aw_if_eq S 44 d_Md_stop_29 (by decide) (fun c29 => ?_) (fun c29 => ?_)
        · exact s44 hkr h1 (fun z => by rw [z.1] at c29; exact absurd c29 (by decide))
        · refine aw_aload_0 S d_Md_stop_32 ?_
          refine aw_getf S I_Md 21 hM.2.1 n_fl_Md_53 d_Md_stop_33 rfl (by decide) ?_
          refine aw_iload_4 S d_Md_stop_36 ?_
          refine aw_mld S hM 13 (by decide) (hR.at0 hkr) (show _ < 100 by omega) d_Md_stop_38 ?_
          refine aw_bipush (v := 63) S d_Md_stop_39 (by decide) ?_
          refine aw_icmp_eq S 62 d_Md_stop_41 (by decide) (fun c41 => ?_) (fun c41 => ?_)
          · exact s62 hkr (stL_mem.mpr (Or.inr (Or.inl ⟨aw_b_t c29, c41⟩)))
          · exact s44 hkr h1 (fun z => c41 z.2)
      refine aw_iload_4 S d_Md_stop_3 ?_
      refine aw_aload_0 S d_Md_stop_5 ?_
      refine aw_getf S I_Md 20 hM.2.1 n_fl_Md_109 d_Md_stop_6 rfl (by decide) ?_
      refine aw_topi h7 ?_
      refine aw_icmp_ge S 62 d_Md_stop_9 (by decide) (fun c9 => ?_) (fun c9 => ?_)
      · refine aw_iload_4 S d_Md_stop_62 ?_
        refine aw_iret S rfl d_Md_stop_64 ?_ (by decide) (by decide)
        rw [nI_leI (by omega) (by omega)] at c9
        exact ⟨by rw [← hv, sp_nx_ge c9], rfl, rfl⟩
      · rw [nI_leI (by omega) (by omega)] at c9
        have hkr : k < rs.length := by omega
        refine aw_iload_2 S d_Md_stop_12 ?_
        refine aw_if_eq S 28 d_Md_stop_13 (by decide) (fun c13 => ?_) (fun c13 => ?_)
        · exact s28 hkr (fun z => by rw [z.1] at c13; exact absurd c13 (by decide))
        · refine aw_aload_0 S d_Md_stop_16 ?_
          refine aw_getf S I_Md 21 hM.2.1 n_fl_Md_53 d_Md_stop_17 rfl (by decide) ?_
          refine aw_iload_4 S d_Md_stop_20 ?_
          refine aw_mld S hM 13 (by decide) (hR.at0 hkr) (show _ < 100 by omega) d_Md_stop_22 ?_
          refine aw_bipush (v := 47) S d_Md_stop_23 (by decide) ?_
          refine aw_icmp_eq S 62 d_Md_stop_25 (by decide) (fun c25 => ?_) (fun c25 => ?_)
          · exact s62 hkr (stL_mem.mpr (Or.inl ⟨aw_b_t c13, c25⟩))
          · exact s28 hkr (fun z => c25 z.2)
  refine aw_iload_1 S d_Md_stop_0 ?_
  refine aw_istore_4 S d_Md_stop_1 ?_
  exact loop rs.length k0 (by omega) hk0 rfl
