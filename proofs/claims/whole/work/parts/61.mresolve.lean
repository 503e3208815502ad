/-! the reference: merge, resolveAgainst, resolve -/
theorem mPs.some5 {rs : List Int32} {F T : Nat → Int32} (h : mPs rs 5 F T) {w : Nat} (hw : w < 5) {q : Nat × Nat} (hq : sp_pt rs w = some q) : F w = nI q.1 ∧ T w = nI q.2 := by
  have := h.at5 hw
  rw [hq] at this
  exact this
theorem mPs.none5 {rs : List Int32} {F T : Nat → Int32} (h : mPs rs 5 F T) {w : Nat} (hw : w < 5) (hq : sp_pt rs w = none) : F w = -1 ∧ T w = -1 := by
  have := h.at5 hw
  rw [hq] at this
  exact this
def mMg (bs : List Int32) : List Int32 := if (sp_pt bs 1).isSome && decide (sp_plen bs 2 = 0) then [47] else sp_fold bs
theorem plen2 (bs : List Int32) : sp_plen bs 2 = nI (sp_p2 bs - sp_p1 bs) := rfl
set_option maxRecDepth 100000 in
set_option maxHeartbeats 4000000 in
theorem ev_Md_merge {l : Launch} {E : aw_E} {g : AH} {n : Nat} {g0 : AH} {d : Nat} {v : Nat → Int32} {f : Nat → Nat → Int32} {bs : List Int32} {t : Nat} (hM : mG E g0 d v f g) (h8 : v 8 = nI 0) (hb : v 2 = nI t) (ht : t < 60) (hB : mL (f 4) (100 * t) bs) (hbl : bs.length ≤ 100) (hp : mPs bs 5 (f 16) (f 17)) : EV l E 0 0 0 y_Md_merge c_Md_merge 3 none g n [.ref d] (aw_Pv (fun g2 n2 => n2 = n ∧ ∃ v2 f2, mG E g0 d v2 f2 g2 ∧ mfr [8] [18] v v2 f f2 ∧ v2 8 = nI (mMg bs).length ∧ mL (f2 18) 0 (mMg bs))) := by
  have b2 := sp_p2_le bs
  have e2 := hp.some5 (w := 2) (by decide) (q := (sp_p1 bs, sp_p2 bs)) rfl
  refine aw_enter "AddressTermsModel" [some (.ref d), none, none] (by decide) rfl rfl (Nat.le_of_ble_eq_true rfl) ?_
  intro p e s m args below meth c S hnm
  have l89 : ∀ (j k to : Nat) (v1 : Nat → Int32) (f1 : Nat → Nat → Int32) (g : AH), mG E g0 d v1 f1 g → k + j = to → sp_p1 bs ≤ k → to ≤ bs.length → (bs.take to).drop (sp_p1 bs) = mMg bs → v1 8 = nI ((bs.take k).drop (sp_p1 bs)).length → mL (f1 18) 0 ((bs.take k).drop (sp_p1 bs)) → mfr [8] [18] v v1 f f1 → AW p l e { frames := 0, cells := 0, slots := 0, locals := 40 * 0 } s m args below meth c E 3 (aw_Z E (aw_Pv (fun g2 n2 => n2 = n ∧ ∃ v2 f2, mG E g0 d v2 f2 g2 ∧ mfr [8] [18] v v2 f f2 ∧ v2 8 = nI (mMg bs).length ∧ mL (f2 18) 0 (mMg bs))) below args s 0 0) 0 0 g n 89 [some (.ref d), some (.int (nI to)), some (.int (nI k))] [] := by
    intro j
    induction j with
    | zero =>
      intro k to v1 f1 g hM hk hk1 hto hm h8 hI hf
      have hk : k = to := by omega
      subst hk
      refine aw_iload_2 S d_Md_merge_89 ?_
      refine aw_iload_1 S d_Md_merge_90 ?_
      refine aw_icmp_ge S 133 d_Md_merge_91 (by decide) (fun c91 => ?_) (fun c91 => ?_)
      · refine aw_vret S rfl d_Md_merge_133 ?_ (by decide) (by decide)
        rw [hm] at h8 hI
        exact ⟨rfl, v1, f1, hM, hf, h8, hI⟩
      · exact absurd (nI_le (Nat.le_refl _) (by omega)) c91
    | succ j ih =>
      intro k to v1 f1 g hM hk hk1 hto hm h8 hI hf
      have hlen := seg_len (rs := bs) (a := sp_p1 bs) (b := k) (by omega)
      refine aw_iload_2 S d_Md_merge_89 ?_
      refine aw_iload_1 S d_Md_merge_90 ?_
      refine aw_icmp_ge S 133 d_Md_merge_91 (by decide) (fun c91 => ?_) (fun c91 => ?_)
      · exact absurd c91 (nI_ge (by omega) (by omega))
      · refine aw_aload_0 S d_Md_merge_94 ?_
        refine aw_getf S I_Md 27 hM.2.1 n_fl_Md_68 d_Md_merge_95 rfl (by decide) ?_
        refine aw_aload_0 S d_Md_merge_98 ?_
        refine aw_getf S I_Md 26 hM.2.1 n_fl_Md_129 d_Md_merge_99 rfl (by decide) ?_
        refine aw_topi h8 ?_
        refine aw_aload_0 S d_Md_merge_102 ?_
        refine aw_getf S I_Md 6 hM.2.1 n_fl_Md_22 d_Md_merge_103 rfl (by decide) ?_
        refine aw_bipush (v := 100) S d_Md_merge_106 (by decide) ?_
        refine aw_aload_0 S d_Md_merge_108 ?_
        refine aw_getf S I_Md 9 hM.2.1 n_fl_Md_31 d_Md_merge_109 rfl (by decide) ?_
        refine aw_topi ((hf.1 2 (by decide)).trans hb) ?_
        refine aw_imul S d_Md_merge_112 ?_
        refine aw_iload_2 S d_Md_merge_113 ?_
        refine aw_iadd S d_Md_merge_114 ?_
        refine aw_topi (ix100 (t) (k)) ?_
        refine aw_mld S hM 4 (by decide) ((congrFun (hf.2 4 (by decide)) _).trans (hB k (by omega))) (show _ < 6000 by omega) d_Md_merge_115 ?_
        refine aw_mst S hM 18 (by decide) (show _ < 300 by omega) d_Md_merge_116 (fun g_ hM => ?_)
        refine aw_aload_0 S d_Md_merge_117 ?_
        refine aw_dup S d_Md_merge_118 rfl ?_
        refine aw_getf S I_Md 26 hM.2.1 n_fl_Md_129 d_Md_merge_119 rfl (by decide) ?_
        refine aw_topi h8 ?_
        refine aw_iconst (v := 1) S d_Md_merge_122 (by decide) ?_
        refine aw_iadd S d_Md_merge_123 ?_
        refine aw_topi (nI_1 _) ?_
        refine aw_mput8 S hM n_fl_Md_129 d_Md_merge_124 (fun g_ hM => ?_)
        refine aw_iinc_2 (v := nI (k + 1)) S d_Md_merge_127 ((nI_succ (k)).symm) ?_
        refine aw_goto S 89 d_Md_merge_130 (by decide) ?_
        refine ih (k + 1) to _ _ _ hM (by omega) (by omega) hto hm ?_ ?_ ((hf.f (by decide)).v (by decide))
        · rw [seg_step hk1 (by omega), List.length_append]; rfl
        · rw [seg_step hk1 (by omega)]; exact hI.snoc0
  have s82 : ∀ (to : Nat), to ≤ bs.length → sp_p1 bs ≤ to → (bs.take to).drop (sp_p1 bs) = mMg bs → AW p l e { frames := 0, cells := 0, slots := 0, locals := 40 * 0 } s m args below meth c E 3 (aw_Z E (aw_Pv (fun g2 n2 => n2 = n ∧ ∃ v2 f2, mG E g0 d v2 f2 g2 ∧ mfr [8] [18] v v2 f f2 ∧ v2 8 = nI (mMg bs).length ∧ mL (f2 18) 0 (mMg bs))) below args s 0 0) 0 0 g n 82 [some (.ref d), some (.int (nI to)), none] [] := by
    intro to hto hpt hm
    refine aw_aload_0 S d_Md_merge_82 ?_
    refine aw_getf S I_Md 24 hM.2.1 n_fl_Md_62 d_Md_merge_83 rfl (by decide) ?_
    refine aw_iconst (v := 2) S d_Md_merge_86 (by decide) ?_
    refine aw_mld (j := 2) S hM 16 (by decide) (e2.1) (show _ < 5 by omega) d_Md_merge_87 ?_
    refine aw_istore_2 S d_Md_merge_88 ?_
    exact l89 (to - sp_p1 bs) (sp_p1 bs) to v f _ hM (by omega) (Nat.le_refl _) hto hm (by rw [seg_nil]; exact h8) (by rw [seg_nil]; exact mL.nil) mfr.rf
  have l45 : ∀ (z : Nat), sp_p1 bs + z ≤ sp_p2 bs → mMg bs = sp_fold bs → sp_lsO bs (sp_p1 bs) (sp_p1 bs + z) = sp_lsO bs (sp_p1 bs) (sp_p2 bs) → AW p l e { frames := 0, cells := 0, slots := 0, locals := 40 * 0 } s m args below meth c E 3 (aw_Z E (aw_Pv (fun g2 n2 => n2 = n ∧ ∃ v2 f2, mG E g0 d v2 f2 g2 ∧ mfr [8] [18] v v2 f f2 ∧ v2 8 = nI (mMg bs).length ∧ mL (f2 18) 0 (mMg bs))) below args s 0 0) 0 0 g n 45 [some (.ref d), some (.int (nI (sp_p1 bs + z))), none] [] := by
    intro z
    induction z with
    | zero =>
      intro hz hm hv
      refine aw_iload_1 S d_Md_merge_45 ?_
      refine aw_aload_0 S d_Md_merge_46 ?_
      refine aw_getf S I_Md 24 hM.2.1 n_fl_Md_62 d_Md_merge_47 rfl (by decide) ?_
      refine aw_iconst (v := 2) S d_Md_merge_50 (by decide) ?_
      refine aw_mld (j := 2) S hM 16 (by decide) (e2.1) (show _ < 5 by omega) d_Md_merge_51 ?_
      refine aw_icmp_le S 82 d_Md_merge_52 (by decide) (fun c52 => ?_) (fun c52 => ?_)
      · refine s82 _ (by omega) (by omega) ?_
        rw [hm, sp_fold, ← hv, Nat.add_zero, seg_nil]
        have : sp_lsO bs (sp_p1 bs) (sp_p1 bs) = none := by
          cases h : sp_p1 bs with
          | zero => rfl
          | succ k => rw [sp_lsO_succ, if_pos (by omega)]
        rw [this]
      · exact absurd (nI_le (Nat.le_refl _) (by omega)) c52
    | succ z ih =>
      intro hz hm hv
      have e3 : sp_lsO bs (sp_p1 bs) (sp_p1 bs + (z + 1)) = if bs.getD (sp_p1 bs + z) (-1) = 47 then some (sp_p1 bs + z) else sp_lsO bs (sp_p1 bs) (sp_p1 bs + z) := by
        rw [show sp_p1 bs + (z + 1) = (sp_p1 bs + z) + 1 from rfl, sp_lsO_succ, if_neg (by omega)]
      refine aw_iload_1 S d_Md_merge_45 ?_
      refine aw_aload_0 S d_Md_merge_46 ?_
      refine aw_getf S I_Md 24 hM.2.1 n_fl_Md_62 d_Md_merge_47 rfl (by decide) ?_
      refine aw_iconst (v := 2) S d_Md_merge_50 (by decide) ?_
      refine aw_mld (j := 2) S hM 16 (by decide) (e2.1) (show _ < 5 by omega) d_Md_merge_51 ?_
      refine aw_icmp_le S 82 d_Md_merge_52 (by decide) (fun c52 => ?_) (fun c52 => ?_)
      · exact absurd c52 (nI_ge (by omega) (by omega))
      · refine aw_aload_0 S d_Md_merge_55 ?_
        refine aw_getf S I_Md 6 hM.2.1 n_fl_Md_22 d_Md_merge_56 rfl (by decide) ?_
        refine aw_bipush (v := 100) S d_Md_merge_59 (by decide) ?_
        refine aw_aload_0 S d_Md_merge_61 ?_
        refine aw_getf S I_Md 9 hM.2.1 n_fl_Md_31 d_Md_merge_62 rfl (by decide) ?_
        refine aw_topi hb ?_
        refine aw_imul S d_Md_merge_65 ?_
        refine aw_iload_1 S d_Md_merge_66 ?_
        refine aw_iadd S d_Md_merge_67 ?_
        refine aw_topi (ix100 (t) (sp_p1 bs + (z + 1))) ?_
        refine aw_iconst (v := 1) S d_Md_merge_68 (by decide) ?_
        refine aw_isub S d_Md_merge_69 ?_
        refine aw_topi (nI_pred (100 * t + (sp_p1 bs + z))) ?_
        refine aw_mld S hM 4 (by decide) (hB (sp_p1 bs + z) (by omega)) (show _ < 6000 by omega) d_Md_merge_70 ?_
        refine aw_bipush (v := 47) S d_Md_merge_71 (by decide) ?_
        refine aw_icmp_eq S 82 d_Md_merge_73 (by decide) (fun c73 => ?_) (fun c73 => ?_)
        · refine s82 _ (by omega) (by omega) ?_
          rw [hm, sp_fold, ← hv, e3, if_pos c73]
          rfl
        · refine aw_iinc_1 (v := nI (sp_p1 bs + z)) S d_Md_merge_76 ((dec_i _).trans (nI_pred _)) ?_
          refine aw_goto S 45 d_Md_merge_79 (by decide) ?_
          exact ih (by omega) hm (by rw [← hv, e3, if_neg c73])
  have s38 : mMg bs = sp_fold bs → AW p l e { frames := 0, cells := 0, slots := 0, locals := 40 * 0 } s m args below meth c E 3 (aw_Z E (aw_Pv (fun g2 n2 => n2 = n ∧ ∃ v2 f2, mG E g0 d v2 f2 g2 ∧ mfr [8] [18] v v2 f f2 ∧ v2 8 = nI (mMg bs).length ∧ mL (f2 18) 0 (mMg bs))) below args s 0 0) 0 0 g n 38 [some (.ref d), none, none] [] := by
    intro hm
    refine aw_aload_0 S d_Md_merge_38 ?_
    refine aw_getf S I_Md 25 hM.2.1 n_fl_Md_65 d_Md_merge_39 rfl (by decide) ?_
    refine aw_iconst (v := 2) S d_Md_merge_42 (by decide) ?_
    refine aw_mld (j := 2) S hM 17 (by decide) (e2.2) (show _ < 5 by omega) d_Md_merge_43 ?_
    refine aw_istore_1 S d_Md_merge_44 ?_
    have := l45 (sp_p2 bs - sp_p1 bs) (by omega) hm (by rw [show sp_p1 bs + (sp_p2 bs - sp_p1 bs) = sp_p2 bs by omega])
    rw [show sp_p1 bs + (sp_p2 bs - sp_p1 bs) = sp_p2 bs by omega] at this
    exact this
  cases hq : sp_pt bs 1 with
  | none =>
    refine aw_aload_0 S d_Md_merge_0 ?_
    refine aw_getf S I_Md 24 hM.2.1 n_fl_Md_62 d_Md_merge_1 rfl (by decide) ?_
    refine aw_iconst (v := 1) S d_Md_merge_4 (by decide) ?_
    refine aw_mld (j := 1) S hM 16 (by decide) ((hp.none5 (by decide) hq).1) (show _ < 5 by omega) d_Md_merge_5 ?_
    refine aw_if_lt S 38 d_Md_merge_6 (by decide) (fun c6 => ?_) (fun c6 => ?_)
    · exact s38 (by rw [mMg, hq]; rfl)
    · exact absurd (show (-1 : Int32) < 0 by decide) c6
  | some q =>
    have hq2 := sp_pt_le hq
    refine aw_aload_0 S d_Md_merge_0 ?_
    refine aw_getf S I_Md 24 hM.2.1 n_fl_Md_62 d_Md_merge_1 rfl (by decide) ?_
    refine aw_iconst (v := 1) S d_Md_merge_4 (by decide) ?_
    refine aw_mld (j := 1) S hM 16 (by decide) ((hp.some5 (by decide) hq).1) (show _ < 5 by omega) d_Md_merge_5 ?_
    refine aw_if_lt S 38 d_Md_merge_6 (by decide) (fun c6 => ?_) (fun c6 => ?_)
    · exact absurd c6 (nI_pos (by omega))
    · refine aw_aload_0 S d_Md_merge_9 ?_
      refine aw_getf S I_Md 24 hM.2.1 n_fl_Md_62 d_Md_merge_10 rfl (by decide) ?_
      refine aw_iconst (v := 2) S d_Md_merge_13 (by decide) ?_
      refine aw_mld (j := 2) S hM 16 (by decide) (e2.1) (show _ < 5 by omega) d_Md_merge_14 ?_
      refine aw_aload_0 S d_Md_merge_15 ?_
      refine aw_getf S I_Md 25 hM.2.1 n_fl_Md_65 d_Md_merge_16 rfl (by decide) ?_
      refine aw_iconst (v := 2) S d_Md_merge_19 (by decide) ?_
      refine aw_mld (j := 2) S hM 17 (by decide) (e2.2) (show _ < 5 by omega) d_Md_merge_20 ?_
      refine aw_icmp_ne S 38 d_Md_merge_21 (by decide) (fun c21 => ?_) (fun c21 => ?_)
      · refine s38 ?_
        rw [mMg, plen2, decide_eq_false (fun z => c21 ?_), Bool.and_false]; rfl
        have z0 := (nI_eq (b := 0) (by omega) (by omega)).mp z
        congr 1
        omega
      · refine aw_aload_0 S d_Md_merge_24 ?_
        refine aw_getf S I_Md 27 hM.2.1 n_fl_Md_68 d_Md_merge_25 rfl (by decide) ?_
        refine aw_iconst (v := 0) S d_Md_merge_28 (by decide) ?_
        refine aw_bipush (v := 47) S d_Md_merge_29 (by decide) ?_
        refine aw_mst (j := 0) S hM 18 (by decide) (show _ < 300 by omega) d_Md_merge_31 (fun g_ hM => ?_)
        refine aw_aload_0 S d_Md_merge_32 ?_
        refine aw_iconst (v := 1) S d_Md_merge_33 (by decide) ?_
        refine aw_mput8 S hM n_fl_Md_129 d_Md_merge_34 (fun g_ hM => ?_)
        refine aw_vret S rfl d_Md_merge_37 ?_ (by decide) (by decide)
        have e : mMg bs = [47] := by
          have z := (nI_eq (by omega) (by omega)).mp c21
          rw [mMg, hq, plen2, show sp_p2 bs - sp_p1 bs = 0 by omega]
          rfl
        refine ⟨rfl, _, _, hM, (mfr.rf.f (by decide)).v (by decide), by rw [e]; rfl, ?_⟩
        rw [e]
        exact mL.snoc0 (xs := []) mL.nil
theorem beh_some {xs L : List Int32} {w : Nat} {q : Nat × Nat} (h : sp_pt xs w = some q) : sp_beh L xs w = L ++ (xs.take q.2).drop q.1 := by
  rw [sp_beh, h, if_pos (show (some q).isSome = true from rfl), sp_part, h]
theorem beh_none {xs L : List Int32} {w : Nat} (h : sp_pt xs w = none) : sp_beh L xs w = [] := by rw [sp_beh, h]; rfl
theorem part_some {xs : List Int32} {w : Nat} {q : Nat × Nat} (h : sp_pt xs w = some q) : sp_part xs w = (xs.take q.2).drop q.1 := by rw [sp_part, h]
def RAs (os bs : List Int32) (t : Nat) (v : Nat → Int32) (f : Nat → Nat → Int32) : Prop := v 2 = nI t ∧ mL (f 4) (100 * t) bs ∧ mL (f 13) 0 os ∧ mPs os 5 (f 14) (f 15) ∧ mPs bs 5 (f 16) (f 17)
theorem RAs.keep {os bs : List Int32} {t : Nat} {v v2 : Nat → Int32} {f f2 : Nat → Nat → Int32} (h : RAs os bs t v f) (hf : mfr [4, 8, 9] [10, 18, 19] v v2 f f2) : RAs os bs t v2 f2 := by
  unfold RAs at *
  rw [hf.1 2 (by decide), hf.2 4 (by decide), hf.2 13 (by decide), hf.2 14 (by decide), hf.2 15 (by decide), hf.2 16 (by decide), hf.2 17 (by decide)]
  exact h
theorem op_eq (os : List Int32) (h : os.length < 2 ^ 31) : sp_op os = (sp_oa os || !decide (sp_p1 os = sp_p2 os)) := by
  have b2 := sp_p2_le os
  rw [sp_op, plen2]
  congr 1
  by_cases e : sp_p1 os = sp_p2 os
  · rw [decide_eq_true e, e, Nat.sub_self]; rfl
  · rw [decide_eq_false e, decide_eq_true (nI_nle (by omega) (by omega))]; rfl
set_option maxRecDepth 100000 in
set_option maxHeartbeats 4000000 in
theorem ev_Md_resolveAgainst {l : Launch} {E : aw_E} {g : AH} {n : Nat} {g0 : AH} {d : Nat} {v : Nat → Int32} {f : Nat → Nat → Int32} {os bs : List Int32} {t : Nat} (hM : mG E g0 d v f g) (h4 : v 4 = nI 0) (h0 : v 0 = nI os.length) (hT : mL (f 0) 0 os) (hol : os.length ≤ 96) (hb : v 2 = nI t) (ht : t < 60) (hz : f 3 t = nI bs.length) (hB : mL (f 4) (100 * t) bs) (hbl : bs.length ≤ 100) (hsc : sp_sc bs = true) : EV l E 5 0 0 y_Md_resolveAgainst c_Md_resolveAgainst 5 none g n [.ref d] (aw_Pv (fun g2 n2 => n2 = n ∧ ∃ v2 f2, mG E g0 d v2 f2 g2 ∧ mfr [4, 7, 8, 9] [10, 13, 14, 15, 16, 17, 18, 19] v v2 f f2 ∧ v2 4 = nI (sp_res os bs).length ∧ mL (f2 10) 0 (sp_res os bs))) := by
  refine aw_enter "AddressTermsModel" [some (.ref d), none, none, none, none] (by decide) rfl rfl (Nat.le_of_ble_eq_true rfl) ?_
  intro p e s m args below meth c S hnm
  have hlen := (res_len (os := os) (bs := bs) hsc).2
  have s418 : ∀ (v1 : Nat → Int32) (f1 : Nat → Nat → Int32) (g : AH) (R : List Int32), mG E g0 d v1 f1 g → R ++ sp_r5 os = sp_res os bs → v1 4 = nI R.length → mL (f1 10) 0 R → RAs os bs t v1 f1 → mfr [4, 7, 8, 9] [10, 13, 14, 15, 16, 17, 18, 19] v v1 f f1 → AW p l e { frames := 5, cells := 0, slots := 0, locals := 40 * 5 } s m args below meth c E 5 (aw_Z E (aw_Pv (fun g2 n2 => n2 = n ∧ ∃ v2 f2, mG E g0 d v2 f2 g2 ∧ mfr [4, 7, 8, 9] [10, 13, 14, 15, 16, 17, 18, 19] v v2 f f2 ∧ v2 4 = nI (sp_res os bs).length ∧ mL (f2 10) 0 (sp_res os bs))) below args s 0 0) 0 0 g n 418 [some (.ref d), some (.int (aw_b (sp_sc os))), some (.int (aw_b (sp_oa os))), some (.int (aw_b (sp_oa os))), some (.int (aw_b (decide (sp_p1 os = sp_p2 os))))] [] := by
    intro v1 f1 g R hM hR h4 hL ra hf
    cases hq : sp_pt os 4 with
    | none =>
      rw [sp_r5, beh_none hq, List.append_nil] at hR
      rw [hR] at h4 hL
      refine aw_aload_0 S d_Md_resolveAgainst_418 ?_
      refine aw_getf S I_Md 22 hM.2.1 n_fl_Md_56 d_Md_resolveAgainst_419 rfl (by decide) ?_
      refine aw_iconst (v := 4) S d_Md_resolveAgainst_422 (by decide) ?_
      refine aw_mld (j := 4) S hM 14 (by decide) ((ra.2.2.2.1.none5 (w := 4) (by decide) hq).1) (show _ < 5 by omega) d_Md_resolveAgainst_423 ?_
      refine aw_if_lt S 450 d_Md_resolveAgainst_424 (by decide) (fun c424 => ?_) (fun c424 => ?_)
      · refine aw_vret S rfl d_Md_resolveAgainst_450 ?_ (by decide) (by decide)
        exact ⟨rfl, v1, f1, hM, hf, h4, hL⟩
      · exact absurd (show (-1 : Int32) < 0 by decide) c424
    | some q =>
      have hq2 := sp_pt_le hq
      rw [sp_r5, beh_some hq] at hR
      have hln := congrArg List.length hR
      refine aw_aload_0 S d_Md_resolveAgainst_418 ?_
      refine aw_getf S I_Md 22 hM.2.1 n_fl_Md_56 d_Md_resolveAgainst_419 rfl (by decide) ?_
      refine aw_iconst (v := 4) S d_Md_resolveAgainst_422 (by decide) ?_
      refine aw_mld (j := 4) S hM 14 (by decide) ((ra.2.2.2.1.some5 (w := 4) (by decide) hq).1) (show _ < 5 by omega) d_Md_resolveAgainst_423 ?_
      refine aw_if_lt S 450 d_Md_resolveAgainst_424 (by decide) (fun c424 => ?_) (fun c424 => ?_)
      · exact absurd c424 (nI_pos (by omega))
      · refine aw_aload_0 S d_Md_resolveAgainst_427 ?_
        refine aw_bipush (v := 35) S d_Md_resolveAgainst_428 (by decide) ?_
        refine aw_iconst (v := -1) S d_Md_resolveAgainst_430 (by decide) ?_
        refine aw_callVv0 S (ev_Md_lead 35 (-1) hM h4 hL (by simp only [List.length_append, List.length_cons, List.length_nil] at hln; omega)) mb_Md_lead mi_Md_lead n_ml_Md_159 d_Md_resolveAgainst_431 I_Md hM.2.1 rfl rfl rfl (fun g2_ n2_ h_ => ?_)
        obtain ⟨rfl, v3, f3, hM, hf3, h4, hL⟩ := h_
        rw [show (if (-1 : Int32) < 0 then [(35 : Int32)] else [35, -1]) = [35] from rfl] at h4 hL
        have ra := ra.keep (hf3.wd (by decide) (by decide))
        have hf := hf.tr (hf3.wd (by decide) (by decide))
        refine aw_aload_0 S d_Md_resolveAgainst_434 ?_
        refine aw_aload_0 S d_Md_resolveAgainst_435 ?_
        refine aw_getf S I_Md 22 hM.2.1 n_fl_Md_56 d_Md_resolveAgainst_436 rfl (by decide) ?_
        refine aw_iconst (v := 4) S d_Md_resolveAgainst_439 (by decide) ?_
        refine aw_mld (j := 4) S hM 14 (by decide) ((ra.2.2.2.1.some5 (w := 4) (by decide) hq).1) (show _ < 5 by omega) d_Md_resolveAgainst_440 ?_
        refine aw_aload_0 S d_Md_resolveAgainst_441 ?_
        refine aw_getf S I_Md 23 hM.2.1 n_fl_Md_59 d_Md_resolveAgainst_442 rfl (by decide) ?_
        refine aw_iconst (v := 4) S d_Md_resolveAgainst_445 (by decide) ?_
        refine aw_mld (j := 4) S hM 15 (by decide) ((ra.2.2.2.1.some5 (w := 4) (by decide) hq).2) (show _ < 5 by omega) d_Md_resolveAgainst_446 ?_
        refine aw_callVv0 S (ev_Md_addRef q.1 q.2 hM h4 hL ra.2.2.1 (by omega) hq2.1 hq2.2 (by simp only [List.length_append, List.length_cons, List.length_nil, seg_len hq2.2] at hln ⊢; omega)) mb_Md_addRef mi_Md_addRef n_ml_Md_152 d_Md_resolveAgainst_447 I_Md hM.2.1 rfl rfl rfl (fun g2_ n2_ h_ => ?_)
        obtain ⟨rfl, v4, f4, hM, hf4, h4, hL⟩ := h_
        have ra := ra.keep (hf4.wd (by decide) (by decide))
        have hf := hf.tr (hf4.wd (by decide) (by decide))
        refine aw_vret S rfl d_Md_resolveAgainst_450 ?_ (by decide) (by decide)
        rw [List.append_assoc, hR] at h4 hL
        exact ⟨rfl, v4, f4, hM, hf, h4, hL⟩
  have s342 : ∀ (v1 : Nat → Int32) (f1 : Nat → Nat → Int32) (g : AH) (R : List Int32), mG E g0 d v1 f1 g → R ++ sp_r4 os bs = sp_res os bs → v1 4 = nI R.length → mL (f1 10) 0 R → RAs os bs t v1 f1 → mfr [4, 7, 8, 9] [10, 13, 14, 15, 16, 17, 18, 19] v v1 f f1 → AW p l e { frames := 5, cells := 0, slots := 0, locals := 40 * 5 } s m args below meth c E 5 (aw_Z E (aw_Pv (fun g2 n2 => n2 = n ∧ ∃ v2 f2, mG E g0 d v2 f2 g2 ∧ mfr [4, 7, 8, 9] [10, 13, 14, 15, 16, 17, 18, 19] v v2 f f2 ∧ v2 4 = nI (sp_res os bs).length ∧ mL (f2 10) 0 (sp_res os bs))) below args s 0 0) 0 0 g n 342 [some (.ref d), some (.int (aw_b (sp_sc os))), some (.int (aw_b (sp_oa os))), some (.int (aw_b (sp_oa os))), some (.int (aw_b (decide (sp_p1 os = sp_p2 os))))] [] := by
    intro v1 f1 g R hM hR h4 hL ra hf
    cases hq : sp_pt os 3 with
    | some q =>
      have hq2 := sp_pt_le hq
      have hoq : sp_oq os = true := by rw [sp_oq, hq]; exact Bool.or_true _
      rw [sp_r4, hoq, if_pos rfl, beh_some hq] at hR
      have hln := congrArg List.length hR
      refine aw_aload_0 S d_Md_resolveAgainst_342 ?_
      refine aw_getf S I_Md 22 hM.2.1 n_fl_Md_56 d_Md_resolveAgainst_343 rfl (by decide) ?_
      refine aw_iconst (v := 3) S d_Md_resolveAgainst_346 (by decide) ?_
      refine aw_mld (j := 3) S hM 14 (by decide) ((ra.2.2.2.1.some5 (w := 3) (by decide) hq).1) (show _ < 5 by omega) d_Md_resolveAgainst_347 ?_
      refine aw_if_lt S 377 d_Md_resolveAgainst_348 (by decide) (fun c348 => ?_) (fun c348 => ?_)
      · exact absurd c348 (nI_pos (by omega))
      · refine aw_aload_0 S d_Md_resolveAgainst_351 ?_
        refine aw_bipush (v := 63) S d_Md_resolveAgainst_352 (by decide) ?_
        refine aw_iconst (v := -1) S d_Md_resolveAgainst_354 (by decide) ?_
        refine aw_callVv0 S (ev_Md_lead 63 (-1) hM h4 hL (by simp only [List.length_append, List.length_cons, List.length_nil] at hln; omega)) mb_Md_lead mi_Md_lead n_ml_Md_159 d_Md_resolveAgainst_355 I_Md hM.2.1 rfl rfl rfl (fun g2_ n2_ h_ => ?_)
        obtain ⟨rfl, v3, f3, hM, hf3, h4, hL⟩ := h_
        rw [show (if (-1 : Int32) < 0 then [(63 : Int32)] else [63, -1]) = [63] from rfl] at h4 hL
        have ra := ra.keep (hf3.wd (by decide) (by decide))
        have hf := hf.tr (hf3.wd (by decide) (by decide))
        refine aw_aload_0 S d_Md_resolveAgainst_358 ?_
        refine aw_aload_0 S d_Md_resolveAgainst_359 ?_
        refine aw_getf S I_Md 22 hM.2.1 n_fl_Md_56 d_Md_resolveAgainst_360 rfl (by decide) ?_
        refine aw_iconst (v := 3) S d_Md_resolveAgainst_363 (by decide) ?_
        refine aw_mld (j := 3) S hM 14 (by decide) ((ra.2.2.2.1.some5 (w := 3) (by decide) hq).1) (show _ < 5 by omega) d_Md_resolveAgainst_364 ?_
        refine aw_aload_0 S d_Md_resolveAgainst_365 ?_
        refine aw_getf S I_Md 23 hM.2.1 n_fl_Md_59 d_Md_resolveAgainst_366 rfl (by decide) ?_
        refine aw_iconst (v := 3) S d_Md_resolveAgainst_369 (by decide) ?_
        refine aw_mld (j := 3) S hM 15 (by decide) ((ra.2.2.2.1.some5 (w := 3) (by decide) hq).2) (show _ < 5 by omega) d_Md_resolveAgainst_370 ?_
        refine aw_callVv0 S (ev_Md_addRef q.1 q.2 hM h4 hL ra.2.2.1 (by omega) hq2.1 hq2.2 (by simp only [List.length_append, List.length_cons, List.length_nil, seg_len hq2.2] at hln ⊢; omega)) mb_Md_addRef mi_Md_addRef n_ml_Md_152 d_Md_resolveAgainst_371 I_Md hM.2.1 rfl rfl rfl (fun g2_ n2_ h_ => ?_)
        obtain ⟨rfl, v4, f4, hM, hf4, h4, hL⟩ := h_
        have ra := ra.keep (hf4.wd (by decide) (by decide))
        have hf := hf.tr (hf4.wd (by decide) (by decide))
        refine aw_goto S 418 d_Md_resolveAgainst_374 (by decide) ?_
        rw [List.append_assoc] at h4 hL
        exact s418 v4 f4 _ _ hM (by rw [List.append_assoc]; exact hR) h4 hL ra hf
    | none =>
      have hoq : sp_oq os = sp_op os := by rw [sp_oq, hq]; exact Bool.or_false _
      have hop := op_eq os (by omega)
      have skip : sp_op os = true → sp_beh [63] (if sp_oq os then os else bs) 3 = [] := fun z => by rw [hoq, z, if_pos rfl, beh_none hq]
      have s418' : sp_beh [63] (if sp_oq os then os else bs) 3 = [] → AW p l e { frames := 5, cells := 0, slots := 0, locals := 40 * 5 } s m args below meth c E 5 (aw_Z E (aw_Pv (fun g2 n2 => n2 = n ∧ ∃ v2 f2, mG E g0 d v2 f2 g2 ∧ mfr [4, 7, 8, 9] [10, 13, 14, 15, 16, 17, 18, 19] v v2 f f2 ∧ v2 4 = nI (sp_res os bs).length ∧ mL (f2 10) 0 (sp_res os bs))) below args s 0 0) 0 0 g n 418 [some (.ref d), some (.int (aw_b (sp_sc os))), some (.int (aw_b (sp_oa os))), some (.int (aw_b (sp_oa os))), some (.int (aw_b (decide (sp_p1 os = sp_p2 os))))] [] := fun z => s418 v1 f1 _ R hM (by rw [← hR, sp_r4, z]; rfl) h4 hL ra hf
      have s386 : sp_op os = false → AW p l e { frames := 5, cells := 0, slots := 0, locals := 40 * 5 } s m args below meth c E 5 (aw_Z E (aw_Pv (fun g2 n2 => n2 = n ∧ ∃ v2 f2, mG E g0 d v2 f2 g2 ∧ mfr [4, 7, 8, 9] [10, 13, 14, 15, 16, 17, 18, 19] v v2 f f2 ∧ v2 4 = nI (sp_res os bs).length ∧ mL (f2 10) 0 (sp_res os bs))) below args s 0 0) 0 0 g n 386 [some (.ref d), some (.int (aw_b (sp_sc os))), some (.int (aw_b (sp_oa os))), some (.int (aw_b (sp_oa os))), some (.int (aw_b (decide (sp_p1 os = sp_p2 os))))] [] := by
        intro hop0
        rw [hoq, hop0] at s418'
        cases hb : sp_pt bs 3 with
        | none =>
          have s418' := s418' (beh_none hb)
          refine aw_aload_0 S d_Md_resolveAgainst_386 ?_
          refine aw_getf S I_Md 24 hM.2.1 n_fl_Md_62 d_Md_resolveAgainst_387 rfl (by decide) ?_
          refine aw_iconst (v := 3) S d_Md_resolveAgainst_390 (by decide) ?_
          refine aw_mld (j := 3) S hM 16 (by decide) ((ra.2.2.2.2.none5 (w := 3) (by decide) hb).1) (show _ < 5 by omega) d_Md_resolveAgainst_391 ?_
          refine aw_if_lt S 418 d_Md_resolveAgainst_392 (by decide) (fun c392 => ?_) (fun c392 => ?_)
          · exact s418'
          · exact absurd (show (-1 : Int32) < 0 by decide) c392
        | some q =>
          have hq2 := sp_pt_le hb
          rw [sp_r4, hoq, hop0, if_neg (by decide), beh_some hb] at hR
          have hln := congrArg List.length hR
          refine aw_aload_0 S d_Md_resolveAgainst_386 ?_
          refine aw_getf S I_Md 24 hM.2.1 n_fl_Md_62 d_Md_resolveAgainst_387 rfl (by decide) ?_
          refine aw_iconst (v := 3) S d_Md_resolveAgainst_390 (by decide) ?_
          refine aw_mld (j := 3) S hM 16 (by decide) ((ra.2.2.2.2.some5 (w := 3) (by decide) hb).1) (show _ < 5 by omega) d_Md_resolveAgainst_391 ?_
          refine aw_if_lt S 418 d_Md_resolveAgainst_392 (by decide) (fun c392 => ?_) (fun c392 => ?_)
          · exact absurd c392 (nI_pos (by omega))
          · refine aw_aload_0 S d_Md_resolveAgainst_395 ?_
            refine aw_bipush (v := 63) S d_Md_resolveAgainst_396 (by decide) ?_
            refine aw_iconst (v := -1) S d_Md_resolveAgainst_398 (by decide) ?_
            refine aw_callVv0 S (ev_Md_lead 63 (-1) hM h4 hL (by simp only [List.length_append, List.length_cons, List.length_nil] at hln; omega)) mb_Md_lead mi_Md_lead n_ml_Md_159 d_Md_resolveAgainst_399 I_Md hM.2.1 rfl rfl rfl (fun g2_ n2_ h_ => ?_)
            obtain ⟨rfl, v3, f3, hM, hf3, h4, hL⟩ := h_
            rw [show (if (-1 : Int32) < 0 then [(63 : Int32)] else [63, -1]) = [63] from rfl] at h4 hL
            have ra := ra.keep (hf3.wd (by decide) (by decide))
            have hf := hf.tr (hf3.wd (by decide) (by decide))
            refine aw_aload_0 S d_Md_resolveAgainst_402 ?_
            refine aw_aload_0 S d_Md_resolveAgainst_403 ?_
            refine aw_getf S I_Md 24 hM.2.1 n_fl_Md_62 d_Md_resolveAgainst_404 rfl (by decide) ?_
            refine aw_iconst (v := 3) S d_Md_resolveAgainst_407 (by decide) ?_
            refine aw_mld (j := 3) S hM 16 (by decide) ((ra.2.2.2.2.some5 (w := 3) (by decide) hb).1) (show _ < 5 by omega) d_Md_resolveAgainst_408 ?_
            refine aw_aload_0 S d_Md_resolveAgainst_409 ?_
            refine aw_getf S I_Md 25 hM.2.1 n_fl_Md_65 d_Md_resolveAgainst_410 rfl (by decide) ?_
            refine aw_iconst (v := 3) S d_Md_resolveAgainst_413 (by decide) ?_
            refine aw_mld (j := 3) S hM 17 (by decide) ((ra.2.2.2.2.some5 (w := 3) (by decide) hb).2) (show _ < 5 by omega) d_Md_resolveAgainst_414 ?_
            refine aw_callVv0 S (ev_Md_addBase q.1 q.2 t hM h4 hL ra.1 ht ra.2.1 (by omega) hq2.1 hq2.2 (by simp only [List.length_append, List.length_cons, List.length_nil, seg_len hq2.2] at hln ⊢; omega)) mb_Md_addBase mi_Md_addBase n_ml_Md_156 d_Md_resolveAgainst_415 I_Md hM.2.1 rfl rfl rfl (fun g2_ n2_ h_ => ?_)
            obtain ⟨rfl, v4, f4, hM, hf4, h4, hL⟩ := h_
            have ra := ra.keep (hf4.wd (by decide) (by decide))
            have hf := hf.tr (hf4.wd (by decide) (by decide))
            rw [List.append_assoc] at h4 hL
            exact s418 v4 f4 _ _ hM (by rw [List.append_assoc]; exact hR) h4 hL ra hf
      refine aw_aload_0 S d_Md_resolveAgainst_342 ?_
      refine aw_getf S I_Md 22 hM.2.1 n_fl_Md_56 d_Md_resolveAgainst_343 rfl (by decide) ?_
      refine aw_iconst (v := 3) S d_Md_resolveAgainst_346 (by decide) ?_
      refine aw_mld (j := 3) S hM 14 (by decide) ((ra.2.2.2.1.none5 (w := 3) (by decide) hq).1) (show _ < 5 by omega) d_Md_resolveAgainst_347 ?_
      refine aw_if_lt S 377 d_Md_resolveAgainst_348 (by decide) (fun c348 => ?_) (fun c348 => ?_)
      · refine aw_iload_3 S d_Md_resolveAgainst_377 ?_
        refine aw_if_ne S 418 d_Md_resolveAgainst_378 (by decide) (fun c378 => ?_) (fun c378 => ?_)
        · exact s418' (skip (by rw [hop, aw_b_t c378]; rfl))
        · refine aw_iload_4 S d_Md_resolveAgainst_381 ?_
          refine aw_if_eq S 418 d_Md_resolveAgainst_383 (by decide) (fun c383 => ?_) (fun c383 => ?_)
          · exact s418' (skip (by rw [hop, aw_b_f c383]; exact Bool.or_true _))
          · exact s386 (by rw [hop, aw_b_f c378, aw_b_t c383]; rfl)
      · exact absurd (show (-1 : Int32) < 0 by decide) c348
  have s243 : ∀ (v1 : Nat → Int32) (f1 : Nat → Nat → Int32) (g : AH) (R : List Int32), mG E g0 d v1 f1 g → R ++ sp_r3 os bs = sp_res os bs → v1 4 = nI R.length → mL (f1 10) 0 R → RAs os bs t v1 f1 → mfr [4, 7, 8, 9] [10, 13, 14, 15, 16, 17, 18, 19] v v1 f f1 → AW p l e { frames := 5, cells := 0, slots := 0, locals := 40 * 5 } s m args below meth c E 5 (aw_Z E (aw_Pv (fun g2 n2 => n2 = n ∧ ∃ v2 f2, mG E g0 d v2 f2 g2 ∧ mfr [4, 7, 8, 9] [10, 13, 14, 15, 16, 17, 18, 19] v v2 f f2 ∧ v2 4 = nI (sp_res os bs).length ∧ mL (f2 10) 0 (sp_res os bs))) below args s 0 0) 0 0 g n 243 [some (.ref d), some (.int (aw_b (sp_sc os))), some (.int (aw_b (sp_oa os))), some (.int (aw_b (sp_oa os))), none] [] := by
    intro v1 f1 g R hM hR h4 hL ra hf
    have b2 := sp_p2_le os
    have c2 := sp_p2_le bs
    have hop := op_eq os (by omega)
    have hq : sp_pt os 2 = some (sp_p1 os, sp_p2 os) := rfl
    have hb : sp_pt bs 2 = some (sp_p1 bs, sp_p2 bs) := rfl
    have s293 : sp_op os = true → AW p l e { frames := 5, cells := 0, slots := 0, locals := 40 * 5 } s m args below meth c E 5 (aw_Z E (aw_Pv (fun g2 n2 => n2 = n ∧ ∃ v2 f2, mG E g0 d v2 f2 g2 ∧ mfr [4, 7, 8, 9] [10, 13, 14, 15, 16, 17, 18, 19] v v2 f f2 ∧ v2 4 = nI (sp_res os bs).length ∧ mL (f2 10) 0 (sp_res os bs))) below args s 0 0) 0 0 g n 293 [some (.ref d), some (.int (aw_b (sp_sc os))), some (.int (aw_b (sp_oa os))), some (.int (aw_b (sp_oa os))), some (.int (aw_b (decide (sp_p1 os = sp_p2 os))))] [] := by
      intro h1
      rw [sp_r3, h1, if_pos rfl] at hR
      have hln := congrArg List.length hR
      have hgl := len_gath (sp_oa os) os bs
      have hgl2 : (sp_gath (sp_oa os) os bs).length ≤ 197 := by split at hgl <;> omega
      have s322 : ∀ (v1 : Nat → Int32) (f1 : Nat → Nat → Int32) (g : AH) (I : List Int32), mG E g0 d v1 f1 g → I ++ sp_part os 2 = sp_gath (sp_oa os) os bs → v1 8 = nI I.length → mL (f1 18) 0 I → v1 4 = nI R.length → mL (f1 10) 0 R → RAs os bs t v1 f1 → mfr [4, 7, 8, 9] [10, 13, 14, 15, 16, 17, 18, 19] v v1 f f1 → AW p l e { frames := 5, cells := 0, slots := 0, locals := 40 * 5 } s m args below meth c E 5 (aw_Z E (aw_Pv (fun g2 n2 => n2 = n ∧ ∃ v2 f2, mG E g0 d v2 f2 g2 ∧ mfr [4, 7, 8, 9] [10, 13, 14, 15, 16, 17, 18, 19] v v2 f f2 ∧ v2 4 = nI (sp_res os bs).length ∧ mL (f2 10) 0 (sp_res os bs))) below args s 0 0) 0 0 g n 322 [some (.ref d), some (.int (aw_b (sp_sc os))), some (.int (aw_b (sp_oa os))), some (.int (aw_b (sp_oa os))), some (.int (aw_b (decide (sp_p1 os = sp_p2 os))))] [] := by
        intro v1 f1 g I hM hg h8 hI h4 hL ra hf
        have hgl3 := congrArg List.length hg
        rw [part_some hq, List.length_append, seg_len b2.2] at hgl3
        refine aw_aload_0 S d_Md_resolveAgainst_322 ?_
        refine aw_aload_0 S d_Md_resolveAgainst_323 ?_
        refine aw_getf S I_Md 22 hM.2.1 n_fl_Md_56 d_Md_resolveAgainst_324 rfl (by decide) ?_
        refine aw_iconst (v := 2) S d_Md_resolveAgainst_327 (by decide) ?_
        refine aw_mld (j := 2) S hM 14 (by decide) ((ra.2.2.2.1.some5 (w := 2) (by decide) hq).1) (show _ < 5 by omega) d_Md_resolveAgainst_328 ?_
        refine aw_aload_0 S d_Md_resolveAgainst_329 ?_
        refine aw_getf S I_Md 23 hM.2.1 n_fl_Md_59 d_Md_resolveAgainst_330 rfl (by decide) ?_
        refine aw_iconst (v := 2) S d_Md_resolveAgainst_333 (by decide) ?_
        refine aw_mld (j := 2) S hM 15 (by decide) ((ra.2.2.2.1.some5 (w := 2) (by decide) hq).2) (show _ < 5 by omega) d_Md_resolveAgainst_334 ?_
        refine aw_callVv0 S (ev_Md_feed (sp_p1 os) (sp_p2 os) hM h8 hI ra.2.2.1 (by omega) b2.1 b2.2 (by omega)) mb_Md_feed mi_Md_feed n_ml_Md_165 d_Md_resolveAgainst_335 I_Md hM.2.1 rfl rfl rfl (fun g2_ n2_ h_ => ?_)
        obtain ⟨rfl, v3, f3, hM, hf3, h8, hI⟩ := h_
        have ra := ra.keep (hf3.wd (by decide) (by decide))
        have hf := hf.tr (hf3.wd (by decide) (by decide))
        rw [show I ++ (os.take (sp_p2 os)).drop (sp_p1 os) = sp_gath (sp_oa os) os bs from hg] at h8 hI
        refine aw_aload_0 S d_Md_resolveAgainst_338 ?_
        refine aw_callVv0 S (ev_Md_plain hM h8 hI (by omega) ((hf3.1 4 (by decide)).trans h4) (by rw [hf3.2 10 (by decide)]; exact hL) (by rw [List.length_append] at hln; omega)) mb_Md_plain mi_Md_plain n_ml_Md_168 d_Md_resolveAgainst_339 I_Md hM.2.1 rfl rfl rfl (fun g2_ n2_ h_ => ?_)
        obtain ⟨rfl, v4, f4, hM, hf4, h4, hL⟩ := h_
        have ra := ra.keep hf4
        have hf := hf.tr (hf4.wd (by decide) (by decide))
        exact s342 v4 f4 _ _ hM (by rw [List.append_assoc]; exact hR) h4 hL ra hf
      refine aw_aload_0 S d_Md_resolveAgainst_293 ?_
      refine aw_iconst (v := 0) S d_Md_resolveAgainst_294 (by decide) ?_
      refine aw_mput8 S hM n_fl_Md_129 d_Md_resolveAgainst_295 (fun g_ hM => ?_)
      refine aw_iload_3 S d_Md_resolveAgainst_298 ?_
      refine aw_if_ne S 322 d_Md_resolveAgainst_299 (by decide) (fun c299 => ?_) (fun c299 => ?_)
      · exact s322 _ f1 _ [] hM (by rw [sp_gath, aw_b_t c299]; rfl) rfl mL.nil h4 hL (ra.keep (mfr.rf.v (by decide))) (hf.v (by decide))
      · have hne : ¬ sp_p1 os = sp_p2 os := by
          have z := hop
          rw [h1, aw_b_f c299] at z
          intro y
          rw [decide_eq_true y] at z
          cases z
        refine aw_aload_0 S d_Md_resolveAgainst_302 ?_
        refine aw_getf S I_Md 21 hM.2.1 n_fl_Md_53 d_Md_resolveAgainst_303 rfl (by decide) ?_
        refine aw_aload_0 S d_Md_resolveAgainst_306 ?_
        refine aw_getf S I_Md 22 hM.2.1 n_fl_Md_56 d_Md_resolveAgainst_307 rfl (by decide) ?_
        refine aw_iconst (v := 2) S d_Md_resolveAgainst_310 (by decide) ?_
        refine aw_mld (j := 2) S hM 14 (by decide) ((ra.2.2.2.1.some5 (w := 2) (by decide) hq).1) (show _ < 5 by omega) d_Md_resolveAgainst_311 ?_
        refine aw_mld (j := sp_p1 os) S hM 13 (by decide) (ra.2.2.1.at0 (by omega)) (show _ < 100 by omega) d_Md_resolveAgainst_312 ?_
        refine aw_bipush (v := 47) S d_Md_resolveAgainst_313 (by decide) ?_
        refine aw_icmp_eq S 322 d_Md_resolveAgainst_315 (by decide) (fun c315 => ?_) (fun c315 => ?_)
        · have htop : sp_top os = true := by rw [sp_top, decide_eq_true (show 0 < sp_p2 os - sp_p1 os by omega), decide_eq_true c315]; rfl
          exact s322 _ f1 _ [] hM (by rw [sp_gath, htop]; simp) rfl mL.nil h4 hL (ra.keep (mfr.rf.v (by decide))) (hf.v (by decide))
        · refine aw_aload_0 S d_Md_resolveAgainst_318 ?_
          refine aw_callVv0 S (ev_Md_merge hM rfl (ra.keep (mfr.rf.v (by decide))).1 ht ra.2.1 (by omega) ra.2.2.2.2) mb_Md_merge mi_Md_merge n_ml_Md_162 d_Md_resolveAgainst_319 I_Md hM.2.1 rfl rfl rfl (fun g2_ n2_ h_ => ?_)
          obtain ⟨rfl, v3, f3, hM, hf3, h8, hI⟩ := h_
          have htop : sp_top os = false := by rw [sp_top, decide_eq_false c315, Bool.and_false]
          exact s322 v3 f3 _ (mMg bs) hM (by rw [sp_gath, htop, aw_b_f c299]; rfl) h8 hI ((hf3.1 4 (by decide)).trans h4) (by rw [hf3.2 10 (by decide)]; exact hL) ((ra.keep (mfr.rf.v (by decide))).keep (hf3.wd (by decide) (by decide))) ((hf.v (by decide)).tr (hf3.wd (by decide) (by decide)))
    have s265 : AW p l e { frames := 5, cells := 0, slots := 0, locals := 40 * 5 } s m args below meth c E 5 (aw_Z E (aw_Pv (fun g2 n2 => n2 = n ∧ ∃ v2 f2, mG E g0 d v2 f2 g2 ∧ mfr [4, 7, 8, 9] [10, 13, 14, 15, 16, 17, 18, 19] v v2 f f2 ∧ v2 4 = nI (sp_res os bs).length ∧ mL (f2 10) 0 (sp_res os bs))) below args s 0 0) 0 0 g n 265 [some (.ref d), some (.int (aw_b (sp_sc os))), some (.int (aw_b (sp_oa os))), some (.int (aw_b (sp_oa os))), some (.int (aw_b (decide (sp_p1 os = sp_p2 os))))] [] := by
      refine aw_iload_3 S d_Md_resolveAgainst_265 ?_
      refine aw_if_ne S 293 d_Md_resolveAgainst_266 (by decide) (fun c266 => ?_) (fun c266 => ?_)
      · exact s293 (by rw [hop, aw_b_t c266]; rfl)
      · refine aw_iload_4 S d_Md_resolveAgainst_269 ?_
        refine aw_if_eq S 293 d_Md_resolveAgainst_271 (by decide) (fun c271 => ?_) (fun c271 => ?_)
        · exact s293 (by rw [hop, aw_b_f c271]; exact Bool.or_true _)
        · have hop0 : sp_op os = false := by rw [hop, aw_b_f c266, aw_b_t c271]; rfl
          rw [sp_r3, hop0, if_neg (by decide), part_some hb] at hR
          have hln := congrArg List.length hR
          refine aw_aload_0 S d_Md_resolveAgainst_274 ?_
          refine aw_aload_0 S d_Md_resolveAgainst_275 ?_
          refine aw_getf S I_Md 24 hM.2.1 n_fl_Md_62 d_Md_resolveAgainst_276 rfl (by decide) ?_
          refine aw_iconst (v := 2) S d_Md_resolveAgainst_279 (by decide) ?_
          refine aw_mld (j := 2) S hM 16 (by decide) ((ra.2.2.2.2.some5 (w := 2) (by decide) hb).1) (show _ < 5 by omega) d_Md_resolveAgainst_280 ?_
          refine aw_aload_0 S d_Md_resolveAgainst_281 ?_
          refine aw_getf S I_Md 25 hM.2.1 n_fl_Md_65 d_Md_resolveAgainst_282 rfl (by decide) ?_
          refine aw_iconst (v := 2) S d_Md_resolveAgainst_285 (by decide) ?_
          refine aw_mld (j := 2) S hM 17 (by decide) ((ra.2.2.2.2.some5 (w := 2) (by decide) hb).2) (show _ < 5 by omega) d_Md_resolveAgainst_286 ?_
          refine aw_callVv0 S (ev_Md_addBase (sp_p1 bs) (sp_p2 bs) t hM h4 hL ra.1 ht ra.2.1 (by omega) c2.1 c2.2 (by rw [List.length_append, List.length_append, seg_len c2.2] at hln; omega)) mb_Md_addBase mi_Md_addBase n_ml_Md_156 d_Md_resolveAgainst_287 I_Md hM.2.1 rfl rfl rfl (fun g2_ n2_ h_ => ?_)
          obtain ⟨rfl, v4, f4, hM, hf4, h4, hL⟩ := h_
          have ra := ra.keep (hf4.wd (by decide) (by decide))
          have hf := hf.tr (hf4.wd (by decide) (by decide))
          refine aw_goto S 342 d_Md_resolveAgainst_290 (by decide) ?_
          exact s342 v4 f4 _ _ hM (by rw [List.append_assoc]; exact hR) h4 hL ra hf
    refine aw_aload_0 S d_Md_resolveAgainst_243 ?_
    refine aw_getf S I_Md 22 hM.2.1 n_fl_Md_56 d_Md_resolveAgainst_244 rfl (by decide) ?_
    refine aw_iconst (v := 2) S d_Md_resolveAgainst_247 (by decide) ?_
    refine aw_mld (j := 2) S hM 14 (by decide) ((ra.2.2.2.1.some5 (w := 2) (by decide) hq).1) (show _ < 5 by omega) d_Md_resolveAgainst_248 ?_
    refine aw_aload_0 S d_Md_resolveAgainst_249 ?_
    refine aw_getf S I_Md 23 hM.2.1 n_fl_Md_59 d_Md_resolveAgainst_250 rfl (by decide) ?_
    refine aw_iconst (v := 2) S d_Md_resolveAgainst_253 (by decide) ?_
    refine aw_mld (j := 2) S hM 15 (by decide) ((ra.2.2.2.1.some5 (w := 2) (by decide) hq).2) (show _ < 5 by omega) d_Md_resolveAgainst_254 ?_
    refine aw_icmp_ne S 262 d_Md_resolveAgainst_255 (by decide) (fun c255 => ?_) (fun c255 => ?_)
    · refine aw_iconst (v := 0) S d_Md_resolveAgainst_262 (by decide) ?_
      refine aw_istore_4 S d_Md_resolveAgainst_263 ?_
      rw [decide_eq_false (show ¬ sp_p1 os = sp_p2 os from fun z => c255 (by rw [z]))] at s265
      exact s265
    · refine aw_iconst (v := 1) S d_Md_resolveAgainst_258 (by decide) ?_
      refine aw_goto S 263 d_Md_resolveAgainst_259 (by decide) ?_
      refine aw_istore_4 S d_Md_resolveAgainst_263 ?_
      rw [decide_eq_true (show sp_p1 os = sp_p2 os from (nI_eq (by omega) (by omega)).mp c255)] at s265
      exact s265
  have s166 : ∀ (v1 : Nat → Int32) (f1 : Nat → Nat → Int32) (g : AH) (R : List Int32), mG E g0 d v1 f1 g → R ++ sp_r2 os bs = sp_res os bs → v1 4 = nI R.length → mL (f1 10) 0 R → RAs os bs t v1 f1 → mfr [4, 7, 8, 9] [10, 13, 14, 15, 16, 17, 18, 19] v v1 f f1 → AW p l e { frames := 5, cells := 0, slots := 0, locals := 40 * 5 } s m args below meth c E 5 (aw_Z E (aw_Pv (fun g2 n2 => n2 = n ∧ ∃ v2 f2, mG E g0 d v2 f2 g2 ∧ mfr [4, 7, 8, 9] [10, 13, 14, 15, 16, 17, 18, 19] v v2 f f2 ∧ v2 4 = nI (sp_res os bs).length ∧ mL (f2 10) 0 (sp_res os bs))) below args s 0 0) 0 0 g n 166 [some (.ref d), some (.int (aw_b (sp_sc os))), some (.int (aw_b (sp_oa os))), some (.int (aw_b (sp_oa os))), none] [] := by
    intro v1 f1 g R hM hR h4 hL ra hf
    cases ho : sp_oa os with
    | true =>
      rw [sp_r2, ho, if_pos rfl] at hR
      rw [ho] at s243
      cases hq : sp_pt os 1 with
      | none =>
        rw [beh_none hq] at hR
        refine aw_iload_3 S d_Md_resolveAgainst_166 ?_
        refine aw_if_eq S 206 d_Md_resolveAgainst_167 (by decide) (fun c167 => ?_) (fun c167 => ?_)
        · exact absurd c167 (by decide)
        · refine aw_aload_0 S d_Md_resolveAgainst_170 ?_
          refine aw_getf S I_Md 22 hM.2.1 n_fl_Md_56 d_Md_resolveAgainst_171 rfl (by decide) ?_
          refine aw_iconst (v := 1) S d_Md_resolveAgainst_174 (by decide) ?_
          refine aw_mld (j := 1) S hM 14 (by decide) ((ra.2.2.2.1.none5 (w := 1) (by decide) hq).1) (show _ < 5 by omega) d_Md_resolveAgainst_175 ?_
          refine aw_if_lt S 206 d_Md_resolveAgainst_176 (by decide) (fun c176 => ?_) (fun c176 => ?_)
          · refine aw_iload_3 S d_Md_resolveAgainst_206 ?_
            refine aw_if_ne S 243 d_Md_resolveAgainst_207 (by decide) (fun c207 => ?_) (fun c207 => ?_)
            · exact s243 v1 f1 _ R hM hR h4 hL ra hf
            · exact absurd rfl (fun z : aw_b true = aw_b true => absurd c207 (by decide))
          · exact absurd (show (-1 : Int32) < 0 by decide) c176
      | some q =>
        have hq2 := sp_pt_le hq
        rw [beh_some hq] at hR
        have hln := congrArg List.length hR
        refine aw_iload_3 S d_Md_resolveAgainst_166 ?_
        refine aw_if_eq S 206 d_Md_resolveAgainst_167 (by decide) (fun c167 => ?_) (fun c167 => ?_)
        · exact absurd c167 (by decide)
        · refine aw_aload_0 S d_Md_resolveAgainst_170 ?_
          refine aw_getf S I_Md 22 hM.2.1 n_fl_Md_56 d_Md_resolveAgainst_171 rfl (by decide) ?_
          refine aw_iconst (v := 1) S d_Md_resolveAgainst_174 (by decide) ?_
          refine aw_mld (j := 1) S hM 14 (by decide) ((ra.2.2.2.1.some5 (w := 1) (by decide) hq).1) (show _ < 5 by omega) d_Md_resolveAgainst_175 ?_
          refine aw_if_lt S 206 d_Md_resolveAgainst_176 (by decide) (fun c176 => ?_) (fun c176 => ?_)
          · exact absurd c176 (nI_pos (by omega))
          · refine aw_aload_0 S d_Md_resolveAgainst_179 ?_
            refine aw_bipush (v := 47) S d_Md_resolveAgainst_180 (by decide) ?_
            refine aw_bipush (v := 47) S d_Md_resolveAgainst_182 (by decide) ?_
            refine aw_callVv0 S (ev_Md_lead 47 (47) hM h4 hL (by simp only [List.length_append, List.length_cons, List.length_nil] at hln; omega)) mb_Md_lead mi_Md_lead n_ml_Md_159 d_Md_resolveAgainst_184 I_Md hM.2.1 rfl rfl rfl (fun g2_ n2_ h_ => ?_)
            obtain ⟨rfl, v3, f3, hM, hf3, h4, hL⟩ := h_
            rw [show (if (47 : Int32) < 0 then [(47 : Int32)] else [47, 47]) = [47, 47] from rfl] at h4 hL
            have ra := ra.keep (hf3.wd (by decide) (by decide))
            have hf := hf.tr (hf3.wd (by decide) (by decide))
            refine aw_aload_0 S d_Md_resolveAgainst_187 ?_
            refine aw_aload_0 S d_Md_resolveAgainst_188 ?_
            refine aw_getf S I_Md 22 hM.2.1 n_fl_Md_56 d_Md_resolveAgainst_189 rfl (by decide) ?_
            refine aw_iconst (v := 1) S d_Md_resolveAgainst_192 (by decide) ?_
            refine aw_mld (j := 1) S hM 14 (by decide) ((ra.2.2.2.1.some5 (w := 1) (by decide) hq).1) (show _ < 5 by omega) d_Md_resolveAgainst_193 ?_
            refine aw_aload_0 S d_Md_resolveAgainst_194 ?_
            refine aw_getf S I_Md 23 hM.2.1 n_fl_Md_59 d_Md_resolveAgainst_195 rfl (by decide) ?_
            refine aw_iconst (v := 1) S d_Md_resolveAgainst_198 (by decide) ?_
            refine aw_mld (j := 1) S hM 15 (by decide) ((ra.2.2.2.1.some5 (w := 1) (by decide) hq).2) (show _ < 5 by omega) d_Md_resolveAgainst_199 ?_
            refine aw_callVv0 S (ev_Md_addRef q.1 q.2 hM h4 hL ra.2.2.1 (by omega) hq2.1 hq2.2 (by simp only [List.length_append, List.length_cons, List.length_nil, seg_len hq2.2] at hln ⊢; omega)) mb_Md_addRef mi_Md_addRef n_ml_Md_152 d_Md_resolveAgainst_200 I_Md hM.2.1 rfl rfl rfl (fun g2_ n2_ h_ => ?_)
            obtain ⟨rfl, v4, f4, hM, hf4, h4, hL⟩ := h_
            have ra := ra.keep (hf4.wd (by decide) (by decide))
            have hf := hf.tr (hf4.wd (by decide) (by decide))
            refine aw_goto S 243 d_Md_resolveAgainst_203 (by decide) ?_
            rw [List.append_assoc] at h4 hL
            exact s243 v4 f4 _ _ hM (by rw [List.append_assoc]; exact hR) h4 hL ra hf
    | false =>
      rw [sp_r2, ho, if_neg (by decide)] at hR
      rw [ho] at s243
      cases hb : sp_pt bs 1 with
      | none =>
        rw [beh_none hb] at hR
        refine aw_iload_3 S d_Md_resolveAgainst_166 ?_
        refine aw_if_eq S 206 d_Md_resolveAgainst_167 (by decide) (fun c167 => ?_) (fun c167 => ?_)
        · refine aw_iload_3 S d_Md_resolveAgainst_206 ?_
          refine aw_if_ne S 243 d_Md_resolveAgainst_207 (by decide) (fun c207 => ?_) (fun c207 => ?_)
          · exact absurd rfl c207
          · refine aw_aload_0 S d_Md_resolveAgainst_210 ?_
            refine aw_getf S I_Md 24 hM.2.1 n_fl_Md_62 d_Md_resolveAgainst_211 rfl (by decide) ?_
            refine aw_iconst (v := 1) S d_Md_resolveAgainst_214 (by decide) ?_
            refine aw_mld (j := 1) S hM 16 (by decide) ((ra.2.2.2.2.none5 (w := 1) (by decide) hb).1) (show _ < 5 by omega) d_Md_resolveAgainst_215 ?_
            refine aw_if_lt S 243 d_Md_resolveAgainst_216 (by decide) (fun c216 => ?_) (fun c216 => ?_)
            · exact s243 v1 f1 _ R hM hR h4 hL ra hf
            · exact absurd (show (-1 : Int32) < 0 by decide) c216
        · exact absurd rfl c167
      | some q =>
        have hq2 := sp_pt_le hb
        rw [beh_some hb] at hR
        have hln := congrArg List.length hR
        refine aw_iload_3 S d_Md_resolveAgainst_166 ?_
        refine aw_if_eq S 206 d_Md_resolveAgainst_167 (by decide) (fun c167 => ?_) (fun c167 => ?_)
        · refine aw_iload_3 S d_Md_resolveAgainst_206 ?_
          refine aw_if_ne S 243 d_Md_resolveAgainst_207 (by decide) (fun c207 => ?_) (fun c207 => ?_)
          · exact absurd rfl c207
          · refine aw_aload_0 S d_Md_resolveAgainst_210 ?_
            refine aw_getf S I_Md 24 hM.2.1 n_fl_Md_62 d_Md_resolveAgainst_211 rfl (by decide) ?_
            refine aw_iconst (v := 1) S d_Md_resolveAgainst_214 (by decide) ?_
            refine aw_mld (j := 1) S hM 16 (by decide) ((ra.2.2.2.2.some5 (w := 1) (by decide) hb).1) (show _ < 5 by omega) d_Md_resolveAgainst_215 ?_
            refine aw_if_lt S 243 d_Md_resolveAgainst_216 (by decide) (fun c216 => ?_) (fun c216 => ?_)
            · exact absurd c216 (nI_pos (by omega))
            · refine aw_aload_0 S d_Md_resolveAgainst_219 ?_
              refine aw_bipush (v := 47) S d_Md_resolveAgainst_220 (by decide) ?_
              refine aw_bipush (v := 47) S d_Md_resolveAgainst_222 (by decide) ?_
              refine aw_callVv0 S (ev_Md_lead 47 (47) hM h4 hL (by simp only [List.length_append, List.length_cons, List.length_nil] at hln; omega)) mb_Md_lead mi_Md_lead n_ml_Md_159 d_Md_resolveAgainst_224 I_Md hM.2.1 rfl rfl rfl (fun g2_ n2_ h_ => ?_)
              obtain ⟨rfl, v3, f3, hM, hf3, h4, hL⟩ := h_
              rw [show (if (47 : Int32) < 0 then [(47 : Int32)] else [47, 47]) = [47, 47] from rfl] at h4 hL
              have ra := ra.keep (hf3.wd (by decide) (by decide))
              have hf := hf.tr (hf3.wd (by decide) (by decide))
              refine aw_aload_0 S d_Md_resolveAgainst_227 ?_
              refine aw_aload_0 S d_Md_resolveAgainst_228 ?_
              refine aw_getf S I_Md 24 hM.2.1 n_fl_Md_62 d_Md_resolveAgainst_229 rfl (by decide) ?_
              refine aw_iconst (v := 1) S d_Md_resolveAgainst_232 (by decide) ?_
              refine aw_mld (j := 1) S hM 16 (by decide) ((ra.2.2.2.2.some5 (w := 1) (by decide) hb).1) (show _ < 5 by omega) d_Md_resolveAgainst_233 ?_
              refine aw_aload_0 S d_Md_resolveAgainst_234 ?_
              refine aw_getf S I_Md 25 hM.2.1 n_fl_Md_65 d_Md_resolveAgainst_235 rfl (by decide) ?_
              refine aw_iconst (v := 1) S d_Md_resolveAgainst_238 (by decide) ?_
              refine aw_mld (j := 1) S hM 17 (by decide) ((ra.2.2.2.2.some5 (w := 1) (by decide) hb).2) (show _ < 5 by omega) d_Md_resolveAgainst_239 ?_
              refine aw_callVv0 S (ev_Md_addBase q.1 q.2 t hM h4 hL ra.1 ht ra.2.1 (by omega) hq2.1 hq2.2 (by simp only [List.length_append, List.length_cons, List.length_nil, seg_len hq2.2] at hln ⊢; omega)) mb_Md_addBase mi_Md_addBase n_ml_Md_156 d_Md_resolveAgainst_240 I_Md hM.2.1 rfl rfl rfl (fun g2_ n2_ h_ => ?_)
              obtain ⟨rfl, v4, f4, hM, hf4, h4, hL⟩ := h_
              have ra := ra.keep (hf4.wd (by decide) (by decide))
              have hf := hf.tr (hf4.wd (by decide) (by decide))
              rw [List.append_assoc] at h4 hL
              exact s243 v4 f4 _ _ hM (by rw [List.append_assoc]; exact hR) h4 hL ra hf
        · exact absurd rfl c167
  have s158 : ∀ (v1 : Nat → Int32) (f1 : Nat → Nat → Int32) (g : AH) (R : List Int32), mG E g0 d v1 f1 g → R ++ ([58] ++ sp_r2 os bs) = sp_res os bs → v1 4 = nI R.length → mL (f1 10) 0 R → RAs os bs t v1 f1 → mfr [4, 7, 8, 9] [10, 13, 14, 15, 16, 17, 18, 19] v v1 f f1 → AW p l e { frames := 5, cells := 0, slots := 0, locals := 40 * 5 } s m args below meth c E 5 (aw_Z E (aw_Pv (fun g2 n2 => n2 = n ∧ ∃ v2 f2, mG E g0 d v2 f2 g2 ∧ mfr [4, 7, 8, 9] [10, 13, 14, 15, 16, 17, 18, 19] v v2 f f2 ∧ v2 4 = nI (sp_res os bs).length ∧ mL (f2 10) 0 (sp_res os bs))) below args s 0 0) 0 0 g n 158 [some (.ref d), some (.int (aw_b (sp_sc os))), some (.int (aw_b (sp_oa os))), none, none] [] := by
    intro v1 f1 g R hM hR h4 hL ra hf
    have hln := congrArg List.length hR
    refine aw_aload_0 S d_Md_resolveAgainst_158 ?_
    refine aw_bipush (v := 58) S d_Md_resolveAgainst_159 (by decide) ?_
    refine aw_callVv0 S (ev_Md_add 58 hM h4 hL (by simp only [List.length_append, List.length_cons, List.length_nil] at hln; omega)) mb_Md_add mi_Md_add n_ml_Md_146 d_Md_resolveAgainst_161 I_Md hM.2.1 rfl rfl rfl (fun g2_ n2_ h_ => ?_)
    obtain ⟨rfl, v3, f3, hM, hf3, h4, hL⟩ := h_
    refine aw_iload_2 S d_Md_resolveAgainst_164 ?_
    refine aw_istore_3 S d_Md_resolveAgainst_165 ?_
    exact s166 v3 f3 _ _ hM (by rw [List.append_assoc]; exact hR) h4 hL (ra.keep (hf3.wd (by decide) (by decide))) (hf.tr (hf3.wd (by decide) (by decide)))
  have s119 : ∀ (v1 : Nat → Int32) (f1 : Nat → Nat → Int32) (g : AH), mG E g0 d v1 f1 g → v1 4 = nI 0 → mL (f1 10) 0 [] → RAs os bs t v1 f1 → mfr [4, 7, 8, 9] [10, 13, 14, 15, 16, 17, 18, 19] v v1 f f1 → AW p l e { frames := 5, cells := 0, slots := 0, locals := 40 * 5 } s m args below meth c E 5 (aw_Z E (aw_Pv (fun g2 n2 => n2 = n ∧ ∃ v2 f2, mG E g0 d v2 f2 g2 ∧ mfr [4, 7, 8, 9] [10, 13, 14, 15, 16, 17, 18, 19] v v2 f f2 ∧ v2 4 = nI (sp_res os bs).length ∧ mL (f2 10) 0 (sp_res os bs))) below args s 0 0) 0 0 g n 119 [some (.ref d), some (.int (aw_b (sp_sc os))), some (.int (aw_b (sp_oa os))), none, none] [] := by
    intro v1 f1 g hM h4 hL ra hf
    have hR : sp_part (if sp_sc os then os else bs) 0 ++ ([58] ++ sp_r2 os bs) = sp_res os bs := rfl
    have hln := congrArg List.length hR
    cases ho : sp_sc os with
    | true =>
      rw [ho] at s158
      rw [ho, if_pos rfl] at hR hln
      obtain ⟨q, hq⟩ := Option.isSome_iff_exists.mp ho
      have hq2 := sp_pt_le hq
      rw [part_some hq] at hR hln
      refine aw_iload_1 S d_Md_resolveAgainst_119 ?_
      refine aw_if_eq S 142 d_Md_resolveAgainst_120 (by decide) (fun c120 => ?_) (fun c120 => ?_)
      · exact absurd c120 (by decide)
      · refine aw_aload_0 S d_Md_resolveAgainst_123 ?_
        refine aw_aload_0 S d_Md_resolveAgainst_124 ?_
        refine aw_getf S I_Md 22 hM.2.1 n_fl_Md_56 d_Md_resolveAgainst_125 rfl (by decide) ?_
        refine aw_iconst (v := 0) S d_Md_resolveAgainst_128 (by decide) ?_
        refine aw_mld (j := 0) S hM 14 (by decide) ((ra.2.2.2.1.some5 (w := 0) (by decide) hq).1) (show _ < 5 by omega) d_Md_resolveAgainst_129 ?_
        refine aw_aload_0 S d_Md_resolveAgainst_130 ?_
        refine aw_getf S I_Md 23 hM.2.1 n_fl_Md_59 d_Md_resolveAgainst_131 rfl (by decide) ?_
        refine aw_iconst (v := 0) S d_Md_resolveAgainst_134 (by decide) ?_
        refine aw_mld (j := 0) S hM 15 (by decide) ((ra.2.2.2.1.some5 (w := 0) (by decide) hq).2) (show _ < 5 by omega) d_Md_resolveAgainst_135 ?_
        refine aw_callVv0 S (ev_Md_addRef (xs := []) q.1 q.2 hM h4 hL ra.2.2.1 (by omega) hq2.1 hq2.2 (by simp only [List.length_append, List.length_cons, List.length_nil, seg_len hq2.2] at hln ⊢; omega)) mb_Md_addRef mi_Md_addRef n_ml_Md_152 d_Md_resolveAgainst_136 I_Md hM.2.1 rfl rfl rfl (fun g2_ n2_ h_ => ?_)
        obtain ⟨rfl, v4, f4, hM, hf4, h4, hL⟩ := h_
        have ra := ra.keep (hf4.wd (by decide) (by decide))
        have hf := hf.tr (hf4.wd (by decide) (by decide))
        refine aw_goto S 158 d_Md_resolveAgainst_139 (by decide) ?_
        rw [List.nil_append] at h4 hL
        exact s158 v4 f4 _ _ hM hR h4 hL ra hf
    | false =>
      rw [ho] at s158
      rw [ho, if_neg (by decide)] at hR hln
      obtain ⟨q, hb⟩ := Option.isSome_iff_exists.mp hsc
      have hq2 := sp_pt_le hb
      rw [part_some hb] at hR hln
      refine aw_iload_1 S d_Md_resolveAgainst_119 ?_
      refine aw_if_eq S 142 d_Md_resolveAgainst_120 (by decide) (fun c120 => ?_) (fun c120 => ?_)
      · refine aw_aload_0 S d_Md_resolveAgainst_142 ?_
        refine aw_aload_0 S d_Md_resolveAgainst_143 ?_
        refine aw_getf S I_Md 24 hM.2.1 n_fl_Md_62 d_Md_resolveAgainst_144 rfl (by decide) ?_
        refine aw_iconst (v := 0) S d_Md_resolveAgainst_147 (by decide) ?_
        refine aw_mld (j := 0) S hM 16 (by decide) ((ra.2.2.2.2.some5 (w := 0) (by decide) hb).1) (show _ < 5 by omega) d_Md_resolveAgainst_148 ?_
        refine aw_aload_0 S d_Md_resolveAgainst_149 ?_
        refine aw_getf S I_Md 25 hM.2.1 n_fl_Md_65 d_Md_resolveAgainst_150 rfl (by decide) ?_
        refine aw_iconst (v := 0) S d_Md_resolveAgainst_153 (by decide) ?_
        refine aw_mld (j := 0) S hM 17 (by decide) ((ra.2.2.2.2.some5 (w := 0) (by decide) hb).2) (show _ < 5 by omega) d_Md_resolveAgainst_154 ?_
        refine aw_callVv0 S (ev_Md_addBase (xs := []) q.1 q.2 t hM h4 hL ra.1 ht ra.2.1 (by omega) hq2.1 hq2.2 (by simp only [List.length_append, List.length_cons, List.length_nil, seg_len hq2.2] at hln ⊢; omega)) mb_Md_addBase mi_Md_addBase n_ml_Md_156 d_Md_resolveAgainst_155 I_Md hM.2.1 rfl rfl rfl (fun g2_ n2_ h_ => ?_)
        obtain ⟨rfl, v4, f4, hM, hf4, h4, hL⟩ := h_
        have ra := ra.keep (hf4.wd (by decide) (by decide))
        have hf := hf.tr (hf4.wd (by decide) (by decide))
        rw [List.nil_append] at h4 hL
        exact s158 v4 f4 _ _ hM hR h4 hL ra hf
      · exact absurd rfl c120
  have s85 : ∀ (x1 : Option Value) (v1 : Nat → Int32) (f1 : Nat → Nat → Int32) (g : AH), mG E g0 d v1 f1 g → v1 4 = nI 0 → mL (f1 10) 0 [] → RAs os bs t v1 f1 → mfr [4, 7, 8, 9] [10, 13, 14, 15, 16, 17, 18, 19] v v1 f f1 → AW p l e { frames := 5, cells := 0, slots := 0, locals := 40 * 5 } s m args below meth c E 5 (aw_Z E (aw_Pv (fun g2 n2 => n2 = n ∧ ∃ v2 f2, mG E g0 d v2 f2 g2 ∧ mfr [4, 7, 8, 9] [10, 13, 14, 15, 16, 17, 18, 19] v v2 f f2 ∧ v2 4 = nI (sp_res os bs).length ∧ mL (f2 10) 0 (sp_res os bs))) below args s 0 0) 0 0 g n 85 [some (.ref d), x1, none, none, none] [] := by
    intro x1 v1 f1 g hM h4 hL ra hf
    cases hq0 : sp_pt os 0 with
    | some q =>
      have hq2 := sp_pt_le hq0
      have hs : sp_sc os = true := by rw [sp_sc, hq0]; rfl
      have ho : sp_oa os = true := by rw [sp_oa, hs]; rfl
      rw [hs, ho] at s119
      refine aw_aload_0 S d_Md_resolveAgainst_85 ?_
      refine aw_getf S I_Md 22 hM.2.1 n_fl_Md_56 d_Md_resolveAgainst_86 rfl (by decide) ?_
      refine aw_iconst (v := 0) S d_Md_resolveAgainst_89 (by decide) ?_
      refine aw_mld (j := 0) S hM 14 (by decide) ((ra.2.2.2.1.some5 (w := 0) (by decide) hq0).1) (show _ < 5 by omega) d_Md_resolveAgainst_90 ?_
      refine aw_if_lt S 98 d_Md_resolveAgainst_91 (by decide) (fun c91 => ?_) (fun c91 => ?_)
      · exact absurd c91 (nI_pos (by omega))
      · refine aw_iconst (v := 1) S d_Md_resolveAgainst_94 (by decide) ?_
        refine aw_goto S 99 d_Md_resolveAgainst_95 (by decide) ?_
        refine aw_istore_1 S d_Md_resolveAgainst_99 ?_
        refine aw_iload_1 S d_Md_resolveAgainst_100 ?_
        refine aw_if_ne S 113 d_Md_resolveAgainst_101 (by decide) (fun c101 => ?_) (fun c101 => ?_)
        · refine aw_iconst (v := 1) S d_Md_resolveAgainst_113 (by decide) ?_
          refine aw_goto S 118 d_Md_resolveAgainst_114 (by decide) ?_
          refine aw_istore_2 S d_Md_resolveAgainst_118 ?_
          exact s119 v1 f1 _ hM h4 hL ra hf
        · exact absurd (show (1 : Int32) = 0 from c101) (by decide)
    | none =>
      have hs : sp_sc os = false := by rw [sp_sc, hq0]; rfl
      have ho : sp_oa os = (sp_pt os 1).isSome := by rw [sp_oa, hs]; rfl
      rw [hs, ho] at s119
      cases hq : sp_pt os 1 with
      | none =>
        rw [hq] at s119
        refine aw_aload_0 S d_Md_resolveAgainst_85 ?_
        refine aw_getf S I_Md 22 hM.2.1 n_fl_Md_56 d_Md_resolveAgainst_86 rfl (by decide) ?_
        refine aw_iconst (v := 0) S d_Md_resolveAgainst_89 (by decide) ?_
        refine aw_mld (j := 0) S hM 14 (by decide) ((ra.2.2.2.1.none5 (w := 0) (by decide) hq0).1) (show _ < 5 by omega) d_Md_resolveAgainst_90 ?_
        refine aw_if_lt S 98 d_Md_resolveAgainst_91 (by decide) (fun c91 => ?_) (fun c91 => ?_)
        · refine aw_iconst (v := 0) S d_Md_resolveAgainst_98 (by decide) ?_
          refine aw_istore_1 S d_Md_resolveAgainst_99 ?_
          refine aw_iload_1 S d_Md_resolveAgainst_100 ?_
          refine aw_if_ne S 113 d_Md_resolveAgainst_101 (by decide) (fun c101 => ?_) (fun c101 => ?_)
          · exact absurd rfl c101
          · refine aw_aload_0 S d_Md_resolveAgainst_104 ?_
            refine aw_getf S I_Md 22 hM.2.1 n_fl_Md_56 d_Md_resolveAgainst_105 rfl (by decide) ?_
            refine aw_iconst (v := 1) S d_Md_resolveAgainst_108 (by decide) ?_
            refine aw_mld (j := 1) S hM 14 (by decide) ((ra.2.2.2.1.none5 (w := 1) (by decide) hq).1) (show _ < 5 by omega) d_Md_resolveAgainst_109 ?_
            refine aw_if_lt S 117 d_Md_resolveAgainst_110 (by decide) (fun c110 => ?_) (fun c110 => ?_)
            · refine aw_iconst (v := 0) S d_Md_resolveAgainst_117 (by decide) ?_
              refine aw_istore_2 S d_Md_resolveAgainst_118 ?_
              exact s119 v1 f1 _ hM h4 hL ra hf
            · exact absurd (show (-1 : Int32) < 0 by decide) c110
        · exact absurd (show (-1 : Int32) < 0 by decide) c91
      | some q =>
        have hq2 := sp_pt_le hq
        rw [hq] at s119
        refine aw_aload_0 S d_Md_resolveAgainst_85 ?_
        refine aw_getf S I_Md 22 hM.2.1 n_fl_Md_56 d_Md_resolveAgainst_86 rfl (by decide) ?_
        refine aw_iconst (v := 0) S d_Md_resolveAgainst_89 (by decide) ?_
        refine aw_mld (j := 0) S hM 14 (by decide) ((ra.2.2.2.1.none5 (w := 0) (by decide) hq0).1) (show _ < 5 by omega) d_Md_resolveAgainst_90 ?_
        refine aw_if_lt S 98 d_Md_resolveAgainst_91 (by decide) (fun c91 => ?_) (fun c91 => ?_)
        · refine aw_iconst (v := 0) S d_Md_resolveAgainst_98 (by decide) ?_
          refine aw_istore_1 S d_Md_resolveAgainst_99 ?_
          refine aw_iload_1 S d_Md_resolveAgainst_100 ?_
          refine aw_if_ne S 113 d_Md_resolveAgainst_101 (by decide) (fun c101 => ?_) (fun c101 => ?_)
          · exact absurd rfl c101
          · refine aw_aload_0 S d_Md_resolveAgainst_104 ?_
            refine aw_getf S I_Md 22 hM.2.1 n_fl_Md_56 d_Md_resolveAgainst_105 rfl (by decide) ?_
            refine aw_iconst (v := 1) S d_Md_resolveAgainst_108 (by decide) ?_
            refine aw_mld (j := 1) S hM 14 (by decide) ((ra.2.2.2.1.some5 (w := 1) (by decide) hq).1) (show _ < 5 by omega) d_Md_resolveAgainst_109 ?_
            refine aw_if_lt S 117 d_Md_resolveAgainst_110 (by decide) (fun c110 => ?_) (fun c110 => ?_)
            · exact absurd c110 (nI_pos (by omega))
            · refine aw_iconst (v := 1) S d_Md_resolveAgainst_113 (by decide) ?_
              refine aw_goto S 118 d_Md_resolveAgainst_114 (by decide) ?_
              refine aw_istore_2 S d_Md_resolveAgainst_118 ?_
              exact s119 v1 f1 _ hM h4 hL ra hf
        · exact absurd (show (-1 : Int32) < 0 by decide) c91
  have l55 : ∀ (j k : Nat) (v1 : Nat → Int32) (f1 : Nat → Nat → Int32) (g : AH), mG E g0 d v1 f1 g → k + j = os.length → v1 4 = nI 0 → v1 7 = nI os.length → v1 0 = nI os.length → v1 2 = nI t → mL (f1 0) 0 os → mL (f1 4) (100 * t) bs → mPs bs 5 (f1 16) (f1 17) → mL (f1 13) 0 (os.take k) → mfr [4, 7, 8, 9] [10, 13, 14, 15, 16, 17, 18, 19] v v1 f f1 → AW p l e { frames := 5, cells := 0, slots := 0, locals := 40 * 5 } s m args below meth c E 5 (aw_Z E (aw_Pv (fun g2 n2 => n2 = n ∧ ∃ v2 f2, mG E g0 d v2 f2 g2 ∧ mfr [4, 7, 8, 9] [10, 13, 14, 15, 16, 17, 18, 19] v v2 f f2 ∧ v2 4 = nI (sp_res os bs).length ∧ mL (f2 10) 0 (sp_res os bs))) below args s 0 0) 0 0 g n 55 [some (.ref d), some (.int (nI k)), none, none, none] [] := by
    intro j
    induction j with
    | zero =>
      intro k v1 f1 g hM hk h4 h7 h0 h2 hT hB hp hR hf
      rw [List.take_of_length_le (by omega)] at hR
      refine aw_iload_1 S d_Md_resolveAgainst_55 ?_
      refine aw_aload_0 S d_Md_resolveAgainst_56 ?_
      refine aw_getf S I_Md 0 hM.2.1 n_fl_Md_90 d_Md_resolveAgainst_57 rfl (by decide) ?_
      refine aw_topi h0 ?_
      refine aw_icmp_ge S 81 d_Md_resolveAgainst_60 (by decide) (fun c60 => ?_) (fun c60 => ?_)
      · refine aw_aload_0 S d_Md_resolveAgainst_81 ?_
        refine aw_callVv0 S (ev_Md_split hM h7 hR (by omega)) mb_Md_split mi_Md_split n_ml_Md_123 d_Md_resolveAgainst_82 I_Md hM.2.1 rfl rfl rfl (fun g2_ n2_ h_ => ?_)
        obtain ⟨rfl, v3, f3, hM, hf3, hp3⟩ := h_
        refine s85 _ v3 f3 _ hM ((hf3.1 4 (by decide)).trans h4) mL.nil ⟨(hf3.1 2 (by decide)).trans h2, ?_, ?_, hp3, ?_⟩ (hf.tr (hf3.wd (by decide) (by decide)))
        · rw [hf3.2 4 (by decide)]; exact hB
        · rw [hf3.2 13 (by decide)]; exact hR
        · rw [hf3.2 16 (by decide), hf3.2 17 (by decide)]; exact hp
      · exact absurd (nI_le (by omega) (by omega)) c60
    | succ j ih =>
      intro k v1 f1 g hM hk h4 h7 h0 h2 hT hB hp hR hf
      refine aw_iload_1 S d_Md_resolveAgainst_55 ?_
      refine aw_aload_0 S d_Md_resolveAgainst_56 ?_
      refine aw_getf S I_Md 0 hM.2.1 n_fl_Md_90 d_Md_resolveAgainst_57 rfl (by decide) ?_
      refine aw_topi h0 ?_
      refine aw_icmp_ge S 81 d_Md_resolveAgainst_60 (by decide) (fun c60 => ?_) (fun c60 => ?_)
      · exact absurd c60 (nI_ge (by omega) (by omega))
      · refine aw_aload_0 S d_Md_resolveAgainst_63 ?_
        refine aw_getf S I_Md 21 hM.2.1 n_fl_Md_53 d_Md_resolveAgainst_64 rfl (by decide) ?_
        refine aw_iload_1 S d_Md_resolveAgainst_67 ?_
        refine aw_aload_0 S d_Md_resolveAgainst_68 ?_
        refine aw_getf S I_Md 1 hM.2.1 n_fl_Md_7 d_Md_resolveAgainst_69 rfl (by decide) ?_
        refine aw_iload_1 S d_Md_resolveAgainst_72 ?_
        refine aw_mld S hM 0 (by decide) (hT.at0 (by omega)) (show _ < 96 by omega) d_Md_resolveAgainst_73 ?_
        refine aw_mst S hM 13 (by decide) (show _ < 100 by omega) d_Md_resolveAgainst_74 (fun g_ hM => ?_)
        refine aw_iinc_1 (v := nI (k + 1)) S d_Md_resolveAgainst_75 ((nI_succ (k)).symm) ?_
        refine aw_goto S 55 d_Md_resolveAgainst_78 (by decide) ?_
        refine ih (k + 1) _ _ _ hM (by omega) h4 h7 h0 h2 hT hB hp ?_ (hf.f (by decide))
        have := hR.step (k := k) (b := 0) (x := os.getD k (-1)) (by omega) rfl
        rw [Nat.zero_add] at this
        exact this
  have l10 : ∀ (j k : Nat) (v1 : Nat → Int32) (f1 : Nat → Nat → Int32) (g : AH), mG E g0 d v1 f1 g → k + j = 5 → v1 4 = nI 0 → v1 0 = nI os.length → v1 2 = nI t → mL (f1 0) 0 os → mL (f1 4) (100 * t) bs → mPs bs 5 (f1 14) (f1 15) → (∀ w, w < k → f1 16 w = f1 14 w ∧ f1 17 w = f1 15 w) → mfr [4, 7, 8, 9] [10, 13, 14, 15, 16, 17, 18, 19] v v1 f f1 → AW p l e { frames := 5, cells := 0, slots := 0, locals := 40 * 5 } s m args below meth c E 5 (aw_Z E (aw_Pv (fun g2 n2 => n2 = n ∧ ∃ v2 f2, mG E g0 d v2 f2 g2 ∧ mfr [4, 7, 8, 9] [10, 13, 14, 15, 16, 17, 18, 19] v v2 f f2 ∧ v2 4 = nI (sp_res os bs).length ∧ mL (f2 10) 0 (sp_res os bs))) below args s 0 0) 0 0 g n 10 [some (.ref d), some (.int (nI k)), none, none, none] [] := by
    intro j
    induction j with
    | zero =>
      intro k v1 f1 g hM hk h4 h0 h2 hT hB hp he hf
      refine aw_iload_1 S d_Md_resolveAgainst_10 ?_
      refine aw_iconst (v := 5) S d_Md_resolveAgainst_11 (by decide) ?_
      refine aw_icmp_ge S 45 d_Md_resolveAgainst_12 (by decide) (fun c12 => ?_) (fun c12 => ?_)
      · refine aw_aload_0 S d_Md_resolveAgainst_45 ?_
        refine aw_aload_0 S d_Md_resolveAgainst_46 ?_
        refine aw_getf S I_Md 0 hM.2.1 n_fl_Md_90 d_Md_resolveAgainst_47 rfl (by decide) ?_
        refine aw_topi h0 ?_
        refine aw_mput7 S hM n_fl_Md_109 d_Md_resolveAgainst_50 (fun g_ hM => ?_)
        refine aw_iconst (v := 0) S d_Md_resolveAgainst_53 (by decide) ?_
        refine aw_topi nI_0.symm ?_
        refine aw_istore_1 S d_Md_resolveAgainst_54 ?_
        refine l55 os.length 0 _ f1 _ hM (Nat.zero_add _) h4 rfl h0 h2 hT hB ⟨fun w hw => ?_, fun w h1 h2 => by omega⟩ (by rw [List.take_zero]; exact mL.nil) (hf.v (by decide))
        unfold okm
        rw [(he w (by omega)).1, (he w (by omega)).2]
        exact hp.1 w hw
      · exact absurd (nI_le (a := 5) (by omega) (by omega)) c12
    | succ j ih =>
      intro k v1 f1 g hM hk h4 h0 h2 hT hB hp he hf
      refine aw_iload_1 S d_Md_resolveAgainst_10 ?_
      refine aw_iconst (v := 5) S d_Md_resolveAgainst_11 (by decide) ?_
      refine aw_icmp_ge S 45 d_Md_resolveAgainst_12 (by decide) (fun c12 => ?_) (fun c12 => ?_)
      · exact absurd c12 (nI_ge (b := 5) (by omega) (by omega))
      · refine aw_aload_0 S d_Md_resolveAgainst_15 ?_
        refine aw_getf S I_Md 24 hM.2.1 n_fl_Md_62 d_Md_resolveAgainst_16 rfl (by decide) ?_
        refine aw_iload_1 S d_Md_resolveAgainst_19 ?_
        refine aw_aload_0 S d_Md_resolveAgainst_20 ?_
        refine aw_getf S I_Md 22 hM.2.1 n_fl_Md_56 d_Md_resolveAgainst_21 rfl (by decide) ?_
        refine aw_iload_1 S d_Md_resolveAgainst_24 ?_
        refine aw_mld S hM 14 (by decide) ((rfl : f1 14 k = f1 14 k)) (show _ < 5 by omega) d_Md_resolveAgainst_25 ?_
        refine aw_mst S hM 16 (by decide) (show _ < 5 by omega) d_Md_resolveAgainst_26 (fun g_ hM => ?_)
        refine aw_aload_0 S d_Md_resolveAgainst_27 ?_
        refine aw_getf S I_Md 25 hM.2.1 n_fl_Md_65 d_Md_resolveAgainst_28 rfl (by decide) ?_
        refine aw_iload_1 S d_Md_resolveAgainst_31 ?_
        refine aw_aload_0 S d_Md_resolveAgainst_32 ?_
        refine aw_getf S I_Md 23 hM.2.1 n_fl_Md_59 d_Md_resolveAgainst_33 rfl (by decide) ?_
        refine aw_iload_1 S d_Md_resolveAgainst_36 ?_
        refine aw_mld S hM 15 (by decide) ((rfl : f1 15 k = f1 15 k)) (show _ < 5 by omega) d_Md_resolveAgainst_37 ?_
        refine aw_mst S hM 17 (by decide) (show _ < 5 by omega) d_Md_resolveAgainst_38 (fun g_ hM => ?_)
        refine aw_iinc_1 (v := nI (k + 1)) S d_Md_resolveAgainst_39 ((nI_succ (k)).symm) ?_
        refine aw_goto S 10 d_Md_resolveAgainst_42 (by decide) ?_
        refine ih (k + 1) _ _ _ hM (by omega) h4 h0 h2 hT hB hp (fun w hw => ?_) ((hf.f (by decide)).f (by decide))
        have e1 : ∀ (F G : Nat → Int32), (w < k → F w = G w) → upd F k (G k) w = G w := fun F G z => by
          by_cases q : w = k
          · subst q; exact upd_s
          · rw [upd_n q]; exact z (by omega)
        exact ⟨e1 _ _ (fun z => (he w z).1), e1 _ _ (fun z => (he w z).2)⟩
  refine aw_aload_0 S d_Md_resolveAgainst_0 ?_
  refine aw_aload_0 S d_Md_resolveAgainst_1 ?_
  refine aw_getf S I_Md 9 hM.2.1 n_fl_Md_31 d_Md_resolveAgainst_2 rfl (by decide) ?_
  refine aw_topi hb ?_
  refine aw_callVv0 S (ev_Md_take t hM ht hz hB hbl) mb_Md_take mi_Md_take n_ml_Md_149 d_Md_resolveAgainst_5 I_Md hM.2.1 rfl rfl rfl (fun g2_ n2_ h_ => ?_)
  obtain ⟨rfl, v3, f3, hM, hf3, h7, hR3, hp3⟩ := h_
  refine aw_iconst (v := 0) S d_Md_resolveAgainst_8 (by decide) ?_
  refine aw_topi nI_0.symm ?_
  refine aw_istore_1 S d_Md_resolveAgainst_9 ?_
  refine l10 5 0 v3 f3 _ hM rfl ((hf3.1 4 (by decide)).trans h4) ((hf3.1 0 (by decide)).trans h0) ((hf3.1 2 (by decide)).trans hb) ?_ ?_ hp3 (fun w hw => absurd hw (Nat.not_lt_zero w)) (hf3.wd (by decide) (by decide))
  · rw [hf3.2 0 (by decide)]; exact hT
  · rw [hf3.2 4 (by decide)]; exact hB
