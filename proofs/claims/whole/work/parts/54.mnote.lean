/-! the reference: note, label, type -/
theorem take_step {xs : List Int32} {k : Nat} (h : k < xs.length) : xs.take (k + 1) = xs.take k ++ [xs.getD k (-1)] := by
  rw [List.take_add_one, List.getElem?_eq_getElem h, getD_at h]; rfl
theorem mL.step {F : Nat → Int32} {b k : Nat} {xs : List Int32} {x : Int32} (h : mL F b (xs.take k)) (hk : k < xs.length) (hx : x = xs.getD k (-1)) : mL (upd F (b + k) x) b (xs.take (k + 1)) := by
  rw [take_step hk, hx]
  have e : (xs.take k).length = k := by rw [List.length_take]; omega
  have := h.snoc (x := xs.getD k (-1))
  rwa [e] at this
theorem mL.eqv {F G : Nat → Int32} {b : Nat} {xs : List Int32} (h : mL F b xs) (he : ∀ q, q < xs.length → G (b + q) = F (b + q)) : mL G b xs := fun k hk => (he k hk).trans (h k hk)
theorem mSt.add {v v2 : Nat → Int32} {f f2 : Nat → Nat → Int32} {tape : List Int32} {ts : List Tmv} {bt : Int32} {ps : List Pfv} {pr : List Int32} {w : Tmv} (h : mSt v f tape ts bt ps pr) (hL : ts.length < 60) (hv : ∀ j, j ≠ 1 → v2 j = v j) (hv1 : v2 1 = nI (ts.length + 1)) (hf : ∀ k, k ∉ [1, 2, 3, 4, 5, 6] → f2 k = f k)
    (h1 : ∀ q, q < ts.length → f2 1 q = f 1 q ∧ f2 2 q = f 2 q ∧ f2 3 q = f 3 q ∧ f2 5 q = f 5 q) (h4 : ∀ q, q < 100 * ts.length → f2 4 q = f 4 q) (h6 : ∀ q, q < 16 * ts.length → f2 6 q = f 6 q) (hT : mT f2 ts.length w) : mSt v2 f2 tape (ts ++ [w]) bt ps pr := by
  obtain ⟨⟨tl, t0, tL⟩, ⟨nl, n1, nT⟩, b2, ⟨pl, p3, pP⟩, ⟨ql, q6, qL⟩⟩ := h
  refine ⟨⟨tl, (hv 0 (by decide)).trans t0, by rw [hf 0 (by decide)]; exact tL⟩, ⟨by simp; omega, by simpa using hv1, fun i hi => ?_⟩, (hv 2 (by decide)).trans b2, ⟨pl, (hv 3 (by decide)).trans p3, fun j hj => ?_⟩, ⟨ql, (hv 6 (by decide)).trans q6, by rw [hf 12 (by decide)]; exact qL⟩⟩
  · by_cases e : i = ts.length
    · subst e; rw [tmG_new]; exact hT
    · have hi : i < ts.length := by rw [List.length_append, List.length_singleton] at hi; omega
      rw [tmG_app hi]
      obtain ⟨a1, a2, a3, a4, a5, a6, a7, a8⟩ := nT i hi
      obtain ⟨z1, z2, z3, z5⟩ := h1 i hi
      exact ⟨z1.trans a1, z2.trans a2, z3.trans a3, a4, a5.eqv (fun q hq => h4 _ (by omega)), z5.trans a6, a7, a8.eqv (fun q hq => h6 _ (by omega))⟩
  · obtain ⟨a1, a2, a3, a4⟩ := pP j hj
    unfold mP
    rw [hf 7 (by decide), hf 8 (by decide), hf 9 (by decide)]
    exact ⟨a1, a2, a3, a4⟩
set_option maxRecDepth 100000 in
set_option maxHeartbeats 4000000 in
theorem ev_Md_note {l : Launch} {E : aw_E} {g : AH} {n : Nat} {g0 : AH} {d : Nat} {v : Nat → Int32} {f : Nat → Nat → Int32} {tape : List Int32} {ts : List Tmv} {bt : Int32} {ps : List Pfv} {pr : List Int32} {w : Tmv} (hM : mG E g0 d v f g) (hs : mSt v f tape ts bt ps pr) (hw : mW v f w) (hf : mfF w ts 0 = sp_find ts w) : EV l E 1 0 0 y_Md_note c_Md_note 5 (some .int) g n [.ref d, .int w.1, .int (mN w)] (aw_Pi (fun r_ g2 n2 => r_ = op_place ts w ∧ n2 = n ∧ mS E g0 d g2 (tape) (op_put ts w) (bt) (ps) (pr))) := by
  obtain ⟨⟨tl, t0, tL⟩, ⟨nl, n1, nT⟩, b2, ⟨pl, p3, pP⟩, ⟨ql, q6, qL⟩⟩ := id hs
  obtain ⟨⟨wl, w4, wL⟩, wl2, w5, wT⟩ := id hw
  refine aw_enter "AddressTermsModel" [some (.ref d), some (.int w.1), some (.int (mN w)), none, none] (by decide) rfl rfl (Nat.le_of_ble_eq_true rfl) ?_
  intro p e s m args below meth c S hnm
  have l2 : ∀ (j k : Nat) (f1 : Nat → Nat → Int32) (g : AH), sp_find ts w = none → ts.length < 60 → k + j = w.2.2.2.2.length → (∀ q, q ≠ 4 → q ≠ 6 → f1 q = (fu (fu (fu (fu f 1 (upd (f 1) ts.length w.1)) 2 (upd (f 2) ts.length (mN w))) 3 (upd (f 3) ts.length (nI w.2.2.2.1.length))) 5 (upd (f 5) ts.length (nI w.2.2.2.2.length))) q) → (∀ q, q < 100 * ts.length → f1 4 q = f 4 q) → mL (f1 4) (100 * ts.length) w.2.2.2.1 → (∀ q, q < 16 * ts.length → f1 6 q = f 6 q) → mL (f1 6) (16 * ts.length) (w.2.2.2.2.take k) → mG E g0 d v f1 g → AW p l e { frames := 1, cells := 0, slots := 0, locals := 40 * 1 } s m args below meth c E 5 (aw_Z E (aw_Pi (fun r_ g2 n2 => r_ = op_place ts w ∧ n2 = n ∧ mS E g0 d g2 (tape) (op_put ts w) (bt) (ps) (pr))) below args s 0 0) 0 0 g n 114 [some (.ref d), some (.int w.1), some (.int (mN w)), some (.int (-1)), some (.int (nI k))] [] := by
    intro j
    induction j with
    | zero =>
      intro k f1 g hfn hL hk h1 h2 h3 h4 h5 hM
      refine aw_iload_4 S d_Md_note_114 ?_
      refine aw_aload_0 S d_Md_note_116 ?_
      refine aw_getf S I_Md 16 hM.2.1 n_fl_Md_96 d_Md_note_117 rfl (by decide) ?_
      refine aw_topi w5 ?_
      refine aw_icmp_ge S 151 d_Md_note_120 (by decide) (fun c120 => ?_) (fun c120 => ?_)
      · refine aw_aload_0 S d_Md_note_151 ?_
        refine aw_dup S d_Md_note_152 rfl ?_
        refine aw_getf S I_Md 2 hM.2.1 n_fl_Md_74 d_Md_note_153 rfl (by decide) ?_
        refine aw_topi n1 ?_
        refine aw_iconst (v := 1) S d_Md_note_156 (by decide) ?_
        refine aw_iadd S d_Md_note_157 ?_
        refine aw_mput1 S hM n_fl_Md_74 d_Md_note_158 (fun g_ hM => ?_)
        refine aw_aload_0 S d_Md_note_161 ?_
        refine aw_getf S I_Md 2 hM.2.1 n_fl_Md_74 d_Md_note_162 rfl (by decide) ?_
        refine aw_topi upd_s ?_
        refine aw_iconst (v := 1) S d_Md_note_165 (by decide) ?_
        refine aw_isub S d_Md_note_166 ?_
        refine aw_iret S rfl d_Md_note_167 ?_ (by decide) (by decide)
        refine ⟨by rw [op_place, hfn]; dsimp only; rw [if_pos hL, nI_1, nI_pred], rfl, _, f1, hM, ?_⟩
        rw [op_put, hfn]
        dsimp only
        rw [if_pos hL]
        rw [List.take_of_length_le (by omega)] at h5
        refine hs.add hL (fun q z => upd_n z) (by rw [upd_s, nI_1]) (fun q z => ?_) (fun q z => ?_) h2 h4 ?_
        · simp only [List.mem_cons, List.not_mem_nil, or_false, not_or] at z
          rw [h1 q z.2.2.2.1 z.2.2.2.2.2, fu_n z.2.2.2.2.1, fu_n z.2.2.1, fu_n z.2.1, fu_n z.1]
        · refine ⟨?_, ?_, ?_, ?_⟩
          · rw [h1 1 (by decide) (by decide)]; exact upd_n (by omega)
          · rw [h1 2 (by decide) (by decide)]; exact upd_n (by omega)
          · rw [h1 3 (by decide) (by decide)]; exact upd_n (by omega)
          · rw [h1 5 (by decide) (by decide)]; exact upd_n (by omega)
        · refine ⟨?_, ?_, ?_, wl, h3, ?_, wl2, h5⟩
          · rw [h1 1 (by decide) (by decide)]; exact upd_s
          · rw [h1 2 (by decide) (by decide)]; exact upd_s
          · rw [h1 3 (by decide) (by decide)]; exact upd_s
          · rw [h1 5 (by decide) (by decide)]; exact upd_s
      · exact absurd (nI_le (by omega) (by omega)) c120
    | succ j ih =>
      intro k f1 g hfn hL hk h1 h2 h3 h4 h5 hM
      refine aw_iload_4 S d_Md_note_114 ?_
      refine aw_aload_0 S d_Md_note_116 ?_
      refine aw_getf S I_Md 16 hM.2.1 n_fl_Md_96 d_Md_note_117 rfl (by decide) ?_
      refine aw_topi w5 ?_
      refine aw_icmp_ge S 151 d_Md_note_120 (by decide) (fun c120 => ?_) (fun c120 => ?_)
      · exact absurd c120 (nI_ge (by omega) (by omega))
      · refine aw_aload_0 S d_Md_note_123 ?_
        refine aw_getf S I_Md 8 hM.2.1 n_fl_Md_28 d_Md_note_124 rfl (by decide) ?_
        refine aw_bipush (v := 16) S d_Md_note_127 (by decide) ?_
        refine aw_aload_0 S d_Md_note_129 ?_
        refine aw_getf S I_Md 2 hM.2.1 n_fl_Md_74 d_Md_note_130 rfl (by decide) ?_
        refine aw_topi n1 ?_
        refine aw_imul S d_Md_note_133 ?_
        refine aw_iload_4 S d_Md_note_134 ?_
        refine aw_iadd S d_Md_note_136 ?_
        refine aw_topi (ix16 (ts.length) (k)) ?_
        refine aw_aload_0 S d_Md_note_137 ?_
        refine aw_getf S I_Md 17 hM.2.1 n_fl_Md_47 d_Md_note_138 rfl (by decide) ?_
        refine aw_iload_4 S d_Md_note_141 ?_
        refine aw_mld S hM 11 (by decide) ((congrFun (h1 11 (by decide) (by decide)) _).trans (wT.at0 (by omega))) (show _ < 16 by omega) d_Md_note_143 ?_
        refine aw_mst S hM 6 (by decide) (show _ < 960 by omega) d_Md_note_144 (fun g_ hM => ?_)
        refine aw_iinc_4 (v := nI (k + 1)) S d_Md_note_145 ((nI_succ (k)).symm) ?_
        refine aw_goto S 114 d_Md_note_148 (by decide) ?_
        refine ih (k + 1) _ _ hfn hL (by omega) (fun q z1 z2 => (fu_n z2).trans (h1 q z1 z2)) (fun q z => by rw [fu_n (by decide)]; exact h2 q z) (by rw [fu_n (by decide)]; exact h3) (fun q z => ?_) ?_ hM
        · rw [fu_s, upd_n (by omega)]; exact h4 q z
        · rw [fu_s]; exact h5.step (by omega) rfl
  have l1 : ∀ (j k : Nat) (f1 : Nat → Nat → Int32) (g : AH), sp_find ts w = none → ts.length < 60 → k + j = w.2.2.2.1.length → (∀ q, q ≠ 4 → f1 q = (fu (fu (fu (fu f 1 (upd (f 1) ts.length w.1)) 2 (upd (f 2) ts.length (mN w))) 3 (upd (f 3) ts.length (nI w.2.2.2.1.length))) 5 (upd (f 5) ts.length (nI w.2.2.2.2.length))) q) → (∀ q, q < 100 * ts.length → f1 4 q = f 4 q) → mL (f1 4) (100 * ts.length) (w.2.2.2.1.take k) → mG E g0 d v f1 g → AW p l e { frames := 1, cells := 0, slots := 0, locals := 40 * 1 } s m args below meth c E 5 (aw_Z E (aw_Pi (fun r_ g2 n2 => r_ = op_place ts w ∧ n2 = n ∧ mS E g0 d g2 (tape) (op_put ts w) (bt) (ps) (pr))) below args s 0 0) 0 0 g n 74 [some (.ref d), some (.int w.1), some (.int (mN w)), some (.int (-1)), some (.int (nI k))] [] := by
    intro j
    induction j with
    | zero =>
      intro k f1 g hfn hL hk h1 h2 h3 hM
      rw [List.take_of_length_le (by omega)] at h3
      refine aw_iload_4 S d_Md_note_74 ?_
      refine aw_aload_0 S d_Md_note_76 ?_
      refine aw_getf S I_Md 14 hM.2.1 n_fl_Md_93 d_Md_note_77 rfl (by decide) ?_
      refine aw_topi w4 ?_
      refine aw_icmp_ge S 111 d_Md_note_80 (by decide) (fun c80 => ?_) (fun c80 => ?_)
      · refine aw_iconst (v := 0) S d_Md_note_111 (by decide) ?_
        refine aw_topi nI_0.symm ?_
        refine aw_istore_4 S d_Md_note_112 ?_
        refine l2 _ 0 f1 _ hfn hL (Nat.zero_add _) (fun q z1 _ => h1 q z1) h2 h3 (fun q z => ?_) (by rw [List.take_zero]; exact mL.nil) hM
        rw [h1 6 (by decide)]; rfl
      · exact absurd (nI_le (by omega) (by omega)) c80
    | succ j ih =>
      intro k f1 g hfn hL hk h1 h2 h3 hM
      refine aw_iload_4 S d_Md_note_74 ?_
      refine aw_aload_0 S d_Md_note_76 ?_
      refine aw_getf S I_Md 14 hM.2.1 n_fl_Md_93 d_Md_note_77 rfl (by decide) ?_
      refine aw_topi w4 ?_
      refine aw_icmp_ge S 111 d_Md_note_80 (by decide) (fun c80 => ?_) (fun c80 => ?_)
      · exact absurd c80 (nI_ge (by omega) (by omega))
      · refine aw_aload_0 S d_Md_note_83 ?_
        refine aw_getf S I_Md 6 hM.2.1 n_fl_Md_22 d_Md_note_84 rfl (by decide) ?_
        refine aw_bipush (v := 100) S d_Md_note_87 (by decide) ?_
        refine aw_aload_0 S d_Md_note_89 ?_
        refine aw_getf S I_Md 2 hM.2.1 n_fl_Md_74 d_Md_note_90 rfl (by decide) ?_
        refine aw_topi n1 ?_
        refine aw_imul S d_Md_note_93 ?_
        refine aw_iload_4 S d_Md_note_94 ?_
        refine aw_iadd S d_Md_note_96 ?_
        refine aw_topi (ix100 (ts.length) (k)) ?_
        refine aw_aload_0 S d_Md_note_97 ?_
        refine aw_getf S I_Md 15 hM.2.1 n_fl_Md_44 d_Md_note_98 rfl (by decide) ?_
        refine aw_iload_4 S d_Md_note_101 ?_
        refine aw_mld S hM 10 (by decide) ((congrFun (h1 10 (by decide)) _).trans (wL.at0 (by omega))) (show _ < 400 by omega) d_Md_note_103 ?_
        refine aw_mst S hM 4 (by decide) (show _ < 6000 by omega) d_Md_note_104 (fun g_ hM => ?_)
        refine aw_iinc_4 (v := nI (k + 1)) S d_Md_note_105 ((nI_succ (k)).symm) ?_
        refine aw_goto S 74 d_Md_note_108 (by decide) ?_
        refine ih (k + 1) _ _ hfn hL (by omega) (fun q z1 => (fu_n z1).trans (h1 q z1)) (fun q z => ?_) ?_ hM
        · rw [fu_s, upd_n (by omega)]; exact h2 q z
        · rw [fu_s]; exact h3.step (by omega) rfl
  refine aw_aload_0 S d_Md_note_0 ?_
  refine aw_iload_1 S d_Md_note_1 ?_
  refine aw_iload_2 S d_Md_note_2 ?_
  refine aw_callViR S (ev_Md_find hM hs hw) mb_Md_find mi_Md_find n_ml_Md_99 d_Md_note_3 I_Md hM.2.1 rfl rfl rfl ?_
  rw [hf]
  refine aw_istore_3 S d_Md_note_6 ?_
  refine aw_iload_3 S d_Md_note_7 ?_
  refine aw_if_lt S 13 d_Md_note_8 (by decide) (fun c8 => ?_) (fun c8 => ?_)
  · have hfn : sp_find ts w = none := by
      cases hc : sp_find ts w with
      | none => rfl
      | some i =>
        rw [hc] at c8
        have := mfF_lt (hf.trans hc)
        exact absurd c8 (nI_pos (n := i) (by omega))
    rw [hfn]
    refine aw_aload_0 S d_Md_note_13 ?_
    refine aw_getf S I_Md 2 hM.2.1 n_fl_Md_74 d_Md_note_14 rfl (by decide) ?_
    refine aw_topi n1 ?_
    refine aw_bipush (v := 60) S d_Md_note_17 (by decide) ?_
    refine aw_icmp_ne S 25 d_Md_note_19 (by decide) (fun c19 => ?_) (fun c19 => ?_)
    · have hL : ¬ ts.length = 60 := fun z => c19 (by rw [z]; rfl)
      refine aw_aload_0 S d_Md_note_25 ?_
      refine aw_getf S I_Md 3 hM.2.1 n_fl_Md_13 d_Md_note_26 rfl (by decide) ?_
      refine aw_aload_0 S d_Md_note_29 ?_
      refine aw_getf S I_Md 2 hM.2.1 n_fl_Md_74 d_Md_note_30 rfl (by decide) ?_
      refine aw_topi n1 ?_
      refine aw_iload_1 S d_Md_note_33 ?_
      refine aw_mst S hM 1 (by decide) (show _ < 60 by omega) d_Md_note_34 (fun g_ hM => ?_)
      refine aw_aload_0 S d_Md_note_35 ?_
      refine aw_getf S I_Md 4 hM.2.1 n_fl_Md_16 d_Md_note_36 rfl (by decide) ?_
      refine aw_aload_0 S d_Md_note_39 ?_
      refine aw_getf S I_Md 2 hM.2.1 n_fl_Md_74 d_Md_note_40 rfl (by decide) ?_
      refine aw_topi n1 ?_
      refine aw_iload_2 S d_Md_note_43 ?_
      refine aw_mst S hM 2 (by decide) (show _ < 60 by omega) d_Md_note_44 (fun g_ hM => ?_)
      refine aw_aload_0 S d_Md_note_45 ?_
      refine aw_getf S I_Md 5 hM.2.1 n_fl_Md_19 d_Md_note_46 rfl (by decide) ?_
      refine aw_aload_0 S d_Md_note_49 ?_
      refine aw_getf S I_Md 2 hM.2.1 n_fl_Md_74 d_Md_note_50 rfl (by decide) ?_
      refine aw_topi n1 ?_
      refine aw_aload_0 S d_Md_note_53 ?_
      refine aw_getf S I_Md 14 hM.2.1 n_fl_Md_93 d_Md_note_54 rfl (by decide) ?_
      refine aw_topi w4 ?_
      refine aw_mst S hM 3 (by decide) (show _ < 60 by omega) d_Md_note_57 (fun g_ hM => ?_)
      refine aw_aload_0 S d_Md_note_58 ?_
      refine aw_getf S I_Md 7 hM.2.1 n_fl_Md_25 d_Md_note_59 rfl (by decide) ?_
      refine aw_aload_0 S d_Md_note_62 ?_
      refine aw_getf S I_Md 2 hM.2.1 n_fl_Md_74 d_Md_note_63 rfl (by decide) ?_
      refine aw_topi n1 ?_
      refine aw_aload_0 S d_Md_note_66 ?_
      refine aw_getf S I_Md 16 hM.2.1 n_fl_Md_96 d_Md_note_67 rfl (by decide) ?_
      refine aw_topi w5 ?_
      refine aw_mst S hM 5 (by decide) (show _ < 60 by omega) d_Md_note_70 (fun g_ hM => ?_)
      refine aw_iconst (v := 0) S d_Md_note_71 (by decide) ?_
      refine aw_topi nI_0.symm ?_
      refine aw_istore_4 S d_Md_note_72 ?_
      refine l1 _ 0 _ _ hfn (by omega) (Nat.zero_add _) (fun q _ => rfl) (fun q z => rfl) (by rw [List.take_zero]; exact mL.nil) hM
    · refine aw_bipush (v := -3) S d_Md_note_22 (by decide) ?_
      refine aw_iret S rfl d_Md_note_24 ?_ (by decide) (by decide)
      have hL : ts.length = 60 := (nI_eq (b := 60) (by omega) (by omega)).mp c19
      exact ⟨by rw [op_place, hfn]; dsimp only; rw [if_neg (by omega)], rfl, v, f, hM, by rw [op_put, hfn]; dsimp only; rw [if_neg (by omega)]; exact hs⟩
  · refine aw_iload_3 S d_Md_note_11 ?_
    refine aw_iret S rfl d_Md_note_12 ?_ (by decide) (by decide)
    cases hc : sp_find ts w with
    | none => rw [hc] at c8; exact absurd (show (-1 : Int32) < 0 by decide) c8
    | some i => exact ⟨by rw [op_place, hc]; rfl, rfl, v, f, hM, by rw [op_put, hc]; exact hs⟩
set_option maxRecDepth 100000 in
set_option maxHeartbeats 4000000 in
theorem ev_Md_label {l : Launch} {E : aw_E} {g : AH} {n : Nat} {g0 : AH} {d : Nat} {v : Nat → Int32} {f : Nat → Nat → Int32} {tape : List Int32} {ts : List Tmv} {bt : Int32} {ps : List Pfv} {pr : List Int32} (q : Int32) (hM : mG E g0 d v f g) (hs : mSt v f tape ts bt ps pr) (hf : mfF (lb_v q) ts 0 = sp_find ts (lb_v q)) : EV l E 2 0 0 y_Md_label c_Md_label 2 (some .int) g n [.ref d, .int q] (aw_Pi (fun r_ g2 n2 => r_ = op_label ts q ∧ n2 = n ∧ mS E g0 d g2 (tape) (op_labelT ts q) (bt) (ps) (pr))) := by
  obtain ⟨⟨tl, t0, tL⟩, ⟨nl, n1, nT⟩, b2, ⟨pl, p3, pP⟩, ⟨ql, q6, qL⟩⟩ := id hs
  refine aw_enter "AddressTermsModel" [some (.ref d), some (.int q)] (by decide) rfl rfl (Nat.le_of_ble_eq_true rfl) ?_
  intro p e s m args below meth c S hnm
  refine aw_iload_1 S d_Md_label_0 ?_
  refine aw_iconst (v := 0) S d_Md_label_1 (by decide) ?_
  refine aw_sipush (v := 999) S d_Md_label_2 (by decide) ?_
  refine aw_callSiR S (ev_Md_is q 0 999) mb_Md_is n_st_Md_is n_ml_Md_77 d_Md_label_5 rfl rfl ?_
  refine aw_if_ne S 13 d_Md_label_8 (by decide) (fun c8 => ?_) (fun c8 => ?_)
  · refine aw_aload_0 S d_Md_label_13 ?_
    refine aw_iconst (v := 0) S d_Md_label_14 (by decide) ?_
    refine aw_mput4 S hM n_fl_Md_93 d_Md_label_15 (fun g_ hM => ?_)
    refine aw_aload_0 S d_Md_label_18 ?_
    refine aw_iconst (v := 0) S d_Md_label_19 (by decide) ?_
    refine aw_mput5 S hM n_fl_Md_96 d_Md_label_20 (fun g_ hM => ?_)
    refine aw_aload_0 S d_Md_label_23 ?_
    refine aw_iconst (v := 1) S d_Md_label_24 (by decide) ?_
    refine aw_iload_1 S d_Md_label_25 ?_
    refine aw_callVi0 S (ev_Md_note (w := lb_v q) hM (hs.keep ((mfr.rf.v (by decide)).v (by decide))) ⟨⟨Nat.zero_le _, rfl, mL.nil⟩, Nat.zero_le _, rfl, mL.nil⟩ hf) mb_Md_note mi_Md_note n_ml_Md_106 d_Md_label_26 I_Md hM.2.1 rfl rfl rfl (fun v_ g2_ n2_ h_ => ?_)
    obtain ⟨rfl, rfl, hm⟩ := h_
    refine aw_iret S rfl d_Md_label_29 ?_ (by decide) (by decide)
    exact ⟨by rw [op_label, aw_b_t c8]; rfl, rfl, by rw [op_labelT, aw_b_t c8]; exact hm⟩
  · refine aw_iconst (v := -1) S d_Md_label_11 (by decide) ?_
    refine aw_iret S rfl d_Md_label_12 ?_ (by decide) (by decide)
    exact ⟨by rw [op_label, aw_b_f c8]; rfl, rfl, v, f, hM, by rw [op_labelT, aw_b_f c8]; exact hs⟩
