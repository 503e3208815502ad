/-! the reference: tagged -/
theorem low_32 (b : Int32) : b + 32 = b - 65 + 97 := by
  rw [Int32.sub_eq_add_neg, Int32.add_assoc]; rfl
theorem low_gr {b : Int32} (h : sp_in b 65 90 = true) : b + 32 = sp_low b := by
  rw [sp_low, if_pos (show sp_gr b = true from h), low_32]
theorem low_ng {b : Int32} (h : sp_in b 65 90 = false) : b = sp_low b := by
  rw [sp_low, if_neg (show ¬ sp_gr b = true from fun z => by rw [show sp_gr b = false from h] at z; cases z)]
theorem map_getD {xs : List Int32} {k : Nat} (h : k < xs.length) : (xs.map sp_low).getD k (-1) = sp_low (xs.getD k (-1)) := by
  simp [List.getD_eq_getElem?_getD, List.getElem?_eq_getElem h]
def few (P : Nat) : Nat := if P = 0 then 2 else 1
theorem wt_nil (k F z : Nat) (b : Bool) : sp_wt [] k F z b = if z < F then some k else none := rfl
theorem wt_cons (b : Int32) (r : List Int32) (k F z : Nat) (fi : Bool) : sp_wt (b :: r) k F z fi = if 16 ≤ k then some k else if b = 45 then (if z < F then some k else sp_wt r (k + 1) 1 0 false) else if sp_tl fi b = true then (if z < 8 then sp_wt r (k + 1) F (z + 1) fi else some k) else some k := rfl
theorem tl_iff (P : Nat) (b : Int32) : sp_tl (decide (P = 0)) b = true ↔ sp_let b = true ∨ (0 < P ∧ sp_dig b = true) := by
  unfold sp_tl
  by_cases h : P = 0
  · rw [decide_eq_true h, if_pos rfl]
    simp [h]
  · rw [decide_eq_false h, if_neg (by decide), sp_ld, Bool.or_eq_true]
    simp [show 0 < P by omega]
set_option maxRecDepth 100000 in
set_option maxHeartbeats 4000000 in
theorem ev_Md_tagged {l : Launch} {E : aw_E} {g : AH} {n : Nat} {g0 : AH} {d : Nat} {v : Nat → Int32} {f : Nat → Nat → Int32} {tape : List Int32} {ts : List Tmv} {bt : Int32} {ps : List Pfv} {pr : List Int32} (a0 : Int32) (hM : mG E g0 d v f g) (hs : mSt v f tape ts bt ps pr) (hok : okT ts) : EV l E 3 0 0 y_Md_tagged c_Md_tagged 9 (some .int) g n [.ref d, .int a0] (aw_Pi (fun r_ g2 n2 => r_ = op_tagR tape ts a0 ∧ n2 = n ∧ mS E g0 d g2 ([]) (op_tagT tape ts a0) (bt) (ps) (pr))) := by
  obtain ⟨⟨tl, t0, tL⟩, ⟨nl, n1, nT⟩, b2, ⟨pl, p3, pP⟩, ⟨ql, q6, qL⟩⟩ := id hs
  refine aw_enter "AddressTermsModel" [some (.ref d), some (.int a0), none, none, none, none, none, none, none] (by decide) rfl rfl (Nat.le_of_ble_eq_true rfl) ?_
  intro p e s m args below meth c S hnm
  have l277 : ∀ (j k i : Nat) (v1 : Nat → Int32) (f1 : Nat → Nat → Int32) (g : AH) (x3 : Option Value) (x4 : Int32) (x6 x7 x8 : Option Value), mG E g0 d v1 f1 g → i < ts.length → a0 = nI i → ixK ts 2 a0 = some i → mT f i (tmG ts i) → (tmG ts i).2.1 = 0 → k + j = (tmG ts i).2.2.2.1.length → sp_wtag tape = none → tape.length ≤ 16 → v1 4 = nI (tmG ts i).2.2.2.1.length → mL (f1 10) 0 ((tmG ts i).2.2.2.1.take k) → v1 5 = nI tape.length → mL (f1 11) 0 (tape.map sp_low) → mfr [4, 5] [10, 11] (upd v 0 0) v1 f f1 → AW p l e { frames := 3, cells := 0, slots := 0, locals := 40 * 3 } s m args below meth c E 9 (aw_Z E (aw_Pi (fun r_ g2 n2 => r_ = op_tagR tape ts a0 ∧ n2 = n ∧ mS E g0 d g2 ([]) (op_tagT tape ts a0) (bt) (ps) (pr))) below args s 0 0) 0 0 g n 277 [some (.ref d), some (.int (nI i)), some (.int (nI tape.length)), x3, some (.int x4), some (.int (nI k)), x6, x7, x8] [] := by
    intro j
    induction j with
    | zero =>
      intro k i v1 f1 g x3 x4 x6 x7 x8 hM hi ha hx hT hs0 hk hw h16 h4 hL h5 hG hf
      rw [List.take_of_length_le (by omega)] at hL
      have hl4 := hT.2.2.2.1
      refine aw_iload_5 S d_Md_tagged_277 ?_
      refine aw_aload_0 S d_Md_tagged_279 ?_
      refine aw_getf S I_Md 14 hM.2.1 n_fl_Md_93 d_Md_tagged_280 rfl (by decide) ?_
      refine aw_topi h4 ?_
      refine aw_icmp_ge S 311 d_Md_tagged_283 (by decide) (fun c283 => ?_) (fun c283 => ?_)
      · refine aw_aload_0 S d_Md_tagged_311 ?_
        refine aw_iconst (v := 2) S d_Md_tagged_312 (by decide) ?_
        refine aw_iconst (v := 1) S d_Md_tagged_313 (by decide) ?_
        refine aw_callVi0 S (ev_Md_note (w := tg_v (tmG ts i).2.2.2.1 (tape.map sp_low)) hM (hs.clr.keep (hf.wd (by decide) (by decide))) ⟨⟨hl4, h4, hL⟩, by show (tape.map sp_low).length ≤ 16; rw [List.length_map]; exact h16, by show v1 5 = nI (tape.map sp_low).length; rw [List.length_map]; exact h5, hG⟩ (find_eq hok (Or.inr (Or.inr ⟨rfl, rfl⟩)))) mb_Md_note mi_Md_note n_ml_Md_106 d_Md_tagged_314 I_Md hM.2.1 rfl rfl rfl (fun v_ g2_ n2_ h_ => ?_)
        obtain ⟨rfl, rfl, hm⟩ := h_
        refine aw_iret S rfl d_Md_tagged_317 ?_ (by decide) (by decide)
        refine ⟨?_, rfl, ?_⟩
        · rw [op_tagR, hx]; dsimp only; rw [if_pos hs0, hw]
        · rw [op_tagT, hx]; dsimp only; rw [if_pos hs0, hw]; exact hm
      · exact absurd (nI_le (by omega) (by omega)) c283
    | succ j ih =>
      intro k i v1 f1 g x3 x4 x6 x7 x8 hM hi ha hx hT hs0 hk hw h16 h4 hL h5 hG hf
      have hl4 := hT.2.2.2.1
      refine aw_iload_5 S d_Md_tagged_277 ?_
      refine aw_aload_0 S d_Md_tagged_279 ?_
      refine aw_getf S I_Md 14 hM.2.1 n_fl_Md_93 d_Md_tagged_280 rfl (by decide) ?_
      refine aw_topi h4 ?_
      refine aw_icmp_ge S 311 d_Md_tagged_283 (by decide) (fun c283 => ?_) (fun c283 => ?_)
      · exact absurd c283 (nI_ge (by omega) (by omega))
      · refine aw_aload_0 S d_Md_tagged_286 ?_
        refine aw_getf S I_Md 15 hM.2.1 n_fl_Md_44 d_Md_tagged_287 rfl (by decide) ?_
        refine aw_iload_5 S d_Md_tagged_290 ?_
        refine aw_aload_0 S d_Md_tagged_292 ?_
        refine aw_getf S I_Md 6 hM.2.1 n_fl_Md_22 d_Md_tagged_293 rfl (by decide) ?_
        refine aw_bipush (v := 100) S d_Md_tagged_296 (by decide) ?_
        refine aw_iload_1 S d_Md_tagged_298 ?_
        refine aw_imul S d_Md_tagged_299 ?_
        refine aw_iload_5 S d_Md_tagged_300 ?_
        refine aw_iadd S d_Md_tagged_302 ?_
        refine aw_topi (ix100 (i) (k)) ?_
        refine aw_mld S hM 4 (by decide) ((congrFun (hf.2 4 (by decide)) _).trans (hT.2.2.2.2.1 k (by omega))) (show _ < 6000 by omega) d_Md_tagged_303 ?_
        refine aw_mst S hM 10 (by decide) (show _ < 400 by omega) d_Md_tagged_304 (fun g_ hM => ?_)
        refine aw_iinc_5 (v := nI (k + 1)) S d_Md_tagged_305 ((nI_succ (k)).symm) ?_
        refine aw_goto S 277 d_Md_tagged_308 (by decide) ?_
        refine ih (k + 1) i _ _ _ _ _ _ _ _ hM hi ha hx hT hs0 (by omega) hw h16 h4 ?_ h5 hG (hf.f (by decide))
        have := hL.step (k := k) (b := 0) (x := (tmG ts i).2.2.2.1.getD k (-1)) (by omega) rfl
        rw [Nat.zero_add] at this
        exact this
  have l208 : ∀ (j k i : Nat) (v1 : Nat → Int32) (f1 : Nat → Nat → Int32) (g : AH) (x3 : Option Value) (x4 : Int32) (x6 x7 x8 : Option Value), mG E g0 d v1 f1 g → i < ts.length → a0 = nI i → ixK ts 2 a0 = some i → mT f i (tmG ts i) → (tmG ts i).2.1 = 0 → k + j = tape.length → sp_wtag tape = none → tape.length ≤ 16 → v1 5 = nI tape.length → mL (f1 11) 0 ((tape.map sp_low).take k) → mfr [4, 5] [10, 11] (upd v 0 0) v1 f f1 → AW p l e { frames := 3, cells := 0, slots := 0, locals := 40 * 3 } s m args below meth c E 9 (aw_Z E (aw_Pi (fun r_ g2 n2 => r_ = op_tagR tape ts a0 ∧ n2 = n ∧ mS E g0 d g2 ([]) (op_tagT tape ts a0) (bt) (ps) (pr))) below args s 0 0) 0 0 g n 208 [some (.ref d), some (.int (nI i)), some (.int (nI tape.length)), x3, some (.int x4), some (.int (nI k)), x6, x7, x8] [] := by
    intro j
    induction j with
    | zero =>
      intro k i v1 f1 g x3 x4 x6 x7 x8 hM hi ha hx hT hs0 hk hw h16 h5 hG hf
      rw [List.take_of_length_le (by rw [List.length_map]; omega)] at hG
      refine aw_iload_5 S d_Md_tagged_208 ?_
      refine aw_iload_2 S d_Md_tagged_210 ?_
      refine aw_icmp_ge S 264 d_Md_tagged_211 (by decide) (fun c211 => ?_) (fun c211 => ?_)
      · refine aw_aload_0 S d_Md_tagged_264 ?_
        refine aw_aload_0 S d_Md_tagged_265 ?_
        refine aw_getf S I_Md 5 hM.2.1 n_fl_Md_19 d_Md_tagged_266 rfl (by decide) ?_
        refine aw_iload_1 S d_Md_tagged_269 ?_
        refine aw_mld S hM 3 (by decide) ((congrFun (hf.2 3 (by decide)) _).trans hT.2.2.1) (show _ < 60 by omega) d_Md_tagged_270 ?_
        refine aw_mput4 S hM n_fl_Md_93 d_Md_tagged_271 (fun g_ hM => ?_)
        refine aw_iconst (v := 0) S d_Md_tagged_274 (by decide) ?_
        refine aw_topi nI_0.symm ?_
        refine aw_istore_5 S d_Md_tagged_275 ?_
        exact l277 _ 0 i _ f1 _ _ _ _ _ _ hM hi ha hx hT hs0 (Nat.zero_add _) hw h16 rfl (by rw [List.take_zero]; exact mL.nil) h5 hG (hf.v (by decide))
      · exact absurd (nI_le (by omega) (by omega)) c211
    | succ j ih =>
      intro k i v1 f1 g x3 x4 x6 x7 x8 hM hi ha hx hT hs0 hk hw h16 h5 hG hf
      refine aw_iload_5 S d_Md_tagged_208 ?_
      refine aw_iload_2 S d_Md_tagged_210 ?_
      refine aw_icmp_ge S 264 d_Md_tagged_211 (by decide) (fun c211 => ?_) (fun c211 => ?_)
      · exact absurd c211 (nI_ge (by omega) (by omega))
      · refine aw_aload_0 S d_Md_tagged_214 ?_
        refine aw_getf S I_Md 17 hM.2.1 n_fl_Md_47 d_Md_tagged_215 rfl (by decide) ?_
        refine aw_iload_5 S d_Md_tagged_218 ?_
        refine aw_aload_0 S d_Md_tagged_220 ?_
        refine aw_getf S I_Md 1 hM.2.1 n_fl_Md_7 d_Md_tagged_221 rfl (by decide) ?_
        refine aw_iload_5 S d_Md_tagged_224 ?_
        refine aw_mld S hM 0 (by decide) ((congrFun (hf.2 0 (by decide)) _).trans (tL.at0 (by omega))) (show _ < 96 by omega) d_Md_tagged_226 ?_
        refine aw_bipush (v := 65) S d_Md_tagged_227 (by decide) ?_
        refine aw_bipush (v := 90) S d_Md_tagged_229 (by decide) ?_
        refine aw_callSiR S (ev_Md_is (tape.getD k (-1)) 65 90) mb_Md_is n_st_Md_is n_ml_Md_77 d_Md_tagged_231 rfl rfl ?_
        refine aw_if_eq S 250 d_Md_tagged_234 (by decide) (fun c234 => ?_) (fun c234 => ?_)
        · refine aw_aload_0 S d_Md_tagged_250 ?_
          refine aw_getf S I_Md 1 hM.2.1 n_fl_Md_7 d_Md_tagged_251 rfl (by decide) ?_
          refine aw_iload_5 S d_Md_tagged_254 ?_
          refine aw_mld S hM 0 (by decide) ((congrFun (hf.2 0 (by decide)) _).trans (tL.at0 (by omega))) (show _ < 96 by omega) d_Md_tagged_256 ?_
          refine aw_mst S hM 11 (by decide) (show _ < 16 by omega) d_Md_tagged_257 (fun g_ hM => ?_)
          refine aw_iinc_5 (v := nI (k + 1)) S d_Md_tagged_258 ((nI_succ (k)).symm) ?_
          refine aw_goto S 208 d_Md_tagged_261 (by decide) ?_
          refine ih (k + 1) i _ _ _ _ _ _ _ _ hM hi ha hx hT hs0 (by omega) hw h16 h5 ?_ (hf.f (by decide))
          have := hG.step (k := k) (b := 0) (x := _) (by rw [List.length_map]; omega) ((low_ng (aw_b_f c234)).trans (map_getD (show k < tape.length by omega)).symm)
          rw [Nat.zero_add] at this
          exact this
        · refine aw_aload_0 S d_Md_tagged_237 ?_
          refine aw_getf S I_Md 1 hM.2.1 n_fl_Md_7 d_Md_tagged_238 rfl (by decide) ?_
          refine aw_iload_5 S d_Md_tagged_241 ?_
          refine aw_mld S hM 0 (by decide) ((congrFun (hf.2 0 (by decide)) _).trans (tL.at0 (by omega))) (show _ < 96 by omega) d_Md_tagged_243 ?_
          refine aw_bipush (v := 32) S d_Md_tagged_244 (by decide) ?_
          refine aw_iadd S d_Md_tagged_246 ?_
          refine aw_goto S 257 d_Md_tagged_247 (by decide) ?_
          refine aw_mst S hM 11 (by decide) (show _ < 16 by omega) d_Md_tagged_257 (fun g_ hM => ?_)
          refine aw_iinc_5 (v := nI (k + 1)) S d_Md_tagged_258 ((nI_succ (k)).symm) ?_
          refine aw_goto S 208 d_Md_tagged_261 (by decide) ?_
          refine ih (k + 1) i _ _ _ _ _ _ _ _ hM hi ha hx hT hs0 (by omega) hw h16 h5 ?_ (hf.f (by decide))
          have := hG.step (k := k) (b := 0) (x := _) (by rw [List.length_map]; omega) ((low_gr (aw_b_t c234)).trans (map_getD (show k < tape.length by omega)).symm)
          rw [Nat.zero_add] at this
          exact this
  have s181 : ∀ (i P Z : Nat) (x5 x6 x7 x8 : Option Value) (g : AH), mG E g0 d (upd v 0 0) f g → i < ts.length → a0 = nI i → ixK ts 2 a0 = some i → mT f i (tmG ts i) → (tmG ts i).2.1 = 0 → P ≤ 16 → Z ≤ 8 → sp_wtag tape = (if Z < few P then some tape.length else none) → AW p l e { frames := 3, cells := 0, slots := 0, locals := 40 * 3 } s m args below meth c E 9 (aw_Z E (aw_Pi (fun r_ g2 n2 => r_ = op_tagR tape ts a0 ∧ n2 = n ∧ mS E g0 d g2 ([]) (op_tagT tape ts a0) (bt) (ps) (pr))) below args s 0 0) 0 0 g n 181 [some (.ref d), some (.int (nI i)), some (.int (nI tape.length)), some (.int (nI P)), some (.int (nI Z)), x5, x6, x7, x8] [] := by
    intro i P Z x5 x6 x7 x8 g hM hi ha hx hT hs0 hP hZ hw
    have tail : few P ≤ Z → AW p l e { frames := 3, cells := 0, slots := 0, locals := 40 * 3 } s m args below meth c E 9 (aw_Z E (aw_Pi (fun r_ g2 n2 => r_ = op_tagR tape ts a0 ∧ n2 = n ∧ mS E g0 d g2 ([]) (op_tagT tape ts a0) (bt) (ps) (pr))) below args s 0 0) 0 0 g n 200 [some (.ref d), some (.int (nI i)), some (.int (nI tape.length)), some (.int (nI P)), some (.int (nI Z)), x5, x6, x7, x8] [] := by
      intro hc
      rw [if_neg (by omega)] at hw
      have h16 : tape.length ≤ 16 := by rcases wt_16 _ _ _ _ _ hw with q | q; rw [q]; exact Nat.zero_le _; omega
      refine aw_aload_0 S d_Md_tagged_200 ?_
      refine aw_iload_2 S d_Md_tagged_201 ?_
      refine aw_mput5 S hM n_fl_Md_96 d_Md_tagged_202 (fun g_ hM => ?_)
      refine aw_iconst (v := 0) S d_Md_tagged_205 (by decide) ?_
      refine aw_topi nI_0.symm ?_
      refine aw_istore_5 S d_Md_tagged_206 ?_
      exact l208 _ 0 i _ f _ _ _ _ _ _ hM hi ha hx hT hs0 (Nat.zero_add _) hw h16 rfl (by rw [List.take_zero]; exact mL.nil) (mfr.rf.v (by decide))
    rcases Nat.eq_zero_or_pos P with hP0 | hP0
    · have hfw : few P = 2 := if_pos hP0
      refine aw_iload_4 S d_Md_tagged_181 ?_
      refine aw_iload_3 S d_Md_tagged_183 ?_
      refine aw_if_ne S 191 d_Md_tagged_184 (by decide) (fun c184 => ?_) (fun c184 => ?_)
      · exact absurd (by rw [hP0]; rfl) c184
      · refine aw_iconst (v := 2) S d_Md_tagged_187 (by decide) ?_
        refine aw_goto S 192 d_Md_tagged_188 (by decide) ?_
        refine aw_icmp_ge S 200 d_Md_tagged_192 (by decide) (fun c192 => ?_) (fun c192 => ?_)
        · exact tail (by rw [hfw]; exact (nI_leI (a := 2) (by omega) (by omega)).mp c192)
        · refine aw_bipush (v := -10) S d_Md_tagged_195 (by decide) ?_
          refine aw_iload_2 S d_Md_tagged_197 ?_
          refine aw_isub S d_Md_tagged_198 ?_
          refine aw_iret S rfl d_Md_tagged_199 ?_ (by decide) (by decide)
          rw [if_pos (by rw [hfw]; exact Nat.not_le.mp (fun z => c192 (nI_le (a := 2) z (by omega))))] at hw
          refine ⟨?_, rfl, _, f, hM, ?_⟩
          · rw [op_tagR, hx]; dsimp only; rw [if_pos hs0, hw]
          · rw [op_tagT, hx]; dsimp only; rw [if_pos hs0, hw]; exact hs.clr
    · have hfw : few P = 1 := if_neg (by omega)
      refine aw_iload_4 S d_Md_tagged_181 ?_
      refine aw_iload_3 S d_Md_tagged_183 ?_
      refine aw_if_ne S 191 d_Md_tagged_184 (by decide) (fun c184 => ?_) (fun c184 => ?_)
      · refine aw_iconst (v := 1) S d_Md_tagged_191 (by decide) ?_
        refine aw_icmp_ge S 200 d_Md_tagged_192 (by decide) (fun c192 => ?_) (fun c192 => ?_)
        · exact tail (by rw [hfw]; exact (nI_leI (a := 1) (by omega) (by omega)).mp c192)
        · refine aw_bipush (v := -10) S d_Md_tagged_195 (by decide) ?_
          refine aw_iload_2 S d_Md_tagged_197 ?_
          refine aw_isub S d_Md_tagged_198 ?_
          refine aw_iret S rfl d_Md_tagged_199 ?_ (by decide) (by decide)
          rw [if_pos (by rw [hfw]; exact Nat.not_le.mp (fun z => c192 (nI_le (a := 1) z (by omega))))] at hw
          refine ⟨?_, rfl, _, f, hM, ?_⟩
          · rw [op_tagR, hx]; dsimp only; rw [if_pos hs0, hw]
          · rw [op_tagT, hx]; dsimp only; rw [if_pos hs0, hw]; exact hs.clr
      · exact absurd c184 (nI_ne0 hP0 (by omega))
  have loop : ∀ (j k i P Z : Nat) (x6 x7 x8 : Option Value) (g : AH), mG E g0 d (upd v 0 0) f g → i < ts.length → a0 = nI i → ixK ts 2 a0 = some i → mT f i (tmG ts i) → (tmG ts i).2.1 = 0 → k + j = tape.length → k ≤ 16 → P ≤ k → Z ≤ 8 → sp_wt (tape.drop k) k (few P) Z (decide (P = 0)) = sp_wtag tape → AW p l e { frames := 3, cells := 0, slots := 0, locals := 40 * 3 } s m args below meth c E 9 (aw_Z E (aw_Pi (fun r_ g2 n2 => r_ = op_tagR tape ts a0 ∧ n2 = n ∧ mS E g0 d g2 ([]) (op_tagT tape ts a0) (bt) (ps) (pr))) below args s 0 0) 0 0 g n 47 [some (.ref d), some (.int (nI i)), some (.int (nI tape.length)), some (.int (nI P)), some (.int (nI Z)), some (.int (nI k)), x6, x7, x8] [] := by
    intro j
    induction j with
    | zero =>
      intro k i P Z x6 x7 x8 g hM hi ha hx hT hs0 hk hk6 hP hZ hv
      rw [List.drop_eq_nil_iff.mpr (show tape.length ≤ k by omega), wt_nil] at hv
      refine aw_iload_5 S d_Md_tagged_47 ?_
      refine aw_iload_2 S d_Md_tagged_49 ?_
      refine aw_icmp_ge S 181 d_Md_tagged_50 (by decide) (fun c50 => ?_) (fun c50 => ?_)
      · exact s181 i P Z _ _ _ _ _ hM hi ha hx hT hs0 (by omega) hZ (by rw [← hv, show k = tape.length by omega])
      · exact absurd (nI_le (by omega) (by omega)) c50
    | succ j ih =>
      intro k i P Z x6 x7 x8 g hM hi ha hx hT hs0 hk hk6 hP hZ hv
      have hkl : k < tape.length := by omega
      rw [drop_cons hkl, wt_cons] at hv
      generalize hc : tape.getD k (-1) = c_ at hv
      have s124 : ∀ (en go : Bool), (en = true ↔ c_ = 45 ∧ few P ≤ Z) → (go = true ↔ Z < 8 ∧ (sp_let c_ = true ∨ (0 < P ∧ sp_dig c_ = true))) → AW p l e { frames := 3, cells := 0, slots := 0, locals := 40 * 3 } s m args below meth c E 9 (aw_Z E (aw_Pi (fun r_ g2 n2 => r_ = op_tagR tape ts a0 ∧ n2 = n ∧ mS E g0 d g2 ([]) (op_tagT tape ts a0) (bt) (ps) (pr))) below args s 0 0) 0 0 g n 124 [some (.ref d), some (.int (nI i)), some (.int (nI tape.length)), some (.int (nI P)), some (.int (nI Z)), some (.int (nI k)), some (.int c_), some (.int (aw_b en)), some (.int (aw_b go))] [] := by
        intro en go hen hgo
        have s147 : ¬ nI k = 16 → (en = true ∨ go = true) → AW p l e { frames := 3, cells := 0, slots := 0, locals := 40 * 3 } s m args below meth c E 9 (aw_Z E (aw_Pi (fun r_ g2 n2 => r_ = op_tagR tape ts a0 ∧ n2 = n ∧ mS E g0 d g2 ([]) (op_tagT tape ts a0) (bt) (ps) (pr))) below args s 0 0) 0 0 g n 147 [some (.ref d), some (.int (nI i)), some (.int (nI tape.length)), some (.int (nI P)), some (.int (nI Z)), some (.int (nI k)), some (.int c_), some (.int (aw_b en)), some (.int (aw_b go))] [] := by
          intro h16 hor
          have hk16 : ¬ 16 ≤ k := fun z => h16 (by rw [show k = 16 by omega]; rfl)
          rw [if_neg hk16] at hv
          cases en with
          | true =>
            have hE := hen.mp rfl
            rw [if_pos hE.1, if_neg (by omega)] at hv
            refine aw_iload_3 S d_Md_tagged_147 ?_
            refine aw_iload_7 S d_Md_tagged_148 ?_
            refine aw_if_eq S 157 d_Md_tagged_150 (by decide) (fun c150 => ?_) (fun c150 => ?_)
            · exact absurd c150 (by decide)
            · refine aw_iconst (v := 1) S d_Md_tagged_153 (by decide) ?_
              refine aw_topi (show (1 : Int32) = nI 1 from rfl) ?_
              refine aw_goto S 158 d_Md_tagged_154 (by decide) ?_
              refine aw_iadd S d_Md_tagged_158 ?_
              refine aw_topi (nI_add _ _) ?_
              refine aw_istore_3 S d_Md_tagged_159 ?_
              refine aw_iload_7 S d_Md_tagged_160 ?_
              refine aw_if_eq S 169 d_Md_tagged_162 (by decide) (fun c162 => ?_) (fun c162 => ?_)
              · exact absurd c162 (by decide)
              · refine aw_iconst (v := 0) S d_Md_tagged_165 (by decide) ?_
                refine aw_topi nI_0.symm ?_
                refine aw_goto S 173 d_Md_tagged_166 (by decide) ?_
                refine aw_istore_4 S d_Md_tagged_173 ?_
                refine aw_iinc_5 (v := nI (k + 1)) S d_Md_tagged_175 ((nI_succ (k)).symm) ?_
                refine aw_goto S 47 d_Md_tagged_178 (by decide) ?_
                exact ih (k + 1) i (P + 1) 0 _ _ _ _ hM hi ha hx hT hs0 (by omega) (by omega) (by omega) (by omega) hv
          | false =>
            have hG := hgo.mp (hor.resolve_left (by decide))
            have h45 : ¬ c_ = 45 := fun z => by rw [z] at hG; rcases hG.2 with q | q; exact absurd q (by decide); exact absurd q.2 (by decide)
            rw [if_neg h45, if_pos ((tl_iff P c_).mpr hG.2), if_pos hG.1] at hv
            refine aw_iload_3 S d_Md_tagged_147 ?_
            refine aw_iload_7 S d_Md_tagged_148 ?_
            refine aw_if_eq S 157 d_Md_tagged_150 (by decide) (fun c150 => ?_) (fun c150 => ?_)
            · refine aw_iconst (v := 0) S d_Md_tagged_157 (by decide) ?_
              refine aw_topi nI_0.symm ?_
              refine aw_iadd S d_Md_tagged_158 ?_
              refine aw_topi (nI_add _ _) ?_
              refine aw_istore_3 S d_Md_tagged_159 ?_
              refine aw_iload_7 S d_Md_tagged_160 ?_
              refine aw_if_eq S 169 d_Md_tagged_162 (by decide) (fun c162 => ?_) (fun c162 => ?_)
              · refine aw_iload_4 S d_Md_tagged_169 ?_
                refine aw_iconst (v := 1) S d_Md_tagged_171 (by decide) ?_
                refine aw_iadd S d_Md_tagged_172 ?_
                refine aw_topi (nI_1 _) ?_
                refine aw_istore_4 S d_Md_tagged_173 ?_
                refine aw_iinc_5 (v := nI (k + 1)) S d_Md_tagged_175 ((nI_succ (k)).symm) ?_
                refine aw_goto S 47 d_Md_tagged_178 (by decide) ?_
                exact ih (k + 1) i P (Z + 1) _ _ _ _ hM hi ha hx hT hs0 (by omega) (by omega) (by omega) (by omega) hv
              · exact absurd rfl c162
            · exact absurd rfl c150
        refine aw_iload_5 S d_Md_tagged_124 ?_
        refine aw_bipush (v := 16) S d_Md_tagged_126 (by decide) ?_
        refine aw_icmp_eq S 141 d_Md_tagged_128 (by decide) (fun c128 => ?_) (fun c128 => ?_)
        · refine aw_bipush (v := -10) S d_Md_tagged_141 (by decide) ?_
          refine aw_iload_5 S d_Md_tagged_143 ?_
          refine aw_isub S d_Md_tagged_145 ?_
          refine aw_iret S rfl d_Md_tagged_146 ?_ (by decide) (by decide)
          have hres : sp_wtag tape = some k := by
            rw [← hv, if_pos (by have := (nI_eq (b := 16) (by omega) (by omega)).mp c128; omega)]
          refine ⟨?_, rfl, _, f, hM, ?_⟩
          · rw [op_tagR, hx]; dsimp only; rw [if_pos hs0, hres]
          · rw [op_tagT, hx]; dsimp only; rw [if_pos hs0, hres]; exact hs.clr
        · refine aw_iload_7 S d_Md_tagged_131 ?_
          refine aw_if_ne S 147 d_Md_tagged_133 (by decide) (fun c133 => ?_) (fun c133 => ?_)
          · exact s147 c128 (Or.inl (aw_b_t c133))
          · refine aw_iload_8 S d_Md_tagged_136 ?_
            refine aw_if_ne S 147 d_Md_tagged_138 (by decide) (fun c138 => ?_) (fun c138 => ?_)
            · exact s147 c128 (Or.inr (aw_b_t c138))
            · refine aw_bipush (v := -10) S d_Md_tagged_141 (by decide) ?_
              refine aw_iload_5 S d_Md_tagged_143 ?_
              refine aw_isub S d_Md_tagged_145 ?_
              refine aw_iret S rfl d_Md_tagged_146 ?_ (by decide) (by decide)
              have hres : sp_wtag tape = some k := by
                rw [← hv, if_neg (fun z => c128 (by rw [show k = 16 by omega]; rfl))]
                by_cases h45 : c_ = 45
                · rw [if_pos h45, if_pos (by rcases Nat.lt_or_ge Z (few P) with q | q; exact q; exact absurd (hen.mpr ⟨h45, q⟩) (by rw [aw_b_f c133]; decide))]
                · rw [if_neg h45]
                  by_cases htl : sp_tl (decide (P = 0)) c_ = true
                  · rw [if_pos htl, if_neg]
                    intro hz8
                    refine absurd (hgo.mpr ⟨hz8, ?_⟩) (by rw [aw_b_f c138]; decide)
                    exact (tl_iff P c_).mp htl
                  · rw [if_neg htl]
              refine ⟨?_, rfl, _, f, hM, ?_⟩
              · rw [op_tagR, hx]; dsimp only; rw [if_pos hs0, hres]
              · rw [op_tagT, hx]; dsimp only; rw [if_pos hs0, hres]; exact hs.clr
      have s90 : ∀ (en : Bool) (x8 : Option Value), (en = true ↔ c_ = 45 ∧ few P ≤ Z) → AW p l e { frames := 3, cells := 0, slots := 0, locals := 40 * 3 } s m args below meth c E 9 (aw_Z E (aw_Pi (fun r_ g2 n2 => r_ = op_tagR tape ts a0 ∧ n2 = n ∧ mS E g0 d g2 ([]) (op_tagT tape ts a0) (bt) (ps) (pr))) below args s 0 0) 0 0 g n 90 [some (.ref d), some (.int (nI i)), some (.int (nI tape.length)), some (.int (nI P)), some (.int (nI Z)), some (.int (nI k)), some (.int c_), some (.int (aw_b en)), x8] [] := by
        intro en x8 hen
        refine aw_iload_4 S d_Md_tagged_90 ?_
        refine aw_bipush (v := 8) S d_Md_tagged_92 (by decide) ?_
        refine aw_icmp_ge S 121 d_Md_tagged_94 (by decide) (fun c94 => ?_) (fun c94 => ?_)
        · refine aw_iconst (v := 0) S d_Md_tagged_121 (by decide) ?_
          refine aw_istore_8 S d_Md_tagged_122 ?_
          exact s124 en false hen ⟨fun z => (by cases z), fun z => absurd z.1 (Nat.not_lt.mpr ((nI_leI (a := 8) (by omega) (by omega)).mp c94))⟩
        · refine aw_iload_6 S d_Md_tagged_97 ?_
          refine aw_callSiR S (ev_Md_isLetter c_) mb_Md_isLetter n_st_Md_isLetter n_ml_Md_116 d_Md_tagged_99 rfl rfl ?_
          refine aw_if_ne S 117 d_Md_tagged_102 (by decide) (fun c102 => ?_) (fun c102 => ?_)
          · refine aw_iconst (v := 1) S d_Md_tagged_117 (by decide) ?_
            refine aw_goto S 122 d_Md_tagged_118 (by decide) ?_
            refine aw_istore_8 S d_Md_tagged_122 ?_
            exact s124 en true hen ⟨fun _ => ⟨Nat.not_le.mp (fun z => c94 (nI_le (a := 8) z (by omega))), Or.inl (aw_b_t c102)⟩, fun _ => rfl⟩
          · refine aw_iload_3 S d_Md_tagged_105 ?_
            refine aw_if_le S 121 d_Md_tagged_106 (by decide) (fun c106 => ?_) (fun c106 => ?_)
            · refine aw_iconst (v := 0) S d_Md_tagged_121 (by decide) ?_
              refine aw_istore_8 S d_Md_tagged_122 ?_
              exact s124 en false hen ⟨fun z => (by cases z), fun z => absurd z.2 (fun q => q.elim (fun q => by rw [aw_b_f c102] at q; cases q) (fun q => absurd c106 (nI_nle q.1 (by omega))))⟩
            · refine aw_iload_6 S d_Md_tagged_109 ?_
              refine aw_callSiR S (ev_Md_isDigit c_) mb_Md_isDigit n_st_Md_isDigit n_ml_Md_85 d_Md_tagged_111 rfl rfl ?_
              refine aw_if_eq S 121 d_Md_tagged_114 (by decide) (fun c114 => ?_) (fun c114 => ?_)
              · refine aw_iconst (v := 0) S d_Md_tagged_121 (by decide) ?_
                refine aw_istore_8 S d_Md_tagged_122 ?_
                exact s124 en false hen ⟨fun z => (by cases z), fun z => absurd z.2 (fun q => q.elim (fun q => by rw [aw_b_f c102] at q; cases q) (fun q => by have q := q.2; rw [aw_b_f c114] at q; cases q))⟩
              · refine aw_iconst (v := 1) S d_Md_tagged_117 (by decide) ?_
                refine aw_goto S 122 d_Md_tagged_118 (by decide) ?_
                refine aw_istore_8 S d_Md_tagged_122 ?_
                exact s124 en true hen ⟨fun _ => ⟨Nat.not_le.mp (fun z => c94 (nI_le (a := 8) z (by omega))), Or.inr ⟨nI_gt c106, aw_b_t c114⟩⟩, fun _ => rfl⟩
      rcases Nat.eq_zero_or_pos P with hP0 | hP0
      · have hfw : few P = 2 := if_pos hP0
        refine aw_iload_5 S d_Md_tagged_47 ?_
        refine aw_iload_2 S d_Md_tagged_49 ?_
        refine aw_icmp_ge S 181 d_Md_tagged_50 (by decide) (fun c50 => ?_) (fun c50 => ?_)
        · exact absurd c50 (nI_ge (by omega) (by omega))
        · refine aw_aload_0 S d_Md_tagged_53 ?_
          refine aw_getf S I_Md 1 hM.2.1 n_fl_Md_7 d_Md_tagged_54 rfl (by decide) ?_
          refine aw_iload_5 S d_Md_tagged_57 ?_
          refine aw_mld S hM 0 (by decide) ((tL.at0 hkl).trans hc) (show _ < 96 by omega) d_Md_tagged_59 ?_
          refine aw_istore_6 S d_Md_tagged_60 ?_
          refine aw_iload_6 S d_Md_tagged_62 ?_
          refine aw_bipush (v := 45) S d_Md_tagged_64 (by decide) ?_
          refine aw_icmp_ne S 87 d_Md_tagged_66 (by decide) (fun c66 => ?_) (fun c66 => ?_)
          · refine aw_iconst (v := 0) S d_Md_tagged_87 (by decide) ?_
            refine aw_istore_7 S d_Md_tagged_88 ?_
            exact s90 false _ ⟨fun z => (by cases z), fun z => absurd z.1 c66⟩
          · refine aw_iload_4 S d_Md_tagged_69 ?_
            refine aw_iload_3 S d_Md_tagged_71 ?_
            refine aw_if_ne S 79 d_Md_tagged_72 (by decide) (fun c72 => ?_) (fun c72 => ?_)
            · exact absurd (by rw [hP0]; rfl) c72
            · refine aw_iconst (v := 2) S d_Md_tagged_75 (by decide) ?_
              refine aw_goto S 80 d_Md_tagged_76 (by decide) ?_
              refine aw_icmp_lt S 87 d_Md_tagged_80 (by decide) (fun c80 => ?_) (fun c80 => ?_)
              · refine aw_iconst (v := 0) S d_Md_tagged_87 (by decide) ?_
                refine aw_istore_7 S d_Md_tagged_88 ?_
                exact s90 false _ ⟨fun z => (by cases z), fun z => absurd c80 (nI_nlt (b := 2) (by have := z.2; rw [hfw] at this; exact this) (by omega))⟩
              · refine aw_iconst (v := 1) S d_Md_tagged_83 (by decide) ?_
                refine aw_goto S 88 d_Md_tagged_84 (by decide) ?_
                refine aw_istore_7 S d_Md_tagged_88 ?_
                exact s90 true _ ⟨fun _ => ⟨c66, by rw [hfw]; exact Nat.not_lt.mp (fun z => c80 (nI_lt (b := 2) z (by omega)))⟩, fun _ => rfl⟩
      · have hfw : few P = 1 := if_neg (by omega)
        refine aw_iload_5 S d_Md_tagged_47 ?_
        refine aw_iload_2 S d_Md_tagged_49 ?_
        refine aw_icmp_ge S 181 d_Md_tagged_50 (by decide) (fun c50 => ?_) (fun c50 => ?_)
        · exact absurd c50 (nI_ge (by omega) (by omega))
        · refine aw_aload_0 S d_Md_tagged_53 ?_
          refine aw_getf S I_Md 1 hM.2.1 n_fl_Md_7 d_Md_tagged_54 rfl (by decide) ?_
          refine aw_iload_5 S d_Md_tagged_57 ?_
          refine aw_mld S hM 0 (by decide) ((tL.at0 hkl).trans hc) (show _ < 96 by omega) d_Md_tagged_59 ?_
          refine aw_istore_6 S d_Md_tagged_60 ?_
          refine aw_iload_6 S d_Md_tagged_62 ?_
          refine aw_bipush (v := 45) S d_Md_tagged_64 (by decide) ?_
          refine aw_icmp_ne S 87 d_Md_tagged_66 (by decide) (fun c66 => ?_) (fun c66 => ?_)
          · refine aw_iconst (v := 0) S d_Md_tagged_87 (by decide) ?_
            refine aw_istore_7 S d_Md_tagged_88 ?_
            exact s90 false _ ⟨fun z => (by cases z), fun z => absurd z.1 c66⟩
          · refine aw_iload_4 S d_Md_tagged_69 ?_
            refine aw_iload_3 S d_Md_tagged_71 ?_
            refine aw_if_ne S 79 d_Md_tagged_72 (by decide) (fun c72 => ?_) (fun c72 => ?_)
            · refine aw_iconst (v := 1) S d_Md_tagged_79 (by decide) ?_
              refine aw_icmp_lt S 87 d_Md_tagged_80 (by decide) (fun c80 => ?_) (fun c80 => ?_)
              · refine aw_iconst (v := 0) S d_Md_tagged_87 (by decide) ?_
                refine aw_istore_7 S d_Md_tagged_88 ?_
                exact s90 false _ ⟨fun z => (by cases z), fun z => absurd c80 (nI_nlt (b := 1) (by have := z.2; rw [hfw] at this; exact this) (by omega))⟩
              · refine aw_iconst (v := 1) S d_Md_tagged_83 (by decide) ?_
                refine aw_goto S 88 d_Md_tagged_84 (by decide) ?_
                refine aw_istore_7 S d_Md_tagged_88 ?_
                exact s90 true _ ⟨fun _ => ⟨c66, by rw [hfw]; exact Nat.not_lt.mp (fun z => c80 (nI_lt (b := 1) z (by omega)))⟩, fun _ => rfl⟩
            · exact absurd c72 (nI_ne0 hP0 (by omega))
  refine aw_aload_0 S d_Md_tagged_0 ?_
  refine aw_getf S I_Md 0 hM.2.1 n_fl_Md_90 d_Md_tagged_1 rfl (by decide) ?_
  refine aw_topi t0 ?_
  refine aw_istore_2 S d_Md_tagged_4 ?_
  refine aw_aload_0 S d_Md_tagged_5 ?_
  refine aw_iconst (v := 0) S d_Md_tagged_6 (by decide) ?_
  refine aw_mput0 S hM n_fl_Md_90 d_Md_tagged_7 (fun g_ hM => ?_)
  refine aw_aload_0 S d_Md_tagged_10 ?_
  refine aw_iload_1 S d_Md_tagged_11 ?_
  refine aw_callViR S (ev_Md_isTerm a0 hM hs.clr) mb_Md_isTerm mi_Md_isTerm n_ml_Md_103 d_Md_tagged_12 I_Md hM.2.1 rfl rfl rfl ?_
  refine aw_if_eq S 37 d_Md_tagged_15 (by decide) (fun c15 => ?_) (fun c15 => ?_)
  · refine aw_iconst (v := -1) S d_Md_tagged_37 (by decide) ?_
    refine aw_iret S rfl d_Md_tagged_38 ?_ (by decide) (by decide)
    have hn : ixK ts 2 a0 = none := by rw [ixK, Option.isNone_iff_eq_none.mp (Option.isSome_eq_false_iff.mp (aw_b_f c15))]
    refine ⟨?_, rfl, _, f, hM, ?_⟩
    · rw [op_tagR, hn]
    · rw [op_tagT, hn]; exact hs.clr
  · have hsm := aw_bT c15
    obtain hn | ⟨i, hi, rfl, hx0⟩ := ixOf_cases a0 (show ts.length < 2 ^ 31 by omega)
    · rw [hn] at hsm; cases hsm
    have hT := nT i hi
    refine aw_aload_0 S d_Md_tagged_18 ?_
    refine aw_getf S I_Md 3 hM.2.1 n_fl_Md_13 d_Md_tagged_19 rfl (by decide) ?_
    refine aw_iload_1 S d_Md_tagged_22 ?_
    refine aw_mld S hM 1 (by decide) (hT.1) (show _ < 60 by omega) d_Md_tagged_23 ?_
    refine aw_iconst (v := 2) S d_Md_tagged_24 (by decide) ?_
    refine aw_icmp_ne S 37 d_Md_tagged_25 (by decide) (fun c25 => ?_) (fun c25 => ?_)
    · refine aw_iconst (v := -1) S d_Md_tagged_37 (by decide) ?_
      refine aw_iret S rfl d_Md_tagged_38 ?_ (by decide) (by decide)
      have hn : ixK ts 2 (nI i) = none := by rw [ixK, hx0]; dsimp only; rw [if_neg c25]
      refine ⟨?_, rfl, _, f, hM, ?_⟩
      · rw [op_tagR, hn]
      · rw [op_tagT, hn]; exact hs.clr
    · refine aw_aload_0 S d_Md_tagged_28 ?_
      refine aw_getf S I_Md 4 hM.2.1 n_fl_Md_16 d_Md_tagged_29 rfl (by decide) ?_
      refine aw_iload_1 S d_Md_tagged_32 ?_
      refine aw_mld S hM 2 (by decide) (hT.2.1) (show _ < 60 by omega) d_Md_tagged_33 ?_
      refine aw_if_eq S 39 d_Md_tagged_34 (by decide) (fun c34 => ?_) (fun c34 => ?_)
      · refine aw_iconst (v := 0) S d_Md_tagged_39 (by decide) ?_
        refine aw_topi nI_0.symm ?_
        refine aw_istore_3 S d_Md_tagged_40 ?_
        refine aw_iconst (v := 0) S d_Md_tagged_41 (by decide) ?_
        refine aw_topi nI_0.symm ?_
        refine aw_istore_4 S d_Md_tagged_42 ?_
        refine aw_iconst (v := 0) S d_Md_tagged_44 (by decide) ?_
        refine aw_topi nI_0.symm ?_
        refine aw_istore_5 S d_Md_tagged_45 ?_
        have hx : ixK ts 2 (nI i) = some i := by rw [ixK, hx0]; dsimp only; rw [if_pos c25]
        have hs0 : (tmG ts i).2.1 = 0 := by rw [mN, if_neg (by rw [c25]; decide)] at c34; exact c34
        exact loop tape.length 0 i 0 0 none none none _ hM hi rfl hx hT hs0 (Nat.zero_add _) (by omega) (Nat.le_refl _) (by omega) rfl
      · refine aw_iconst (v := -1) S d_Md_tagged_37 (by decide) ?_
        refine aw_iret S rfl d_Md_tagged_38 ?_ (by decide) (by decide)
        have hx : ixK ts 2 (nI i) = some i := by rw [ixK, hx0]; dsimp only; rw [if_pos c25]
        have hs0 : ¬ (tmG ts i).2.1 = 0 := fun z => c34 (by rw [mN, if_neg (by rw [c25]; decide)]; exact z)
        refine ⟨?_, rfl, _, f, hM, ?_⟩
        · rw [op_tagR, hx]; dsimp only; rw [if_neg hs0]
        · rw [op_tagT, hx]; dsimp only; rw [if_neg hs0]; exact hs.clr
