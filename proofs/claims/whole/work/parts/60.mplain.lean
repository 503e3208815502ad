/-! the reference: the path made plain -/
theorem bg_1 (xs : List Int32) : mbg xs 46 46 47 (-1) = sp_pre [46, 46, 47] xs := by
  rcases xs with _ | ⟨a, _ | ⟨b, _ | ⟨q, r⟩⟩⟩ <;> simp [mbg, bq, sp_pre]
theorem bg_2 (xs : List Int32) : mbg xs 46 47 (-1) (-1) = sp_pre [46, 47] xs := by
  rcases xs with _ | ⟨a, _ | ⟨b, r⟩⟩ <;> simp [mbg, bq, sp_pre]
theorem bg_3 (xs : List Int32) : mbg xs 47 46 47 (-1) = sp_pre [47, 46, 47] xs := by
  rcases xs with _ | ⟨a, _ | ⟨b, _ | ⟨q, r⟩⟩⟩ <;> simp [mbg, bq, sp_pre]
theorem bg_5 (xs : List Int32) : mbg xs 47 46 46 47 = sp_pre [47, 46, 46, 47] xs := by
  rcases xs with _ | ⟨a, _ | ⟨b, _ | ⟨q, _ | ⟨z, r⟩⟩⟩⟩ <;> simp [mbg, bq, sp_pre]
theorem bg_4 {xs : List Int32} (h : xs.length = 2) : mbg xs 47 46 (-1) (-1) = decide (xs = [47, 46]) := by
  rcases xs with _ | ⟨a, _ | ⟨b, _ | ⟨q, r⟩⟩⟩ <;> simp [mbg, bq] at h ⊢
theorem bg_6 {xs : List Int32} (h : xs.length = 3) : mbg xs 47 46 46 (-1) = decide (xs = [47, 46, 46]) := by
  rcases xs with _ | ⟨a, _ | ⟨b, _ | ⟨q, _ | ⟨z, r⟩⟩⟩⟩ <;> simp [mbg, bq] at h ⊢
theorem bg_7 {xs : List Int32} (h : xs.length = 1) : mbg xs 46 (-1) (-1) (-1) = decide (xs = [46]) := by
  rcases xs with _ | ⟨a, _ | ⟨b, r⟩⟩ <;> simp [mbg, bq] at h ⊢
theorem bg_8 {xs : List Int32} (h : xs.length = 2) : mbg xs 46 46 (-1) (-1) = decide (xs = [46, 46]) := by
  rcases xs with _ | ⟨a, _ | ⟨b, _ | ⟨q, r⟩⟩⟩ <;> simp [mbg, bq] at h ⊢
def mI (v : Nat → Int32) (f : Nat → Nat → Int32) (xs os : List Int32) : Prop := v 8 = nI xs.length ∧ mL (f 18) 0 xs ∧ v 9 = nI os.length ∧ mL (f 19) 0 os
theorem mL_one {F : Nat → Int32} {xs : List Int32} (h : mL F 0 xs) (h1 : xs.getD 0 (-1) = 47) (h2 : 0 < xs.length) : mL F 0 [47] := by
  intro k hk
  have hk0 : k = 0 := by simpa using hk
  subst hk0
  exact (h 0 h2).trans h1
set_option maxRecDepth 100000 in
set_option maxHeartbeats 4000000 in
theorem ev_Md_plain {l : Launch} {E : aw_E} {g : AH} {n : Nat} {g0 : AH} {d : Nat} {v : Nat → Int32} {f : Nat → Nat → Int32} {x0 rw_ : List Int32} (hM : mG E g0 d v f g) (h8 : v 8 = nI x0.length) (hI : mL (f 18) 0 x0) (hx : x0.length ≤ 300) (h4 : v 4 = nI rw_.length) (hL : mL (f 10) 0 rw_) (hfit0 : rw_.length + x0.length ≤ 400) : EV l E 1 0 0 y_Md_plain c_Md_plain 3 none g n [.ref d] (aw_Pv (fun g2 n2 => n2 = n ∧ ∃ v2 f2, mG E g0 d v2 f2 g2 ∧ mfr [4, 8, 9] [10, 18, 19] v v2 f f2 ∧ v2 4 = nI (rw_ ++ sp_plain x0).length ∧ mL (f2 10) 0 (rw_ ++ sp_plain x0))) := by
  refine aw_enter "AddressTermsModel" [some (.ref d), none, none] (by decide) rfl rfl (Nat.le_of_ble_eq_true rfl) ?_
  intro p e s m args below meth c S hnm
  have l291 : ∀ (j k : Nat) (v1 : Nat → Int32) (f1 : Nat → Nat → Int32) (g : AH) (y : Option Value) (os : List Int32), k + j = os.length → os = sp_plain x0 → os.length ≤ 300 → rw_.length + os.length ≤ 400 → v1 9 = nI os.length → mL (f1 19) 0 os → v1 4 = nI (rw_ ++ os.take k).length → mL (f1 10) 0 (rw_ ++ os.take k) → mfr [4, 8, 9] [10, 18, 19] v v1 f f1 → mG E g0 d v1 f1 g → AW p l e { frames := 1, cells := 0, slots := 0, locals := 40 * 1 } s m args below meth c E 3 (aw_Z E (aw_Pv (fun g2 n2 => n2 = n ∧ ∃ v2 f2, mG E g0 d v2 f2 g2 ∧ mfr [4, 8, 9] [10, 18, 19] v v2 f f2 ∧ v2 4 = nI (rw_ ++ sp_plain x0).length ∧ mL (f2 10) 0 (rw_ ++ sp_plain x0))) below args s 0 0) 0 0 g n 291 [some (.ref d), some (.int (nI k)), y] [] := by
    intro j
    induction j with
    | zero =>
      intro k v1 f1 g y os hk ho hl hfit h9 hO h4 hL hf hM
      rw [List.take_of_length_le (by omega), ho] at h4 hL
      refine aw_iload_1 S d_Md_plain_291 ?_
      refine aw_aload_0 S d_Md_plain_292 ?_
      refine aw_getf S I_Md 28 hM.2.1 n_fl_Md_132 d_Md_plain_293 rfl (by decide) ?_
      refine aw_topi h9 ?_
      refine aw_icmp_ge S 315 d_Md_plain_296 (by decide) (fun c296 => ?_) (fun c296 => ?_)
      · refine aw_vret S rfl d_Md_plain_315 ?_ (by decide) (by decide)
        exact ⟨rfl, v1, f1, hM, hf, h4, hL⟩
      · exact absurd (nI_le (by omega) (by omega)) c296
    | succ j ih =>
      intro k v1 f1 g y os hk ho hl hfit h9 hO h4 hL hf hM
      refine aw_iload_1 S d_Md_plain_291 ?_
      refine aw_aload_0 S d_Md_plain_292 ?_
      refine aw_getf S I_Md 28 hM.2.1 n_fl_Md_132 d_Md_plain_293 rfl (by decide) ?_
      refine aw_topi h9 ?_
      refine aw_icmp_ge S 315 d_Md_plain_296 (by decide) (fun c296 => ?_) (fun c296 => ?_)
      · exact absurd c296 (nI_ge (by omega) (by omega))
      · refine aw_aload_0 S d_Md_plain_299 ?_
        refine aw_aload_0 S d_Md_plain_300 ?_
        refine aw_getf S I_Md 29 hM.2.1 n_fl_Md_71 d_Md_plain_301 rfl (by decide) ?_
        refine aw_iload_1 S d_Md_plain_304 ?_
        refine aw_mld S hM 19 (by decide) (hO.at0 (by omega)) (show _ < 300 by omega) d_Md_plain_305 ?_
        refine aw_callVv0 S (ev_Md_add (os.getD k (-1)) hM h4 hL (by rw [List.length_append, List.length_take]; omega)) mb_Md_add mi_Md_add n_ml_Md_146 d_Md_plain_306 I_Md hM.2.1 rfl rfl rfl (fun g2_ n2_ h_ => ?_)
        obtain ⟨rfl, v3, f3, hM, hf3, h4, hL⟩ := h_
        rw [List.append_assoc, ← take_step (by omega)] at h4 hL
        refine aw_iinc_1 (v := nI (k + 1)) S d_Md_plain_309 ((nI_succ (k)).symm) ?_
        refine aw_goto S 291 d_Md_plain_312 (by decide) ?_
        exact ih (k + 1) v3 f3 _ _ os (by omega) ho hl hfit ((hf3.1 9 (by decide)).trans h9) (by rw [hf3.2 19 (by decide)]; exact hO) h4 hL (hf.tr (hf3.wd (by decide) (by decide))) hM
  have loop : ∀ (q : Nat) (v1 : Nat → Int32) (f1 : Nat → Nat → Int32) (g : AH) (x y : Option Value) (xs os : List Int32), mG E g0 d v1 f1 g → xs.length ≤ q → xs.length + os.length ≤ 300 → rw_.length + xs.length + os.length ≤ 400 → sp_pl q xs os = sp_plain x0 → mI v1 f1 xs os → mfr [8, 9] [18, 19] v v1 f f1 → AW p l e { frames := 1, cells := 0, slots := 0, locals := 40 * 1 } s m args below meth c E 3 (aw_Z E (aw_Pv (fun g2 n2 => n2 = n ∧ ∃ v2 f2, mG E g0 d v2 f2 g2 ∧ mfr [4, 8, 9] [10, 18, 19] v v2 f f2 ∧ v2 4 = nI (rw_ ++ sp_plain x0).length ∧ mL (f2 10) 0 (rw_ ++ sp_plain x0))) below args s 0 0) 0 0 g n 5 [some (.ref d), x, y] [] := by
    intro q
    induction q with
    | zero =>
      intro v1 f1 g x y xs os hM hq hl hfit hv hi hf
      have hx : xs = [] := List.eq_nil_of_length_eq_zero (by omega)
      subst hx
      rw [sp_pl] at hv
      refine aw_aload_0 S d_Md_plain_5 ?_
      refine aw_getf S I_Md 26 hM.2.1 n_fl_Md_129 d_Md_plain_6 rfl (by decide) ?_
      refine aw_topi hi.1 ?_
      refine aw_if_le S 289 d_Md_plain_9 (by decide) (fun c9 => ?_) (fun c9 => ?_)
      · refine aw_iconst (v := 0) S d_Md_plain_289 (by decide) ?_
        refine aw_topi nI_0.symm ?_
        refine aw_istore_1 S d_Md_plain_290 ?_
        exact l291 os.length 0 v1 f1 _ _ os (Nat.zero_add _) hv (by omega) (by omega) hi.2.2.1 hi.2.2.2 ((hf.1 4 (by decide)).trans (by rw [List.take_zero, List.append_nil]; exact h4)) (by rw [List.take_zero, List.append_nil, hf.2 10 (by decide)]; exact hL) (hf.wd (by decide) (by decide)) hM
      · exact absurd (show nI 0 ≤ 0 by decide) c9
    | succ q ih =>
      intro v1 f1 g x y xs os hM hq hl hfit hv hi hf
      rw [sp_pl] at hv
      have s216 : ¬ xs = [] → ¬ sp_pre [46, 46, 47] xs = true → ¬ sp_pre [46, 47] xs = true → ¬ sp_pre [47, 46, 47] xs = true → ¬ xs = [47, 46] → ¬ sp_pre [47, 46, 46, 47] xs = true → ¬ xs = [47, 46, 46] → ¬ xs = [46] → ¬ xs = [46, 46] → AW p l e { frames := 1, cells := 0, slots := 0, locals := 40 * 1 } s m args below meth c E 3 (aw_Z E (aw_Pv (fun g2 n2 => n2 = n ∧ ∃ v2 f2, mG E g0 d v2 f2 g2 ∧ mfr [4, 8, 9] [10, 18, 19] v v2 f f2 ∧ v2 4 = nI (rw_ ++ sp_plain x0).length ∧ mL (f2 10) 0 (rw_ ++ sp_plain x0))) below args s 0 0) 0 0 g n 216 [some (.ref d), x, y] [] := by
        intro ne p1 p2 p3 p4 p5 p6 p7 p8
        have hx0 : 0 < xs.length := by cases xs with | nil => exact absurd rfl ne | cons _ _ => exact Nat.succ_pos _
        rw [if_neg ne, if_neg p1, if_neg p2, if_neg p3, if_neg p4, if_neg p5, if_neg p6, if_neg p7, if_neg p8] at hv
        have hnx := sp_nx_le (L := [47]) (xs := xs) (p := 1) (by omega)
        generalize hN : sp_nx [47] xs 1 = N at hv hnx
        have l245 : ∀ (j k : Nat) (v1 : Nat → Int32) (f1 : Nat → Nat → Int32) (g : AH) (y : Option Value), mG E g0 d v1 f1 g → k + j = N → v1 8 = nI xs.length → mL (f1 18) 0 xs → v1 9 = nI (os ++ xs.take k).length → mL (f1 19) 0 (os ++ xs.take k) → mfr [8, 9] [18, 19] v v1 f f1 → AW p l e { frames := 1, cells := 0, slots := 0, locals := 40 * 1 } s m args below meth c E 3 (aw_Z E (aw_Pv (fun g2 n2 => n2 = n ∧ ∃ v2 f2, mG E g0 d v2 f2 g2 ∧ mfr [4, 8, 9] [10, 18, 19] v v2 f f2 ∧ v2 4 = nI (rw_ ++ sp_plain x0).length ∧ mL (f2 10) 0 (rw_ ++ sp_plain x0))) below args s 0 0) 0 0 g n 245 [some (.ref d), some (.int (nI N)), some (.int (nI k))] [] := by
          intro j
          induction j with
          | zero =>
            intro k v1 f1 g y hM hk h8 hI h9 hO hf
            have hk : k = N := by omega
            subst hk
            refine aw_iload_2 S d_Md_plain_245 ?_
            refine aw_iload_1 S d_Md_plain_246 ?_
            refine aw_icmp_ge S 281 d_Md_plain_247 (by decide) (fun c247 => ?_) (fun c247 => ?_)
            · refine aw_aload_0 S d_Md_plain_281 ?_
              refine aw_iload_1 S d_Md_plain_282 ?_
              refine aw_callVv0 S (ev_Md_skip k hM h8 hI (by omega) (by omega)) mb_Md_skip mi_Md_skip n_ml_Md_139 d_Md_plain_283 I_Md hM.2.1 rfl rfl rfl (fun g2_ n2_ h_ => ?_)
              obtain ⟨rfl, v3, f3, hM, hf3, h8, hI⟩ := h_
              refine aw_goto S 5 d_Md_plain_286 (by decide) ?_
              have e1 : (os ++ xs.take k).length = os.length + k := by rw [List.length_append, List.length_take]; omega
              exact ih v3 f3 _ _ _ (xs.drop k) (os ++ xs.take k) hM (by rw [List.length_drop]; omega) (by rw [List.length_drop, e1]; omega) (by rw [List.length_drop, e1]; omega) hv ⟨h8, hI, (hf3.1 9 (by decide)).trans h9, by rw [hf3.2 19 (by decide)]; exact hO⟩ (hf.tr (hf3.wd (by decide) (by decide)))
            · exact absurd (nI_le (Nat.le_refl _) (by omega)) c247
          | succ j ih2 =>
            intro k v1 f1 g y hM hk h8 hI h9 hO hf
            have e1 : (os ++ xs.take k).length = os.length + k := by rw [List.length_append, List.length_take]; omega
            refine aw_iload_2 S d_Md_plain_245 ?_
            refine aw_iload_1 S d_Md_plain_246 ?_
            refine aw_icmp_ge S 281 d_Md_plain_247 (by decide) (fun c247 => ?_) (fun c247 => ?_)
            · exact absurd c247 (nI_ge (by omega) (by omega))
            · refine aw_aload_0 S d_Md_plain_250 ?_
              refine aw_getf S I_Md 29 hM.2.1 n_fl_Md_71 d_Md_plain_251 rfl (by decide) ?_
              refine aw_aload_0 S d_Md_plain_254 ?_
              refine aw_getf S I_Md 28 hM.2.1 n_fl_Md_132 d_Md_plain_255 rfl (by decide) ?_
              refine aw_topi h9 ?_
              refine aw_aload_0 S d_Md_plain_258 ?_
              refine aw_getf S I_Md 27 hM.2.1 n_fl_Md_68 d_Md_plain_259 rfl (by decide) ?_
              refine aw_iload_2 S d_Md_plain_262 ?_
              refine aw_mld S hM 18 (by decide) (hI.at0 (by omega)) (show _ < 300 by omega) d_Md_plain_263 ?_
              refine aw_mst S hM 19 (by decide) (show _ < 300 by omega) d_Md_plain_264 (fun g_ hM => ?_)
              refine aw_aload_0 S d_Md_plain_265 ?_
              refine aw_dup S d_Md_plain_266 rfl ?_
              refine aw_getf S I_Md 28 hM.2.1 n_fl_Md_132 d_Md_plain_267 rfl (by decide) ?_
              refine aw_topi h9 ?_
              refine aw_iconst (v := 1) S d_Md_plain_270 (by decide) ?_
              refine aw_iadd S d_Md_plain_271 ?_
              refine aw_topi (nI_1 _) ?_
              refine aw_mput9 S hM n_fl_Md_132 d_Md_plain_272 (fun g_ hM => ?_)
              refine aw_iinc_2 (v := nI (k + 1)) S d_Md_plain_275 ((nI_succ (k)).symm) ?_
              refine aw_goto S 245 d_Md_plain_278 (by decide) ?_
              refine ih2 (k + 1) _ _ _ y hM (by omega) h8 hI ?_ ?_ ((hf.f (by decide)).v (by decide))
              · rw [take_step (by omega), ← List.append_assoc, List.length_append (bs := [_])]; rfl
              · rw [take_step (by omega), ← List.append_assoc]; exact hO.snoc0
        have l218 : ∀ (j k : Nat), xs.length ≤ k + j → k ≤ xs.length → sp_nx [47] xs k = N → AW p l e { frames := 1, cells := 0, slots := 0, locals := 40 * 1 } s m args below meth c E 3 (aw_Z E (aw_Pv (fun g2 n2 => n2 = n ∧ ∃ v2 f2, mG E g0 d v2 f2 g2 ∧ mfr [4, 8, 9] [10, 18, 19] v v2 f f2 ∧ v2 4 = nI (rw_ ++ sp_plain x0).length ∧ mL (f2 10) 0 (rw_ ++ sp_plain x0))) below args s 0 0) 0 0 g n 218 [some (.ref d), some (.int (nI k)), y] [] := by
          intro j
          induction j with
          | zero =>
            intro k hk hk2 hnn
            rw [sp_nx_ge (by omega)] at hnn
            subst hnn
            refine aw_iload_1 S d_Md_plain_218 ?_
            refine aw_aload_0 S d_Md_plain_219 ?_
            refine aw_getf S I_Md 26 hM.2.1 n_fl_Md_129 d_Md_plain_220 rfl (by decide) ?_
            refine aw_topi hi.1 ?_
            refine aw_icmp_ge S 243 d_Md_plain_223 (by decide) (fun c223 => ?_) (fun c223 => ?_)
            · refine aw_iconst (v := 0) S d_Md_plain_243 (by decide) ?_
              refine aw_topi nI_0.symm ?_
              refine aw_istore_2 S d_Md_plain_244 ?_
              exact l245 k 0 v1 f1 _ y hM (Nat.zero_add _) hi.1 hi.2.1 (by rw [List.take_zero, List.append_nil]; exact hi.2.2.1) (by rw [List.take_zero, List.append_nil]; exact hi.2.2.2) hf
            · exact absurd (nI_le (by omega) (by omega)) c223
          | succ j ih2 =>
            intro k hk hk2 hnn
            refine aw_iload_1 S d_Md_plain_218 ?_
            refine aw_aload_0 S d_Md_plain_219 ?_
            refine aw_getf S I_Md 26 hM.2.1 n_fl_Md_129 d_Md_plain_220 rfl (by decide) ?_
            refine aw_topi hi.1 ?_
            refine aw_icmp_ge S 243 d_Md_plain_223 (by decide) (fun c223 => ?_) (fun c223 => ?_)
            · refine aw_iconst (v := 0) S d_Md_plain_243 (by decide) ?_
              refine aw_topi nI_0.symm ?_
              refine aw_istore_2 S d_Md_plain_244 ?_
              rw [nI_leI (by omega) (by omega)] at c223
              rw [sp_nx_ge c223] at hnn
              subst hnn
              exact l245 k 0 v1 f1 _ y hM (Nat.zero_add _) hi.1 hi.2.1 (by rw [List.take_zero, List.append_nil]; exact hi.2.2.1) (by rw [List.take_zero, List.append_nil]; exact hi.2.2.2) hf
            · rw [nI_leI (by omega) (by omega)] at c223
              refine aw_aload_0 S d_Md_plain_226 ?_
              refine aw_getf S I_Md 27 hM.2.1 n_fl_Md_68 d_Md_plain_227 rfl (by decide) ?_
              refine aw_iload_1 S d_Md_plain_230 ?_
              refine aw_mld S hM 18 (by decide) (hi.2.1.at0 (show k < xs.length by omega)) (show _ < 300 by omega) d_Md_plain_231 ?_
              refine aw_bipush (v := 47) S d_Md_plain_232 (by decide) ?_
              refine aw_icmp_eq S 243 d_Md_plain_234 (by decide) (fun c234 => ?_) (fun c234 => ?_)
              · refine aw_iconst (v := 0) S d_Md_plain_243 (by decide) ?_
                refine aw_topi nI_0.symm ?_
                refine aw_istore_2 S d_Md_plain_244 ?_
                rw [sp_nx_hit (by omega) (by rw [c234]; decide)] at hnn
                subst hnn
                exact l245 k 0 v1 f1 _ y hM (Nat.zero_add _) hi.1 hi.2.1 (by rw [List.take_zero, List.append_nil]; exact hi.2.2.1) (by rw [List.take_zero, List.append_nil]; exact hi.2.2.2) hf
              · refine aw_iinc_1 (v := nI (k + 1)) S d_Md_plain_237 ((nI_succ (k)).symm) ?_
                refine aw_goto S 218 d_Md_plain_240 (by decide) ?_
                exact ih2 (k + 1) (by omega) (by omega) (by rw [← hnn]; exact (sp_nx_miss (by omega) (fun z => c234 (List.mem_singleton.mp z))).symm)
        refine aw_iconst (v := 1) S d_Md_plain_216 (by decide) ?_
        refine aw_istore_1 S d_Md_plain_217 ?_
        exact l218 xs.length 1 (by omega) (by omega) hN
      have s208 : sp_pl q [] os = sp_plain x0 → AW p l e { frames := 1, cells := 0, slots := 0, locals := 40 * 1 } s m args below meth c E 3 (aw_Z E (aw_Pv (fun g2 n2 => n2 = n ∧ ∃ v2 f2, mG E g0 d v2 f2 g2 ∧ mfr [4, 8, 9] [10, 18, 19] v v2 f f2 ∧ v2 4 = nI (rw_ ++ sp_plain x0).length ∧ mL (f2 10) 0 (rw_ ++ sp_plain x0))) below args s 0 0) 0 0 g n 208 [some (.ref d), x, y] [] := by
        intro hv
        refine aw_aload_0 S d_Md_plain_208 ?_
        refine aw_iconst (v := 0) S d_Md_plain_209 (by decide) ?_
        refine aw_mput8 S hM n_fl_Md_129 d_Md_plain_210 (fun g_ hM => ?_)
        refine aw_goto S 5 d_Md_plain_213 (by decide) ?_
        exact ih _ f1 _ _ _ [] os hM (Nat.zero_le _) (by simp; omega) (by simp; omega) hv ⟨rfl, mL.nil, hi.2.2.1, hi.2.2.2⟩ (hf.v (by decide))
      have s187 : ¬ xs = [] → ¬ sp_pre [46, 46, 47] xs = true → ¬ sp_pre [46, 47] xs = true → ¬ sp_pre [47, 46, 47] xs = true → ¬ xs = [47, 46] → ¬ sp_pre [47, 46, 46, 47] xs = true → ¬ xs = [47, 46, 46] → ¬ xs = [46] → AW p l e { frames := 1, cells := 0, slots := 0, locals := 40 * 1 } s m args below meth c E 3 (aw_Z E (aw_Pv (fun g2 n2 => n2 = n ∧ ∃ v2 f2, mG E g0 d v2 f2 g2 ∧ mfr [4, 8, 9] [10, 18, 19] v v2 f f2 ∧ v2 4 = nI (rw_ ++ sp_plain x0).length ∧ mL (f2 10) 0 (rw_ ++ sp_plain x0))) below args s 0 0) 0 0 g n 187 [some (.ref d), x, y] [] := by
        intro ne p1 p2 p3 p4 p5 p6 p7
        refine aw_aload_0 S d_Md_plain_187 ?_
        refine aw_getf S I_Md 26 hM.2.1 n_fl_Md_129 d_Md_plain_188 rfl (by decide) ?_
        refine aw_topi hi.1 ?_
        refine aw_iconst (v := 2) S d_Md_plain_191 (by decide) ?_
        refine aw_icmp_ne S 216 d_Md_plain_192 (by decide) (fun c192 => ?_) (fun c192 => ?_)
        · exact s216 ne p1 p2 p3 p4 p5 p6 p7 (fun z => c192 (by rw [z]; rfl))
        · refine aw_aload_0 S d_Md_plain_195 ?_
          refine aw_bipush (v := 46) S d_Md_plain_196 (by decide) ?_
          refine aw_bipush (v := 46) S d_Md_plain_198 (by decide) ?_
          refine aw_iconst (v := -1) S d_Md_plain_200 (by decide) ?_
          refine aw_iconst (v := -1) S d_Md_plain_201 (by decide) ?_
          refine aw_callViR S (ev_Md_begins 46 46 (-1) (-1) hM hi.1 hi.2.1 (by omega)) mb_Md_begins mi_Md_begins n_ml_Md_135 d_Md_plain_202 I_Md hM.2.1 rfl rfl rfl ?_
          refine aw_if_eq S 216 d_Md_plain_205 (by decide) (fun c205 => ?_) (fun c205 => ?_)
          · have hl2 := (show xs.length = 2 from (nI_eq (b := 2) (by omega) (by omega)).mp c192)
            have := aw_b_f c205
            rw [bg_8 hl2] at this
            exact s216 ne p1 p2 p3 p4 p5 p6 p7 (of_decide_eq_false this)
          · have hl2 := (show xs.length = 2 from (nI_eq (b := 2) (by omega) (by omega)).mp c192)
            have hx : xs = [46, 46] := by have := aw_b_t c205; rw [bg_8 hl2] at this; exact of_decide_eq_true this
            rw [if_neg ne, if_neg p1, if_neg p2, if_neg p3, if_neg p4, if_neg p5, if_neg p6, if_neg p7, if_pos hx] at hv
            exact s208 hv
      have s167 : ¬ xs = [] → ¬ sp_pre [46, 46, 47] xs = true → ¬ sp_pre [46, 47] xs = true → ¬ sp_pre [47, 46, 47] xs = true → ¬ xs = [47, 46] → ¬ sp_pre [47, 46, 46, 47] xs = true → ¬ xs = [47, 46, 46] → AW p l e { frames := 1, cells := 0, slots := 0, locals := 40 * 1 } s m args below meth c E 3 (aw_Z E (aw_Pv (fun g2 n2 => n2 = n ∧ ∃ v2 f2, mG E g0 d v2 f2 g2 ∧ mfr [4, 8, 9] [10, 18, 19] v v2 f f2 ∧ v2 4 = nI (rw_ ++ sp_plain x0).length ∧ mL (f2 10) 0 (rw_ ++ sp_plain x0))) below args s 0 0) 0 0 g n 167 [some (.ref d), x, y] [] := by
        intro ne p1 p2 p3 p4 p5 p6
        refine aw_aload_0 S d_Md_plain_167 ?_
        refine aw_getf S I_Md 26 hM.2.1 n_fl_Md_129 d_Md_plain_168 rfl (by decide) ?_
        refine aw_topi hi.1 ?_
        refine aw_iconst (v := 1) S d_Md_plain_171 (by decide) ?_
        refine aw_icmp_ne S 187 d_Md_plain_172 (by decide) (fun c172 => ?_) (fun c172 => ?_)
        · exact s187 ne p1 p2 p3 p4 p5 p6 (fun z => c172 (by rw [z]; rfl))
        · refine aw_aload_0 S d_Md_plain_175 ?_
          refine aw_bipush (v := 46) S d_Md_plain_176 (by decide) ?_
          refine aw_iconst (v := -1) S d_Md_plain_178 (by decide) ?_
          refine aw_iconst (v := -1) S d_Md_plain_179 (by decide) ?_
          refine aw_iconst (v := -1) S d_Md_plain_180 (by decide) ?_
          refine aw_callViR S (ev_Md_begins 46 (-1) (-1) (-1) hM hi.1 hi.2.1 (by omega)) mb_Md_begins mi_Md_begins n_ml_Md_135 d_Md_plain_181 I_Md hM.2.1 rfl rfl rfl ?_
          refine aw_if_ne S 208 d_Md_plain_184 (by decide) (fun c184 => ?_) (fun c184 => ?_)
          · have hl2 := (show xs.length = 1 from (nI_eq (b := 1) (by omega) (by omega)).mp c172)
            have hx : xs = [46] := by have := aw_b_t c184; rw [bg_7 hl2] at this; exact of_decide_eq_true this
            rw [if_neg ne, if_neg p1, if_neg p2, if_neg p3, if_neg p4, if_neg p5, if_neg p6, if_pos hx] at hv
            exact s208 hv
          · have hl2 := (show xs.length = 1 from (nI_eq (b := 1) (by omega) (by omega)).mp c172)
            have := aw_b_f c184
            rw [bg_7 hl2] at this
            exact s187 ne p1 p2 p3 p4 p5 p6 (of_decide_eq_false this)
      have s133 : ¬ xs = [] → ¬ sp_pre [46, 46, 47] xs = true → ¬ sp_pre [46, 47] xs = true → ¬ sp_pre [47, 46, 47] xs = true → ¬ xs = [47, 46] → ¬ sp_pre [47, 46, 46, 47] xs = true → AW p l e { frames := 1, cells := 0, slots := 0, locals := 40 * 1 } s m args below meth c E 3 (aw_Z E (aw_Pv (fun g2 n2 => n2 = n ∧ ∃ v2 f2, mG E g0 d v2 f2 g2 ∧ mfr [4, 8, 9] [10, 18, 19] v v2 f f2 ∧ v2 4 = nI (rw_ ++ sp_plain x0).length ∧ mL (f2 10) 0 (rw_ ++ sp_plain x0))) below args s 0 0) 0 0 g n 133 [some (.ref d), x, y] [] := by
        intro ne p1 p2 p3 p4 p5
        refine aw_aload_0 S d_Md_plain_133 ?_
        refine aw_getf S I_Md 26 hM.2.1 n_fl_Md_129 d_Md_plain_134 rfl (by decide) ?_
        refine aw_topi hi.1 ?_
        refine aw_iconst (v := 3) S d_Md_plain_137 (by decide) ?_
        refine aw_icmp_ne S 167 d_Md_plain_138 (by decide) (fun c138 => ?_) (fun c138 => ?_)
        · exact s167 ne p1 p2 p3 p4 p5 (fun z => c138 (by rw [z]; rfl))
        · refine aw_aload_0 S d_Md_plain_141 ?_
          refine aw_bipush (v := 47) S d_Md_plain_142 (by decide) ?_
          refine aw_bipush (v := 46) S d_Md_plain_144 (by decide) ?_
          refine aw_bipush (v := 46) S d_Md_plain_146 (by decide) ?_
          refine aw_iconst (v := -1) S d_Md_plain_148 (by decide) ?_
          refine aw_callViR S (ev_Md_begins 47 46 46 (-1) hM hi.1 hi.2.1 (by omega)) mb_Md_begins mi_Md_begins n_ml_Md_135 d_Md_plain_149 I_Md hM.2.1 rfl rfl rfl ?_
          refine aw_if_eq S 167 d_Md_plain_152 (by decide) (fun c152 => ?_) (fun c152 => ?_)
          · have hl2 := (show xs.length = 3 from (nI_eq (b := 3) (by omega) (by omega)).mp c138)
            have := aw_b_f c152
            rw [bg_6 hl2] at this
            exact s167 ne p1 p2 p3 p4 p5 (of_decide_eq_false this)
          · have hl2 := (show xs.length = 3 from (nI_eq (b := 3) (by omega) (by omega)).mp c138)
            have hx : xs = [47, 46, 46] := by have := aw_b_t c152; rw [bg_6 hl2] at this; exact of_decide_eq_true this
            rw [if_neg ne, if_neg p1, if_neg p2, if_neg p3, if_neg p4, if_neg p5, if_pos hx] at hv
            have hone : mL (f1 18) 0 [47] := (mL_one hi.2.1 (by rw [hx]; rfl) (by rw [hx]; decide))
            refine aw_aload_0 S d_Md_plain_155 ?_
            refine aw_iconst (v := 1) S d_Md_plain_156 (by decide) ?_
            refine aw_mput8 S hM n_fl_Md_129 d_Md_plain_157 (fun g_ hM => ?_)
            refine aw_aload_0 S d_Md_plain_160 ?_
            refine aw_callVv0 S (ev_Md_back (os := os) hM hi.2.2.1 hi.2.2.2 (by omega)) mb_Md_back mi_Md_back n_ml_Md_143 d_Md_plain_161 I_Md hM.2.1 rfl rfl rfl (fun g2_ n2_ h_ => ?_)
            obtain ⟨rfl, v4, f4, hM, hf4, h9, hO⟩ := h_
            refine aw_goto S 5 d_Md_plain_164 (by decide) ?_
            have hd := sp_dl_len os
            exact ih v4 f4 _ _ _ [47] (sp_dl os) hM (by simp; omega) (by simp; omega) (by simp; omega) hv ⟨(hf4.1 8 (by decide)).trans rfl, by rw [hf4.2 18 (by decide)]; exact hone, h9, hO⟩ ((hf.v (by decide)).tr (hf4.wd (by decide) (by decide)))
      have s106 : ¬ xs = [] → ¬ sp_pre [46, 46, 47] xs = true → ¬ sp_pre [46, 47] xs = true → ¬ sp_pre [47, 46, 47] xs = true → ¬ xs = [47, 46] → AW p l e { frames := 1, cells := 0, slots := 0, locals := 40 * 1 } s m args below meth c E 3 (aw_Z E (aw_Pv (fun g2 n2 => n2 = n ∧ ∃ v2 f2, mG E g0 d v2 f2 g2 ∧ mfr [4, 8, 9] [10, 18, 19] v v2 f f2 ∧ v2 4 = nI (rw_ ++ sp_plain x0).length ∧ mL (f2 10) 0 (rw_ ++ sp_plain x0))) below args s 0 0) 0 0 g n 106 [some (.ref d), x, y] [] := by
        intro ne p1 p2 p3 p4
        refine aw_aload_0 S d_Md_plain_106 ?_
        refine aw_bipush (v := 47) S d_Md_plain_107 (by decide) ?_
        refine aw_bipush (v := 46) S d_Md_plain_109 (by decide) ?_
        refine aw_bipush (v := 46) S d_Md_plain_111 (by decide) ?_
        refine aw_bipush (v := 47) S d_Md_plain_113 (by decide) ?_
        refine aw_callViR S (ev_Md_begins 47 46 46 47 hM hi.1 hi.2.1 (by omega)) mb_Md_begins mi_Md_begins n_ml_Md_135 d_Md_plain_115 I_Md hM.2.1 rfl rfl rfl ?_
        refine aw_if_eq S 133 d_Md_plain_118 (by decide) (fun c118 => ?_) (fun c118 => ?_)
        · exact s133 ne p1 p2 p3 p4 (by rw [← bg_5, aw_b_f c118]; decide)
        · have hp : sp_pre [47, 46, 46, 47] xs = true := by rw [← bg_5]; exact aw_b_t c118
          have hpl : 4 ≤ xs.length := sp_pre_le hp
          rw [if_neg ne, if_neg p1, if_neg p2, if_neg p3, if_neg p4, if_pos hp] at hv
          refine aw_aload_0 S d_Md_plain_121 ?_
          refine aw_iconst (v := 3) S d_Md_plain_122 (by decide) ?_
          refine aw_callVv0 S (ev_Md_skip 3 hM hi.1 hi.2.1 (by omega) (by omega)) mb_Md_skip mi_Md_skip n_ml_Md_139 d_Md_plain_123 I_Md hM.2.1 rfl rfl rfl (fun g2_ n2_ h_ => ?_)
          obtain ⟨rfl, v3, f3, hM, hf3, h8, hI⟩ := h_
          refine aw_aload_0 S d_Md_plain_126 ?_
          refine aw_callVv0 S (ev_Md_back (os := os) hM ((hf3.1 9 (by decide)).trans hi.2.2.1) (by rw [hf3.2 19 (by decide)]; exact hi.2.2.2) (by omega)) mb_Md_back mi_Md_back n_ml_Md_143 d_Md_plain_127 I_Md hM.2.1 rfl rfl rfl (fun g2_ n2_ h_ => ?_)
          obtain ⟨rfl, v4, f4, hM, hf4, h9, hO⟩ := h_
          refine aw_goto S 5 d_Md_plain_130 (by decide) ?_
          have hd := sp_dl_len os
          exact ih v4 f4 _ _ _ (xs.drop 3) (sp_dl os) hM (by rw [List.length_drop]; omega) (by rw [List.length_drop]; omega) (by rw [List.length_drop]; omega) hv ⟨(hf4.1 8 (by decide)).trans h8, by rw [hf4.2 18 (by decide)]; exact hI, h9, hO⟩ ((hf.tr (hf3.wd (by decide) (by decide))).tr (hf4.wd (by decide) (by decide)))
      have s77 : ¬ xs = [] → ¬ sp_pre [46, 46, 47] xs = true → ¬ sp_pre [46, 47] xs = true → ¬ sp_pre [47, 46, 47] xs = true → AW p l e { frames := 1, cells := 0, slots := 0, locals := 40 * 1 } s m args below meth c E 3 (aw_Z E (aw_Pv (fun g2 n2 => n2 = n ∧ ∃ v2 f2, mG E g0 d v2 f2 g2 ∧ mfr [4, 8, 9] [10, 18, 19] v v2 f f2 ∧ v2 4 = nI (rw_ ++ sp_plain x0).length ∧ mL (f2 10) 0 (rw_ ++ sp_plain x0))) below args s 0 0) 0 0 g n 77 [some (.ref d), x, y] [] := by
        intro ne p1 p2 p3
        refine aw_aload_0 S d_Md_plain_77 ?_
        refine aw_getf S I_Md 26 hM.2.1 n_fl_Md_129 d_Md_plain_78 rfl (by decide) ?_
        refine aw_topi hi.1 ?_
        refine aw_iconst (v := 2) S d_Md_plain_81 (by decide) ?_
        refine aw_icmp_ne S 106 d_Md_plain_82 (by decide) (fun c82 => ?_) (fun c82 => ?_)
        · exact s106 ne p1 p2 p3 (fun z => c82 (by rw [z]; rfl))
        · refine aw_aload_0 S d_Md_plain_85 ?_
          refine aw_bipush (v := 47) S d_Md_plain_86 (by decide) ?_
          refine aw_bipush (v := 46) S d_Md_plain_88 (by decide) ?_
          refine aw_iconst (v := -1) S d_Md_plain_90 (by decide) ?_
          refine aw_iconst (v := -1) S d_Md_plain_91 (by decide) ?_
          refine aw_callViR S (ev_Md_begins 47 46 (-1) (-1) hM hi.1 hi.2.1 (by omega)) mb_Md_begins mi_Md_begins n_ml_Md_135 d_Md_plain_92 I_Md hM.2.1 rfl rfl rfl ?_
          refine aw_if_eq S 106 d_Md_plain_95 (by decide) (fun c95 => ?_) (fun c95 => ?_)
          · have hl2 := (show xs.length = 2 from (nI_eq (b := 2) (by omega) (by omega)).mp c82)
            have := aw_b_f c95
            rw [bg_4 hl2] at this
            exact s106 ne p1 p2 p3 (of_decide_eq_false this)
          · have hl2 := (show xs.length = 2 from (nI_eq (b := 2) (by omega) (by omega)).mp c82)
            have hx : xs = [47, 46] := by have := aw_b_t c95; rw [bg_4 hl2] at this; exact of_decide_eq_true this
            rw [if_neg ne, if_neg p1, if_neg p2, if_neg p3, if_pos hx] at hv
            have hone : mL (f1 18) 0 [47] := (mL_one hi.2.1 (by rw [hx]; rfl) (by rw [hx]; decide))
            refine aw_aload_0 S d_Md_plain_98 ?_
            refine aw_iconst (v := 1) S d_Md_plain_99 (by decide) ?_
            refine aw_mput8 S hM n_fl_Md_129 d_Md_plain_100 (fun g_ hM => ?_)
            refine aw_goto S 5 d_Md_plain_103 (by decide) ?_
            exact ih _ f1 _ _ _ [47] os hM (by simp; omega) (by simp; omega) (by simp; omega) hv ⟨rfl, hone, hi.2.2.1, hi.2.2.2⟩ (hf.v (by decide))
      have s55 : ¬ xs = [] → ¬ sp_pre [46, 46, 47] xs = true → ¬ sp_pre [46, 47] xs = true → AW p l e { frames := 1, cells := 0, slots := 0, locals := 40 * 1 } s m args below meth c E 3 (aw_Z E (aw_Pv (fun g2 n2 => n2 = n ∧ ∃ v2 f2, mG E g0 d v2 f2 g2 ∧ mfr [4, 8, 9] [10, 18, 19] v v2 f f2 ∧ v2 4 = nI (rw_ ++ sp_plain x0).length ∧ mL (f2 10) 0 (rw_ ++ sp_plain x0))) below args s 0 0) 0 0 g n 55 [some (.ref d), x, y] [] := by
        intro ne p1 p2
        refine aw_aload_0 S d_Md_plain_55 ?_
        refine aw_bipush (v := 47) S d_Md_plain_56 (by decide) ?_
        refine aw_bipush (v := 46) S d_Md_plain_58 (by decide) ?_
        refine aw_bipush (v := 47) S d_Md_plain_60 (by decide) ?_
        refine aw_iconst (v := -1) S d_Md_plain_62 (by decide) ?_
        refine aw_callViR S (ev_Md_begins 47 46 47 (-1) hM hi.1 hi.2.1 (by omega)) mb_Md_begins mi_Md_begins n_ml_Md_135 d_Md_plain_63 I_Md hM.2.1 rfl rfl rfl ?_
        refine aw_if_eq S 77 d_Md_plain_66 (by decide) (fun c66 => ?_) (fun c66 => ?_)
        · exact s77 ne p1 p2 (by rw [← bg_3, aw_b_f c66]; decide)
        · have hp : sp_pre [47, 46, 47] xs = true := by rw [← bg_3]; exact aw_b_t c66
          have hpl := sp_pre_le hp
          simp only [List.length_cons, List.length_nil] at hpl
          rw [if_neg ne, if_neg p1, if_neg p2, if_pos hp] at hv
          refine aw_aload_0 S d_Md_plain_69 ?_
          refine aw_iconst (v := 2) S d_Md_plain_70 (by decide) ?_
          refine aw_callVv0 S (ev_Md_skip 2 hM hi.1 hi.2.1 (by omega) (by omega)) mb_Md_skip mi_Md_skip n_ml_Md_139 d_Md_plain_71 I_Md hM.2.1 rfl rfl rfl (fun g2_ n2_ h_ => ?_)
          obtain ⟨rfl, v3, f3, hM, hf3, h8, hI⟩ := h_
          refine aw_goto S 5 d_Md_plain_74 (by decide) ?_
          exact ih v3 f3 _ _ _ (xs.drop 2) os hM (by rw [List.length_drop]; omega) (by rw [List.length_drop]; omega) (by rw [List.length_drop]; omega) hv ⟨h8, hI, (hf3.1 9 (by decide)).trans hi.2.2.1, by rw [hf3.2 19 (by decide)]; exact hi.2.2.2⟩ (hf.tr (hf3.wd (by decide) (by decide)))
      have s34 : ¬ xs = [] → ¬ sp_pre [46, 46, 47] xs = true → AW p l e { frames := 1, cells := 0, slots := 0, locals := 40 * 1 } s m args below meth c E 3 (aw_Z E (aw_Pv (fun g2 n2 => n2 = n ∧ ∃ v2 f2, mG E g0 d v2 f2 g2 ∧ mfr [4, 8, 9] [10, 18, 19] v v2 f f2 ∧ v2 4 = nI (rw_ ++ sp_plain x0).length ∧ mL (f2 10) 0 (rw_ ++ sp_plain x0))) below args s 0 0) 0 0 g n 34 [some (.ref d), x, y] [] := by
        intro ne p1
        refine aw_aload_0 S d_Md_plain_34 ?_
        refine aw_bipush (v := 46) S d_Md_plain_35 (by decide) ?_
        refine aw_bipush (v := 47) S d_Md_plain_37 (by decide) ?_
        refine aw_iconst (v := -1) S d_Md_plain_39 (by decide) ?_
        refine aw_iconst (v := -1) S d_Md_plain_40 (by decide) ?_
        refine aw_callViR S (ev_Md_begins 46 47 (-1) (-1) hM hi.1 hi.2.1 (by omega)) mb_Md_begins mi_Md_begins n_ml_Md_135 d_Md_plain_41 I_Md hM.2.1 rfl rfl rfl ?_
        refine aw_if_eq S 55 d_Md_plain_44 (by decide) (fun c44 => ?_) (fun c44 => ?_)
        · exact s55 ne p1 (by rw [← bg_2, aw_b_f c44]; decide)
        · have hp : sp_pre [46, 47] xs = true := by rw [← bg_2]; exact aw_b_t c44
          have hpl := sp_pre_le hp
          simp only [List.length_cons, List.length_nil] at hpl
          rw [if_neg ne, if_neg p1, if_pos hp] at hv
          refine aw_aload_0 S d_Md_plain_47 ?_
          refine aw_iconst (v := 2) S d_Md_plain_48 (by decide) ?_
          refine aw_callVv0 S (ev_Md_skip 2 hM hi.1 hi.2.1 (by omega) (by omega)) mb_Md_skip mi_Md_skip n_ml_Md_139 d_Md_plain_49 I_Md hM.2.1 rfl rfl rfl (fun g2_ n2_ h_ => ?_)
          obtain ⟨rfl, v3, f3, hM, hf3, h8, hI⟩ := h_
          refine aw_goto S 5 d_Md_plain_52 (by decide) ?_
          exact ih v3 f3 _ _ _ (xs.drop 2) os hM (by rw [List.length_drop]; omega) (by rw [List.length_drop]; omega) (by rw [List.length_drop]; omega) hv ⟨h8, hI, (hf3.1 9 (by decide)).trans hi.2.2.1, by rw [hf3.2 19 (by decide)]; exact hi.2.2.2⟩ (hf.tr (hf3.wd (by decide) (by decide)))
      have s12 : ¬ xs = [] → AW p l e { frames := 1, cells := 0, slots := 0, locals := 40 * 1 } s m args below meth c E 3 (aw_Z E (aw_Pv (fun g2 n2 => n2 = n ∧ ∃ v2 f2, mG E g0 d v2 f2 g2 ∧ mfr [4, 8, 9] [10, 18, 19] v v2 f f2 ∧ v2 4 = nI (rw_ ++ sp_plain x0).length ∧ mL (f2 10) 0 (rw_ ++ sp_plain x0))) below args s 0 0) 0 0 g n 12 [some (.ref d), x, y] [] := by
        intro ne
        refine aw_aload_0 S d_Md_plain_12 ?_
        refine aw_bipush (v := 46) S d_Md_plain_13 (by decide) ?_
        refine aw_bipush (v := 46) S d_Md_plain_15 (by decide) ?_
        refine aw_bipush (v := 47) S d_Md_plain_17 (by decide) ?_
        refine aw_iconst (v := -1) S d_Md_plain_19 (by decide) ?_
        refine aw_callViR S (ev_Md_begins 46 46 47 (-1) hM hi.1 hi.2.1 (by omega)) mb_Md_begins mi_Md_begins n_ml_Md_135 d_Md_plain_20 I_Md hM.2.1 rfl rfl rfl ?_
        refine aw_if_eq S 34 d_Md_plain_23 (by decide) (fun c23 => ?_) (fun c23 => ?_)
        · exact s34 ne (by rw [← bg_1, aw_b_f c23]; decide)
        · have hp : sp_pre [46, 46, 47] xs = true := by rw [← bg_1]; exact aw_b_t c23
          have hpl := sp_pre_le hp
          simp only [List.length_cons, List.length_nil] at hpl
          rw [if_neg ne, if_pos hp] at hv
          refine aw_aload_0 S d_Md_plain_26 ?_
          refine aw_iconst (v := 3) S d_Md_plain_27 (by decide) ?_
          refine aw_callVv0 S (ev_Md_skip 3 hM hi.1 hi.2.1 (by omega) (by omega)) mb_Md_skip mi_Md_skip n_ml_Md_139 d_Md_plain_28 I_Md hM.2.1 rfl rfl rfl (fun g2_ n2_ h_ => ?_)
          obtain ⟨rfl, v3, f3, hM, hf3, h8, hI⟩ := h_
          refine aw_goto S 5 d_Md_plain_31 (by decide) ?_
          exact ih v3 f3 _ _ _ (xs.drop 3) os hM (by rw [List.length_drop]; omega) (by rw [List.length_drop]; omega) (by rw [List.length_drop]; omega) hv ⟨h8, hI, (hf3.1 9 (by decide)).trans hi.2.2.1, by rw [hf3.2 19 (by decide)]; exact hi.2.2.2⟩ (hf.tr (hf3.wd (by decide) (by decide)))
      refine aw_aload_0 S d_Md_plain_5 ?_
      refine aw_getf S I_Md 26 hM.2.1 n_fl_Md_129 d_Md_plain_6 rfl (by decide) ?_
      refine aw_topi hi.1 ?_
      refine aw_if_le S 289 d_Md_plain_9 (by decide) (fun c9 => ?_) (fun c9 => ?_)
      · refine aw_iconst (v := 0) S d_Md_plain_289 (by decide) ?_
        refine aw_topi nI_0.symm ?_
        refine aw_istore_1 S d_Md_plain_290 ?_
        have hx : xs = [] := by
          rcases Nat.eq_zero_or_pos xs.length with z | z
          · exact List.eq_nil_of_length_eq_zero z
          · exact absurd c9 (nI_nle z (by omega))
        rw [if_pos hx] at hv
        exact l291 os.length 0 v1 f1 _ _ os (Nat.zero_add _) hv (by omega) (by omega) hi.2.2.1 hi.2.2.2 ((hf.1 4 (by decide)).trans (by rw [List.take_zero, List.append_nil]; exact h4)) (by rw [List.take_zero, List.append_nil, hf.2 10 (by decide)]; exact hL) (hf.wd (by decide) (by decide)) hM
      · exact s12 (fun z => by rw [z] at c9; exact c9 (by decide))
  refine aw_aload_0 S d_Md_plain_0 ?_
  refine aw_iconst (v := 0) S d_Md_plain_1 (by decide) ?_
  refine aw_mput9 S hM n_fl_Md_132 d_Md_plain_2 (fun g_ hM => ?_)
  exact loop x0.length _ f _ none none x0 [] hM (Nat.le_refl _) (by simp; omega) (by simp; omega) rfl ⟨h8, hI, rfl, mL.nil⟩ (mfr.rf.v (by decide))
