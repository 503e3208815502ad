/-! the resolver: a path made plain -/
def sp_dl (o : List Int32) : List Int32 := match sp_lsO o 0 o.length with
  | none => []
  | some k => o.take k
def sp_pl : Nat → List Int32 → List Int32 → List Int32
  | 0, _, o => o
  | f + 1, i, o => if i = [] then o else if sp_pre [46, 46, 47] i = true then sp_pl f (i.drop 3) o else if sp_pre [46, 47] i = true then sp_pl f (i.drop 2) o else if sp_pre [47, 46, 47] i = true then sp_pl f (i.drop 2) o else if i = [47, 46] then sp_pl f [47] o else if sp_pre [47, 46, 46, 47] i = true then sp_pl f (i.drop 3) (sp_dl o) else if i = [47, 46, 46] then sp_pl f [47] (sp_dl o) else if i = [46] then sp_pl f [] o else if i = [46, 46] then sp_pl f [] o else sp_pl f (i.drop (sp_nx [47] i 1)) (o ++ i.take (sp_nx [47] i 1))
def sp_plain (i : List Int32) : List Int32 := sp_pl i.length i []
theorem sp_pl_nil (f : Nat) (o : List Int32) : sp_pl f [] o = o := by
  cases f with
  | zero => rfl
  | succ f => rw [sp_pl, if_pos rfl]
theorem sp_nxF_shift (L : List Int32) (c : Nat) : ∀ (xs : List Int32) (k : Nat), sp_nxF L xs (c + k) = c + sp_nxF L xs k := by
  intro xs
  induction xs with
  | nil => intro k; rfl
  | cons b r ih =>
    intro k
    rw [sp_nxF, sp_nxF]
    split
    · rfl
    · exact ih (k + 1)
theorem sp_nx_shift (L xs : List Int32) (c p : Nat) : sp_nx L xs (c + p) = c + sp_nx L (xs.drop c) p := by
  unfold sp_nx
  rw [List.drop_drop, sp_nxF_shift]
theorem sp_lsO_succ (xs : List Int32) (b k : Nat) : sp_lsO xs b (k + 1) = if k < b then none else if xs.getD k (-1) = 47 then some k else sp_lsO xs b k := rfl
theorem lsO_app (P o : List Int32) : ∀ z, z ≤ o.length → sp_lsO (P ++ o) P.length (P.length + z) = (sp_lsO o 0 z).map (fun k => P.length + k) := by
  intro z
  induction z with
  | zero =>
    intro _
    rw [Nat.add_zero]
    cases h : P.length with
    | zero => rfl
    | succ j => rw [sp_lsO_succ, if_pos (by omega)]; rfl
  | succ j ih =>
    intro hz
    rw [show P.length + (j + 1) = (P.length + j) + 1 by omega, sp_lsO_succ (P ++ o) P.length (P.length + j), sp_lsO_succ o 0 j, if_neg (show ¬ P.length + j < P.length by omega), if_neg (Nat.not_lt_zero j)]
    have e : (P ++ o).getD (P.length + j) (-1) = o.getD j (-1) := by
      simp [List.getD_eq_getElem?_getD, List.getElem?_append_right]
    rw [e]
    split
    · rfl
    · exact ih (by omega)
theorem sp_drop_app (P o : List Int32) : sp_drop (P ++ o) P.length = P ++ sp_dl o := by
  unfold sp_drop sp_dl
  rw [List.length_append, lsO_app P o o.length (Nat.le_refl _)]
  cases h : sp_lsO o 0 o.length with
  | none => simp
  | some k => simp [List.take_append, List.take_of_length_le]
theorem sp_dl_len (o : List Int32) : (sp_dl o).length ≤ o.length := by
  unfold sp_dl
  cases h : sp_lsO o 0 o.length with
  | none => exact Nat.zero_le _
  | some k => simp; omega
theorem inc_1 (k : Nat) : nI k + Int32.ofInt 1 = nI (k + 1) := by
  have h : Int32.ofInt 1 = nI 1 := by decide
  rw [h, nI_add]
theorem inc_2 (k : Nat) : nI k + Int32.ofInt 2 = nI (k + 2) := by
  have h : Int32.ofInt 2 = nI 2 := by decide
  rw [h, nI_add]
theorem inc_3 (k : Nat) : nI k + Int32.ofInt 3 = nI (k + 3) := by
  have h : Int32.ofInt 3 = nI 3 := by decide
  rw [h, nI_add]
theorem drop_set_at {zs : List Int32} {k : Nat} {v : Int32} (h : k < zs.length) : (zs.set k v).drop k = v :: zs.drop (k + 1) := by
  rw [drop_cons (by rw [List.length_set]; exact h)]
  congr 1
  · simp [List.getD_eq_getElem?_getD, h]
  · rw [List.drop_set_of_lt (by omega)]
/-- outside of two rows nothing has changed -/
def aw_fr2 (g g2 : AH) (p q : Nat) : Prop := ∀ x : Nat, (x < p ∨ p + 2 ≤ x) → (x < q ∨ q + 2 ≤ x) → g2 x = g x
theorem aw_fr2.l {g g2 g3 : AH} {p q : Nat} (h : aw_fr2 g g2 p q) (h2 : aw_fr g2 g3 p 2) : aw_fr2 g g3 p q := fun x h3 h4 => (h2 x h3).trans (h x h3 h4)
theorem aw_fr2.r {g g2 g3 : AH} {p q : Nat} (h : aw_fr2 g g2 p q) (h2 : aw_fr g2 g3 q 2) : aw_fr2 g g3 p q := fun x h3 h4 => (h2 x h4).trans (h x h3 h4)
theorem aw_fr2.tr {g g2 g3 : AH} {p q : Nat} (h : aw_fr2 g g2 p q) (h2 : aw_fr2 g2 g3 p q) : aw_fr2 g g3 p q := fun x h3 h4 => (h2 x h3 h4).trans (h x h3 h4)
theorem aw_fr2.rf {g : AH} {p q : Nat} : aw_fr2 g g p q := fun _ _ _ => rfl
theorem IsRow.fr2 {E : aw_E} {g g2 : AH} {a N p q : Nat} {xs : List Int32} (h : IsRow E g a N xs) (hf : aw_fr2 g g2 p q) (h1 : a + 2 ≤ p ∨ p + 2 ≤ a) (h2 : a + 2 ≤ q ∨ q + 2 ≤ a) : IsRow E g2 a N xs := h.keep (hf a (by omega) (by omega)) (hf (a + 1) (by omega) (by omega))
theorem Rfst.fr2 {E : aw_E} {g g2 : AH} {a r p q k : Nat} {xs : List Int32} (h : Rfst E g a r xs k) (hf : aw_fr2 g g2 p q) (h1 : a + 3 ≤ p ∨ p + 2 ≤ a) (h2 : a + 3 ≤ q ∨ q + 2 ≤ a) : Rfst E g2 a r xs k := by
  obtain ⟨fb, fe, hF, h3, h4⟩ := h
  exact ⟨fb, fe, ⟨hF.1, (hf a (by omega) (by omega)).trans hF.2.1, (hf _ (by omega) (by omega)).trans hF.2.2.1, (hf _ (by omega) (by omega)).trans hF.2.2.2⟩, h3, h4⟩
set_option maxRecDepth 100000 in
set_option maxHeartbeats 4000000 in
theorem ev_Rs_addPlainPath {l : Launch} {E : aw_E} {g : AH} {n : Nat} {a ob M : Nat} {zs0 P : List Int32} (hc : g a = some (.inr (2, [.ref (a + 1)]))) (hZ : IsRow E g (a + 1) 197 zs0) (hO : IsRow E g ob M P) (hd : ob + 2 ≤ a ∨ a + 3 ≤ ob) (hl : P.length + zs0.length ≤ M) : EV l E 6 0 0 y_Rs_addPlainPath c_Rs_addPlainPath 7 none g n [.ref a, .ref ob] (aw_Pv (fun g2 n2 => n2 = n ∧ IsRow E g2 ob M (P ++ sp_plain zs0) ∧ (∃ zs, IsRow E g2 (a + 1) 197 zs) ∧ aw_fr2 g g2 (a + 1) ob)) := by
  have hN1 := hZ.room
  have hN2 := hO.room
  refine aw_enter "AddressTerms$Resolver" [some (.ref a), some (.ref ob), none, none, none, none, none] (by decide) rfl rfl (Nat.le_of_ble_eq_true rfl) ?_
  intro p e s m args below meth c S hnm
  have loop : ∀ (mm left stp : Nat) (g1 : AH) (zs o : List Int32) (f : Nat) (w : Option Value), zs.length - left ≤ mm → left ≤ zs.length → zs.length = zs0.length → stp + (zs0.length - left) ≤ zs0.length → zs.length - left ≤ f → sp_pl f (zs.drop left) o = sp_plain zs0 → g1 a = some (.inr (2, [.ref (a + 1)])) → IsRow E g1 (a + 1) 197 zs → IsRow E g1 ob M (P ++ o) → P.length + o.length + (zs.length - left) ≤ M → aw_fr2 g g1 (a + 1) ob → AW p l e { frames := 6, cells := 0, slots := 0, locals := 40 * 6 } s m args below meth c E 7 (aw_Z E (aw_Pv (fun g2 n2 => n2 = n ∧ IsRow E g2 ob M (P ++ sp_plain zs0) ∧ (∃ zs, IsRow E g2 (a + 1) 197 zs) ∧ aw_fr2 g g2 (a + 1) ob)) below args s 0 0) 0 0 g1 n 19 [some (.ref a), some (.ref ob), some (.int (nI P.length)), some (.int (nI left)), some (.int (nI zs0.length)), some (.int (nI stp)), w] [] := by
    intro mm
    induction mm with
    | zero =>
      intro left stp g1 zs o f w hm hle hT hst hfu hv hc1 hz ho1 hl hf2
      have hzN := hz.room
      refine aw_iload_5 S d_Rs_addPlainPath_19 ?_
      refine aw_iload_4 S d_Rs_addPlainPath_21 ?_
      refine aw_icmp_ge S 246 d_Rs_addPlainPath_23 (by decide) (fun c23 => ?_) (fun c23 => ?_)
      · refine aw_vret S rfl d_Rs_addPlainPath_246 ?_ (by decide) (by decide)
        have hnil : zs.drop left = [] := List.drop_eq_nil_iff.mpr (by omega)
        rw [hnil, sp_pl_nil] at hv
        rw [← hv]
        exact ⟨rfl, ho1, ⟨zs, hz⟩, hf2⟩
      · refine aw_iload_3 S d_Rs_addPlainPath_26 ?_
        refine aw_aload_0 S d_Rs_addPlainPath_27 ?_
        refine aw_getf S I_Rs 0 hc1 n_fl_Rs_14 d_Rs_addPlainPath_28 rfl (by decide) ?_
        refine aw_callViR S (ev_Rw_size hz) mb_Rw_size mi_Rw_size n_ml_Rs_69 d_Rs_addPlainPath_31 I_Rw hz.cell rfl rfl rfl ?_
        refine aw_icmp_ge S 246 d_Rs_addPlainPath_34 (by decide) (fun c34 => ?_) (fun c34 => ?_)
        · refine aw_vret S rfl d_Rs_addPlainPath_246 ?_ (by decide) (by decide)
          have hnil : zs.drop left = [] := List.drop_eq_nil_iff.mpr (by omega)
          rw [hnil, sp_pl_nil] at hv
          rw [← hv]
          exact ⟨rfl, ho1, ⟨zs, hz⟩, hf2⟩
        · exact absurd (nI_le (by omega) (by omega)) c34
    | succ mm ih =>
      intro left stp g1 zs o f w hm hle hT hst hfu hv hc1 hz ho1 hl hf2
      have hzN := hz.room
      refine aw_iload_5 S d_Rs_addPlainPath_19 ?_
      refine aw_iload_4 S d_Rs_addPlainPath_21 ?_
      refine aw_icmp_ge S 246 d_Rs_addPlainPath_23 (by decide) (fun c23 => ?_) (fun c23 => ?_)
      · refine aw_vret S rfl d_Rs_addPlainPath_246 ?_ (by decide) (by decide)
        rw [nI_leI (by omega) (by omega)] at c23
        have hnil : zs.drop left = [] := List.drop_eq_nil_iff.mpr (by omega)
        rw [hnil, sp_pl_nil] at hv
        rw [← hv]
        exact ⟨rfl, ho1, ⟨zs, hz⟩, hf2⟩
      · refine aw_iload_3 S d_Rs_addPlainPath_26 ?_
        refine aw_aload_0 S d_Rs_addPlainPath_27 ?_
        refine aw_getf S I_Rs 0 hc1 n_fl_Rs_14 d_Rs_addPlainPath_28 rfl (by decide) ?_
        refine aw_callViR S (ev_Rw_size hz) mb_Rw_size mi_Rw_size n_ml_Rs_69 d_Rs_addPlainPath_31 I_Rw hz.cell rfl rfl rfl ?_
        refine aw_icmp_ge S 246 d_Rs_addPlainPath_34 (by decide) (fun c34 => ?_) (fun c34 => ?_)
        · refine aw_vret S rfl d_Rs_addPlainPath_246 ?_ (by decide) (by decide)
          rw [nI_leI (by omega) (by omega)] at c34
          have hnil : zs.drop left = [] := List.drop_eq_nil_iff.mpr (by omega)
          rw [hnil, sp_pl_nil] at hv
          rw [← hv]
          exact ⟨rfl, ho1, ⟨zs, hz⟩, hf2⟩
        · have hlt : left < zs.length := by rw [nI_leI (by omega) (by omega)] at c34; omega
          obtain ⟨f2, rfl⟩ : ∃ f2, f = f2 + 1 := ⟨f - 1, by omega⟩
          have hne : ¬ zs.drop left = [] := fun h => by have := List.drop_eq_nil_iff.mp h; omega
          rw [sp_pl, if_neg hne] at hv
          refine aw_aload_0 S d_Rs_addPlainPath_37 ?_
          refine aw_getf S I_Rs 0 hc1 n_fl_Rs_14 d_Rs_addPlainPath_38 rfl (by decide) ?_
          refine aw_iload_3 S d_Rs_addPlainPath_41 ?_
          refine aw_ldcS S 19 (by decide) rfl d_Rs_addPlainPath_42 ?_
          refine aw_callViR S (ev_Rw_hasThere left 19 hz (by decide) (by omega)) mb_Rw_hasThere mi_Rw_hasThere n_ml_Rs_75 d_Rs_addPlainPath_44 I_Rw hz.cell rfl rfl rfl ?_
          refine aw_if_eq S 56 d_Rs_addPlainPath_47 (by decide) (fun c47 => ?_) (fun c47 => ?_)
          · have q47 : sp_pre [46, 46, 47] (zs.drop left) = false := aw_b_f c47
            refine aw_aload_0 S d_Rs_addPlainPath_56 ?_
            refine aw_getf S I_Rs 0 hc1 n_fl_Rs_14 d_Rs_addPlainPath_57 rfl (by decide) ?_
            refine aw_iload_3 S d_Rs_addPlainPath_60 ?_
            refine aw_ldcS S 20 (by decide) rfl d_Rs_addPlainPath_61 ?_
            refine aw_callViR S (ev_Rw_hasThere left 20 hz (by decide) (by omega)) mb_Rw_hasThere mi_Rw_hasThere n_ml_Rs_75 d_Rs_addPlainPath_63 I_Rw hz.cell rfl rfl rfl ?_
            refine aw_if_ne S 82 d_Rs_addPlainPath_66 (by decide) (fun c66 => ?_) (fun c66 => ?_)
            · have q66 : sp_pre [46, 47] (zs.drop left) = true := aw_b_t c66
              refine aw_iinc_3 (v := nI (left + 2)) S d_Rs_addPlainPath_82 (inc_2 left) ?_
              refine aw_goto S 240 d_Rs_addPlainPath_85 (by decide) ?_
              refine aw_iinc_5 (v := nI (stp + 1)) S d_Rs_addPlainPath_240 (inc_1 stp) ?_
              refine aw_goto S 19 d_Rs_addPlainPath_243 (by decide) ?_
              rw [if_neg (by rw [q47]; decide), if_pos q66] at hv
              have h3 := sp_pre_le q66
              rw [List.length_drop] at h3
              have h3 : 2 ≤ zs.length - left := h3
              rw [List.drop_drop] at hv
              exact ih (left + 2) (stp + 1) _ zs o f2 _ (by omega) (by omega) hT (by omega) (by omega) hv hc1 hz ho1 (by omega) hf2
            · have q66 : sp_pre [46, 47] (zs.drop left) = false := aw_b_f c66
              refine aw_aload_0 S d_Rs_addPlainPath_69 ?_
              refine aw_getf S I_Rs 0 hc1 n_fl_Rs_14 d_Rs_addPlainPath_70 rfl (by decide) ?_
              refine aw_iload_3 S d_Rs_addPlainPath_73 ?_
              refine aw_ldcS S 21 (by decide) rfl d_Rs_addPlainPath_74 ?_
              refine aw_callViR S (ev_Rw_hasThere left 21 hz (by decide) (by omega)) mb_Rw_hasThere mi_Rw_hasThere n_ml_Rs_75 d_Rs_addPlainPath_76 I_Rw hz.cell rfl rfl rfl ?_
              refine aw_if_eq S 88 d_Rs_addPlainPath_79 (by decide) (fun c79 => ?_) (fun c79 => ?_)
              · have q79 : sp_pre [47, 46, 47] (zs.drop left) = false := aw_b_f c79
                refine aw_aload_0 S d_Rs_addPlainPath_88 ?_
                refine aw_getf S I_Rs 0 hc1 n_fl_Rs_14 d_Rs_addPlainPath_89 rfl (by decide) ?_
                refine aw_iload_3 S d_Rs_addPlainPath_92 ?_
                refine aw_ldcS S 22 (by decide) rfl d_Rs_addPlainPath_93 ?_
                refine aw_callViR S (ev_Rw_isRest left 22 hz (by decide) (by omega)) mb_Rw_isRest mi_Rw_isRest n_ml_Rs_85 d_Rs_addPlainPath_95 I_Rw hz.cell rfl rfl rfl ?_
                refine aw_if_eq S 117 d_Rs_addPlainPath_98 (by decide) (fun c98 => ?_) (fun c98 => ?_)
                · have q98 : ¬ zs.drop left = [47, 46] := of_decide_eq_false (aw_b_f c98)
                  refine aw_aload_0 S d_Rs_addPlainPath_117 ?_
                  refine aw_getf S I_Rs 0 hc1 n_fl_Rs_14 d_Rs_addPlainPath_118 rfl (by decide) ?_
                  refine aw_iload_3 S d_Rs_addPlainPath_121 ?_
                  refine aw_ldcS S 23 (by decide) rfl d_Rs_addPlainPath_122 ?_
                  refine aw_callViR S (ev_Rw_hasThere left 23 hz (by decide) (by omega)) mb_Rw_hasThere mi_Rw_hasThere n_ml_Rs_75 d_Rs_addPlainPath_124 I_Rw hz.cell rfl rfl rfl ?_
                  refine aw_if_eq S 141 d_Rs_addPlainPath_127 (by decide) (fun c127 => ?_) (fun c127 => ?_)
                  · have q127 : sp_pre [47, 46, 46, 47] (zs.drop left) = false := aw_b_f c127
                    refine aw_aload_0 S d_Rs_addPlainPath_141 ?_
                    refine aw_getf S I_Rs 0 hc1 n_fl_Rs_14 d_Rs_addPlainPath_142 rfl (by decide) ?_
                    refine aw_iload_3 S d_Rs_addPlainPath_145 ?_
                    refine aw_ldcS S 24 (by decide) rfl d_Rs_addPlainPath_146 ?_
                    refine aw_callViR S (ev_Rw_isRest left 24 hz (by decide) (by omega)) mb_Rw_isRest mi_Rw_isRest n_ml_Rs_85 d_Rs_addPlainPath_148 I_Rw hz.cell rfl rfl rfl ?_
                    refine aw_if_eq S 175 d_Rs_addPlainPath_151 (by decide) (fun c151 => ?_) (fun c151 => ?_)
                    · have q151 : ¬ zs.drop left = [47, 46, 46] := of_decide_eq_false (aw_b_f c151)
                      refine aw_aload_0 S d_Rs_addPlainPath_175 ?_
                      refine aw_getf S I_Rs 0 hc1 n_fl_Rs_14 d_Rs_addPlainPath_176 rfl (by decide) ?_
                      refine aw_iload_3 S d_Rs_addPlainPath_179 ?_
                      refine aw_ldcS S 25 (by decide) rfl d_Rs_addPlainPath_180 ?_
                      refine aw_callViR S (ev_Rw_isRest left 25 hz (by decide) (by omega)) mb_Rw_isRest mi_Rw_isRest n_ml_Rs_85 d_Rs_addPlainPath_182 I_Rw hz.cell rfl rfl rfl ?_
                      refine aw_if_ne S 201 d_Rs_addPlainPath_185 (by decide) (fun c185 => ?_) (fun c185 => ?_)
                      · have q185 : zs.drop left = [46] := of_decide_eq_true (aw_b_t c185)
                        refine aw_aload_0 S d_Rs_addPlainPath_201 ?_
                        refine aw_getf S I_Rs 0 hc1 n_fl_Rs_14 d_Rs_addPlainPath_202 rfl (by decide) ?_
                        refine aw_callViR S (ev_Rw_size hz) mb_Rw_size mi_Rw_size n_ml_Rs_69 d_Rs_addPlainPath_205 I_Rw hz.cell rfl rfl rfl ?_
                        refine aw_istore_3 S d_Rs_addPlainPath_208 ?_
                        refine aw_goto S 240 d_Rs_addPlainPath_209 (by decide) ?_
                        refine aw_iinc_5 (v := nI (stp + 1)) S d_Rs_addPlainPath_240 (inc_1 stp) ?_
                        refine aw_goto S 19 d_Rs_addPlainPath_243 (by decide) ?_
                        rw [if_neg (by rw [q47]; decide), if_neg (by rw [q66]; decide), if_neg (by rw [q79]; decide), if_neg q98, if_neg (by rw [q127]; decide), if_neg q151, if_pos q185, sp_pl_nil] at hv
                        refine ih zs.length (stp + 1) _ zs o 0 _ (by omega) (by omega) hT (by omega) (by omega) ?_ hc1 hz ho1 (by omega) hf2
                        exact hv
                      · have q185 : ¬ zs.drop left = [46] := of_decide_eq_false (aw_b_f c185)
                        refine aw_aload_0 S d_Rs_addPlainPath_188 ?_
                        refine aw_getf S I_Rs 0 hc1 n_fl_Rs_14 d_Rs_addPlainPath_189 rfl (by decide) ?_
                        refine aw_iload_3 S d_Rs_addPlainPath_192 ?_
                        refine aw_ldcS S 26 (by decide) rfl d_Rs_addPlainPath_193 ?_
                        refine aw_callViR S (ev_Rw_isRest left 26 hz (by decide) (by omega)) mb_Rw_isRest mi_Rw_isRest n_ml_Rs_85 d_Rs_addPlainPath_195 I_Rw hz.cell rfl rfl rfl ?_
                        refine aw_if_eq S 212 d_Rs_addPlainPath_198 (by decide) (fun c198 => ?_) (fun c198 => ?_)
                        · have q198 : ¬ zs.drop left = [46, 46] := of_decide_eq_false (aw_b_f c198)
                          have hs1 := sp_nx_le (L := [47]) (xs := zs.drop left) (p := 1) (by rw [List.length_drop]; omega)
                          rw [List.length_drop] at hs1
                          refine aw_aload_0 S d_Rs_addPlainPath_212 ?_
                          refine aw_getf S I_Rs 0 hc1 n_fl_Rs_14 d_Rs_addPlainPath_213 rfl (by decide) ?_
                          refine aw_iload_3 S d_Rs_addPlainPath_216 ?_
                          refine aw_iconst (v := 1) S d_Rs_addPlainPath_217 (by decide) ?_
                          refine aw_iadd S d_Rs_addPlainPath_218 ?_
                          refine aw_topi (nI_1 left) ?_
                          refine aw_ldcS S 27 (by decide) rfl d_Rs_addPlainPath_219 ?_
                          refine aw_callViR S (ev_Rw_nextOf (left + 1) 27 hz (by decide) (by omega)) mb_Rw_nextOf mi_Rw_nextOf n_ml_Rs_105 d_Rs_addPlainPath_221 I_Rw hz.cell rfl rfl rfl ?_
                          rw [show sp_nx (st_b 27) zs (left + 1) = left + sp_nx [47] (zs.drop left) 1 from sp_nx_shift [47] zs left 1]
                          refine aw_istore_6 S d_Rs_addPlainPath_224 ?_
                          refine aw_aload_1 S d_Rs_addPlainPath_226 ?_
                          refine aw_aload_0 S d_Rs_addPlainPath_227 ?_
                          refine aw_getf S I_Rs 0 hc1 n_fl_Rs_14 d_Rs_addPlainPath_228 rfl (by decide) ?_
                          refine aw_iload_3 S d_Rs_addPlainPath_231 ?_
                          refine aw_iload_6 S d_Rs_addPlainPath_232 ?_
                          refine aw_callVv0 S (ev_Rw_addRange left (left + sp_nx [47] (zs.drop left) 1) ho1 hz (by omega) (by omega) (by omega) (by rw [List.drop_take, Nat.add_sub_cancel_left, List.length_append, List.length_take]; omega)) mb_Rw_addRange mi_Rw_addRange n_ml_Rs_109 d_Rs_addPlainPath_234 I_Rw ho1.cell rfl rfl rfl (fun g2_ n2_ h_ => ?_)
                          obtain ⟨rfl, ho2, hFo⟩ := h_
                          rw [List.drop_take, Nat.add_sub_cancel_left, List.append_assoc] at ho2
                          refine aw_iload_6 S d_Rs_addPlainPath_237 ?_
                          refine aw_istore_3 S d_Rs_addPlainPath_239 ?_
                          refine aw_iinc_5 (v := nI (stp + 1)) S d_Rs_addPlainPath_240 (inc_1 stp) ?_
                          refine aw_goto S 19 d_Rs_addPlainPath_243 (by decide) ?_
                          rw [if_neg (by rw [q47]; decide), if_neg (by rw [q66]; decide), if_neg (by rw [q79]; decide), if_neg q98, if_neg (by rw [q127]; decide), if_neg q151, if_neg q185, if_neg q198, List.drop_drop] at hv
                          exact ih (left + sp_nx [47] (zs.drop left) 1) (stp + 1) _ zs (o ++ (zs.drop left).take (sp_nx [47] (zs.drop left) 1)) f2 _ (by omega) (by omega) hT (by omega) (by omega) hv ((hFo a (by omega)).trans hc1) (hz.fr hFo (by omega)) ho2 (by rw [List.length_append, List.length_take, List.length_drop]; omega) (hf2.r hFo)
                        · have q198 : zs.drop left = [46, 46] := of_decide_eq_true (aw_b_t c198)
                          refine aw_aload_0 S d_Rs_addPlainPath_201 ?_
                          refine aw_getf S I_Rs 0 hc1 n_fl_Rs_14 d_Rs_addPlainPath_202 rfl (by decide) ?_
                          refine aw_callViR S (ev_Rw_size hz) mb_Rw_size mi_Rw_size n_ml_Rs_69 d_Rs_addPlainPath_205 I_Rw hz.cell rfl rfl rfl ?_
                          refine aw_istore_3 S d_Rs_addPlainPath_208 ?_
                          refine aw_goto S 240 d_Rs_addPlainPath_209 (by decide) ?_
                          refine aw_iinc_5 (v := nI (stp + 1)) S d_Rs_addPlainPath_240 (inc_1 stp) ?_
                          refine aw_goto S 19 d_Rs_addPlainPath_243 (by decide) ?_
                          rw [if_neg (by rw [q47]; decide), if_neg (by rw [q66]; decide), if_neg (by rw [q79]; decide), if_neg q98, if_neg (by rw [q127]; decide), if_neg q151, if_neg q185, if_pos q198, sp_pl_nil] at hv
                          refine ih zs.length (stp + 1) _ zs o 0 _ (by omega) (by omega) hT (by omega) (by omega) ?_ hc1 hz ho1 (by omega) hf2
                          exact hv
                    · have q151 : zs.drop left = [47, 46, 46] := of_decide_eq_true (aw_b_t c151)
                      have h3 := congrArg List.length q151
                      rw [List.length_drop] at h3
                      have h3 : zs.length - left = 3 := h3
                      refine aw_iinc_3 (v := nI (left + 2)) S d_Rs_addPlainPath_154 (inc_2 left) ?_
                      refine aw_aload_0 S d_Rs_addPlainPath_157 ?_
                      refine aw_getf S I_Rs 0 hc1 n_fl_Rs_14 d_Rs_addPlainPath_158 rfl (by decide) ?_
                      refine aw_iload_3 S d_Rs_addPlainPath_161 ?_
                      refine aw_bipush (v := 47) S d_Rs_addPlainPath_162 (by decide) ?_
                      refine aw_callVv0 S (ev_Rw_set (left + 2) 47 hz (by unfold sp_bt; decide) (by omega)) mb_Rw_set mi_Rw_set n_ml_Rs_88 d_Rs_addPlainPath_164 I_Rw hz.cell rfl rfl rfl (fun g2_ n2_ h_ => ?_)
                      obtain ⟨rfl, hz2, hFz⟩ := h_
                      have ho1b := ho1.fr hFz (by omega)
                      refine aw_aload_1 S d_Rs_addPlainPath_167 ?_
                      refine aw_iload_2 S d_Rs_addPlainPath_168 ?_
                      refine aw_callSv0 S (ev_Rs_dropLast P.length ho1b (by rw [List.length_append]; omega)) mb_Rs_dropLast n_st_Rs_dropLast n_ml_Rs_94 d_Rs_addPlainPath_169 rfl rfl (fun g2_ n2_ h_ => ?_)
                      obtain ⟨rfl, ho2, hFo⟩ := h_
                      rw [sp_drop_app] at ho2
                      refine aw_goto S 240 d_Rs_addPlainPath_172 (by decide) ?_
                      refine aw_iinc_5 (v := nI (stp + 1)) S d_Rs_addPlainPath_240 (inc_1 stp) ?_
                      refine aw_goto S 19 d_Rs_addPlainPath_243 (by decide) ?_
                      rw [if_neg (by rw [q47]; decide), if_neg (by rw [q66]; decide), if_neg (by rw [q79]; decide), if_neg q98, if_neg (by rw [q127]; decide), if_pos q151] at hv
                      have hdl := sp_dl_len o
                      refine ih (left + 2) (stp + 1) _ (zs.set (left + 2) 47) (sp_dl o) f2 _ (by rw [List.length_set]; omega) (by rw [List.length_set]; omega) (by rw [List.length_set]; exact hT) (by omega) (by rw [List.length_set]; omega) ?_ ((hFo a (by omega)).trans ((hFz a (by omega)).trans hc1)) (hz2.fr hFo (by omega)) ho2 (by rw [List.length_set]; omega) ((hf2.l hFz).r hFo)
                      rw [drop_set_at (by omega), List.drop_eq_nil_iff.mpr (by omega)]
                      exact hv
                  · have q127 : sp_pre [47, 46, 46, 47] (zs.drop left) = true := aw_b_t c127
                    refine aw_iinc_3 (v := nI (left + 3)) S d_Rs_addPlainPath_130 (inc_3 left) ?_
                    refine aw_aload_1 S d_Rs_addPlainPath_133 ?_
                    refine aw_iload_2 S d_Rs_addPlainPath_134 ?_
                    refine aw_callSv0 S (ev_Rs_dropLast P.length ho1 (by rw [List.length_append]; omega)) mb_Rs_dropLast n_st_Rs_dropLast n_ml_Rs_94 d_Rs_addPlainPath_135 rfl rfl (fun g2_ n2_ h_ => ?_)
                    obtain ⟨rfl, ho2, hFo⟩ := h_
                    rw [sp_drop_app] at ho2
                    refine aw_goto S 240 d_Rs_addPlainPath_138 (by decide) ?_
                    refine aw_iinc_5 (v := nI (stp + 1)) S d_Rs_addPlainPath_240 (inc_1 stp) ?_
                    refine aw_goto S 19 d_Rs_addPlainPath_243 (by decide) ?_
                    rw [if_neg (by rw [q47]; decide), if_neg (by rw [q66]; decide), if_neg (by rw [q79]; decide), if_neg q98, if_pos q127] at hv
                    have h3 := sp_pre_le q127
                    rw [List.length_drop] at h3
                    have h3 : 4 ≤ zs.length - left := h3
                    rw [List.drop_drop] at hv
                    have hdl := sp_dl_len o
                    exact ih (left + 3) (stp + 1) _ zs (sp_dl o) f2 _ (by omega) (by omega) hT (by omega) (by omega) hv ((hFo a (by omega)).trans hc1) (hz.fr hFo (by omega)) ho2 (by omega) (hf2.r hFo)
                · have q98 : zs.drop left = [47, 46] := of_decide_eq_true (aw_b_t c98)
                  have h3 := congrArg List.length q98
                  rw [List.length_drop] at h3
                  have h3 : zs.length - left = 2 := h3
                  refine aw_iinc_3 (v := nI (left + 1)) S d_Rs_addPlainPath_101 (inc_1 left) ?_
                  refine aw_aload_0 S d_Rs_addPlainPath_104 ?_
                  refine aw_getf S I_Rs 0 hc1 n_fl_Rs_14 d_Rs_addPlainPath_105 rfl (by decide) ?_
                  refine aw_iload_3 S d_Rs_addPlainPath_108 ?_
                  refine aw_bipush (v := 47) S d_Rs_addPlainPath_109 (by decide) ?_
                  refine aw_callVv0 S (ev_Rw_set (left + 1) 47 hz (by unfold sp_bt; decide) (by omega)) mb_Rw_set mi_Rw_set n_ml_Rs_88 d_Rs_addPlainPath_111 I_Rw hz.cell rfl rfl rfl (fun g2_ n2_ h_ => ?_)
                  obtain ⟨rfl, hz2, hFz⟩ := h_
                  refine aw_goto S 240 d_Rs_addPlainPath_114 (by decide) ?_
                  refine aw_iinc_5 (v := nI (stp + 1)) S d_Rs_addPlainPath_240 (inc_1 stp) ?_
                  refine aw_goto S 19 d_Rs_addPlainPath_243 (by decide) ?_
                  rw [if_neg (by rw [q47]; decide), if_neg (by rw [q66]; decide), if_neg (by rw [q79]; decide), if_pos q98] at hv
                  refine ih (left + 1) (stp + 1) _ (zs.set (left + 1) 47) o f2 _ (by rw [List.length_set]; omega) (by rw [List.length_set]; omega) (by rw [List.length_set]; exact hT) (by omega) (by rw [List.length_set]; omega) ?_ ((hFz a (by omega)).trans hc1) hz2 (ho1.fr hFz (by omega)) (by rw [List.length_set]; omega) (hf2.l hFz)
                  rw [drop_set_at (by omega), List.drop_eq_nil_iff.mpr (by omega)]
                  exact hv
              · have q79 : sp_pre [47, 46, 47] (zs.drop left) = true := aw_b_t c79
                refine aw_iinc_3 (v := nI (left + 2)) S d_Rs_addPlainPath_82 (inc_2 left) ?_
                refine aw_goto S 240 d_Rs_addPlainPath_85 (by decide) ?_
                refine aw_iinc_5 (v := nI (stp + 1)) S d_Rs_addPlainPath_240 (inc_1 stp) ?_
                refine aw_goto S 19 d_Rs_addPlainPath_243 (by decide) ?_
                rw [if_neg (by rw [q47]; decide), if_neg (by rw [q66]; decide), if_pos q79] at hv
                have h3 := sp_pre_le q79
                rw [List.length_drop] at h3
                have h3 : 3 ≤ zs.length - left := h3
                rw [List.drop_drop] at hv
                exact ih (left + 2) (stp + 1) _ zs o f2 _ (by omega) (by omega) hT (by omega) (by omega) hv hc1 hz ho1 (by omega) hf2
          · have q47 : sp_pre [46, 46, 47] (zs.drop left) = true := aw_b_t c47
            refine aw_iinc_3 (v := nI (left + 3)) S d_Rs_addPlainPath_50 (inc_3 left) ?_
            refine aw_goto S 240 d_Rs_addPlainPath_53 (by decide) ?_
            refine aw_iinc_5 (v := nI (stp + 1)) S d_Rs_addPlainPath_240 (inc_1 stp) ?_
            refine aw_goto S 19 d_Rs_addPlainPath_243 (by decide) ?_
            rw [if_pos q47] at hv
            have h3 := sp_pre_le q47
            rw [List.length_drop] at h3
            have h3 : 3 ≤ zs.length - left := h3
            rw [List.drop_drop] at hv
            exact ih (left + 3) (stp + 1) _ zs o f2 _ (by omega) (by omega) hT (by omega) (by omega) hv hc1 hz ho1 (by omega) hf2
  refine aw_aload_1 S d_Rs_addPlainPath_0 ?_
  refine aw_callViR S (ev_Rw_size hO) mb_Rw_size mi_Rw_size n_ml_Rs_69 d_Rs_addPlainPath_1 I_Rw hO.cell rfl rfl rfl ?_
  refine aw_istore_2 S d_Rs_addPlainPath_4 ?_
  refine aw_iconst (v := 0) S d_Rs_addPlainPath_5 (by decide) ?_
  refine aw_topi nI_0.symm ?_
  refine aw_istore_3 S d_Rs_addPlainPath_6 ?_
  refine aw_aload_0 S d_Rs_addPlainPath_7 ?_
  refine aw_getf S I_Rs 0 hc n_fl_Rs_14 d_Rs_addPlainPath_8 rfl (by decide) ?_
  refine aw_callViR S (ev_Rw_size hZ) mb_Rw_size mi_Rw_size n_ml_Rs_69 d_Rs_addPlainPath_11 I_Rw hZ.cell rfl rfl rfl ?_
  refine aw_istore_4 S d_Rs_addPlainPath_14 ?_
  refine aw_iconst (v := 0) S d_Rs_addPlainPath_16 (by decide) ?_
  refine aw_topi nI_0.symm ?_
  refine aw_istore_5 S d_Rs_addPlainPath_17 ?_
  exact loop zs0.length 0 0 g zs0 [] zs0.length none (by omega) (by omega) rfl (by omega) (by omega) rfl hc hZ (by rw [List.append_nil]; exact hO) (by rw [List.length_nil]; omega) aw_fr2.rf
