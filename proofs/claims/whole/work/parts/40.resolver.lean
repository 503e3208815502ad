/-! the resolver: a reference against a base -/
def sp_sc (os : List Int32) : Bool := (sp_pt os 0).isSome
def sp_oa (os : List Int32) : Bool := sp_sc os || (sp_pt os 1).isSome
def sp_op (os : List Int32) : Bool := sp_oa os || decide (¬ sp_plen os 2 ≤ 0)
def sp_oq (os : List Int32) : Bool := sp_op os || (sp_pt os 3).isSome
def sp_r5 (os : List Int32) : List Int32 := sp_beh [35] os 4
def sp_r4 (os bs : List Int32) : List Int32 := sp_beh [63] (if sp_oq os then os else bs) 3 ++ sp_r5 os
def sp_r3 (os bs : List Int32) : List Int32 := (if sp_op os then sp_plain (sp_gath (sp_oa os) os bs) else sp_part bs 2) ++ sp_r4 os bs
def sp_r2 (os bs : List Int32) : List Int32 := sp_beh [47, 47] (if sp_oa os then os else bs) 1 ++ sp_r3 os bs
def sp_res (os bs : List Int32) : List Int32 := sp_part (if sp_sc os then os else bs) 0 ++ ([58] ++ sp_r2 os bs)
def RsA (a o1 o2 r1 r2 ob : Nat) : Prop := (ob + 2 ≤ a ∨ a + 3 ≤ ob) ∧ (ob + 2 ≤ o1 ∨ o1 + 3 ≤ ob) ∧ (ob + 2 ≤ o2 ∨ o2 + 3 ≤ ob) ∧ (ob + 2 ≤ r1 ∨ r1 + 2 ≤ ob) ∧ (ob + 2 ≤ r2 ∨ r2 + 2 ≤ ob) ∧ (a + 3 ≤ o1 ∨ o1 + 3 ≤ a) ∧ (a + 3 ≤ o2 ∨ o2 + 3 ≤ a) ∧ (a + 3 ≤ r1 ∨ r1 + 2 ≤ a) ∧ (a + 3 ≤ r2 ∨ r2 + 2 ≤ a)
def RsB (E : aw_E) (g0 g : AH) (a o1 o2 r1 r2 N1 N2 : Nat) (os bs : List Int32) (ob : Nat) : Prop := g a = some (.inr (2, [.ref (a + 1)])) ∧ (∃ zs, IsRow E g (a + 1) 197 zs) ∧ Rfst E g o1 r1 os 5 ∧ Rfst E g o2 r2 bs 5 ∧ IsRow E g r1 N1 os ∧ IsRow E g r2 N2 bs ∧ aw_fr2 g0 g (a + 1) ob
theorem RsB.two {E : aw_E} {g0 g g2 : AH} {a o1 o2 r1 r2 N1 N2 ob : Nat} {os bs : List Int32} (hA : RsA a o1 o2 r1 r2 ob) (h : RsB E g0 g a o1 o2 r1 r2 N1 N2 os bs ob) (hf : aw_fr2 g g2 (a + 1) ob) (hz : ∃ zs, IsRow E g2 (a + 1) 197 zs) : RsB E g0 g2 a o1 o2 r1 r2 N1 N2 os bs ob := by
  obtain ⟨x1, x2, x3, x4, x5, x6, x7, x8, x9⟩ := hA
  obtain ⟨y1, y2, y3, y4, y5, y6, y7⟩ := h
  exact ⟨(hf a (by omega) (by omega)).trans y1, hz, y3.fr2 hf (by omega) (by omega), y4.fr2 hf (by omega) (by omega), y5.fr2 hf (by omega) (by omega), y6.fr2 hf (by omega) (by omega), y7.tr hf⟩
theorem RsB.out {E : aw_E} {g0 g g2 : AH} {a o1 o2 r1 r2 N1 N2 ob : Nat} {os bs : List Int32} (hA : RsA a o1 o2 r1 r2 ob) (h : RsB E g0 g a o1 o2 r1 r2 N1 N2 os bs ob) (hf : aw_fr g g2 ob 2) : RsB E g0 g2 a o1 o2 r1 r2 N1 N2 os bs ob := by
  obtain ⟨zs, hz⟩ := h.2.1
  exact h.two hA (aw_fr2.rf.r hf) ⟨zs, hz.fr hf (by have := hA.1; omega)⟩
theorem RsB.path {E : aw_E} {g0 g g2 : AH} {a o1 o2 r1 r2 N1 N2 ob : Nat} {os bs zs : List Int32} (hA : RsA a o1 o2 r1 r2 ob) (h : RsB E g0 g a o1 o2 r1 r2 N1 N2 os bs ob) (hf : aw_fr g g2 (a + 1) 2) (hz : IsRow E g2 (a + 1) 197 zs) : RsB E g0 g2 a o1 o2 r1 r2 N1 N2 os bs ob := h.two hA (aw_fr2.rf.l hf) ⟨zs, hz⟩
theorem Rfst.cell {E : aw_E} {g : AH} {a r k : Nat} {xs : List Int32} (h : Rfst E g a r xs k) : g a = some (.inr (1, [.ref (a + 1), .ref (a + 2), .ref r])) := by
  obtain ⟨fb, fe, h1, -⟩ := h
  exact h1.2.1
set_option maxRecDepth 100000 in
set_option maxHeartbeats 4000000 in
theorem ev_Rs_gatherPath {l : Launch} {E : aw_E} {g : AH} {n : Nat} {a o1 o2 r1 r2 N1 N2 : Nat} {zs os bs : List Int32} (fl : Bool) (hc : g a = some (.inr (2, [.ref (a + 1)]))) (hZ : IsRow E g (a + 1) 197 zs) (hD1 : Rfst E g o1 r1 os 5) (hD2 : Rfst E g o2 r2 bs 5) (hR1 : IsRow E g r1 N1 os) (hR2 : IsRow E g r2 N2 bs) (p1 : a + 3 ≤ o1 ∨ o1 + 3 ≤ a) (p2 : a + 3 ≤ o2 ∨ o2 + 3 ≤ a) (p3 : a + 3 ≤ r1 ∨ r1 + 2 ≤ a) (p4 : a + 3 ≤ r2 ∨ r2 + 2 ≤ a) (hl : (sp_gath fl os bs).length ≤ 197) : EV l E 4 0 0 y_Rs_gatherPath c_Rs_gatherPath 4 none g n [.ref a, .ref o1, .ref o2, .int (aw_b fl)] (aw_Pv (fun g2 n2 => n2 = n ∧ IsRow E g2 (a + 1) 197 (sp_gath fl os bs) ∧ aw_fr g g2 (a + 1) 2)) := by
  have hN1 := hR1.room
  have hN2 := hR2.room
  refine aw_enter "AddressTerms$Resolver" [some (.ref a), some (.ref o1), some (.ref o2), some (.int (aw_b fl))] (by decide) rfl rfl (Nat.le_of_ble_eq_true rfl) ?_
  intro p e s m args below meth c S hnm
  have s55 : ∀ (g1 : AH) (ys : List Int32), IsRow E g1 (a + 1) 197 ys → aw_fr g g1 (a + 1) 2 → ys ++ sp_part os 2 = sp_gath fl os bs → AW p l e { frames := 4, cells := 0, slots := 0, locals := 40 * 4 } s m args below meth c E 4 (aw_Z E (aw_Pv (fun g2 n2 => n2 = n ∧ IsRow E g2 (a + 1) 197 (sp_gath fl os bs) ∧ aw_fr g g2 (a + 1) 2)) below args s 0 0) 0 0 g1 n 55 [some (.ref a), some (.ref o1), some (.ref o2), some (.int (aw_b fl))] [] := by
    intro g1 ys hy hf he
    have hD1 := hD1.fr hf (by omega)
    have hR1 := hR1.fr hf (by omega)
    have hc := (hf a (by omega)).trans hc
    have hlen := congrArg List.length he
    rw [List.length_append] at hlen
    refine aw_aload_1 S d_Rs_gatherPath_55 ?_
    refine aw_aload_0 S d_Rs_gatherPath_56 ?_
    refine aw_getf S I_Rs 0 hc n_fl_Rs_14 d_Rs_gatherPath_57 rfl (by decide) ?_
    refine aw_iconst (v := 2) S d_Rs_gatherPath_60 (by decide) ?_
    refine aw_topi (show (2 : Int32) = nI 2 from rfl) ?_
    refine aw_callVv0 S (ev_Rf_copyTo 2 hD1 hR1 hy (by omega) (by decide) (by omega)) mb_Rf_copyTo mi_Rf_copyTo n_ml_Rs_30 d_Rs_gatherPath_61 I_Rf hD1.cell rfl rfl rfl (fun g2_ n2_ h_ => ?_)
    obtain ⟨rfl, h1, hF1⟩ := h_
    refine aw_vret S rfl d_Rs_gatherPath_64 ?_ (by decide) (by decide)
    rw [he] at h1
    exact ⟨rfl, h1, hf.tr hF1⟩
  refine aw_aload_0 S d_Rs_gatherPath_0 ?_
  refine aw_getf S I_Rs 0 hc n_fl_Rs_14 d_Rs_gatherPath_1 rfl (by decide) ?_
  refine aw_iconst (v := 0) S d_Rs_gatherPath_4 (by decide) ?_
  refine aw_topi nI_0.symm ?_
  refine aw_callVv0 S (ev_Rw_cutTo 0 hZ (by decide)) mb_Rw_cutTo mi_Rw_cutTo n_ml_Rs_59 d_Rs_gatherPath_5 I_Rw hZ.cell rfl rfl rfl (fun g2_ n2_ h_ => ?_)
  obtain ⟨rfl, h0, hF0⟩ := h_
  rw [List.take_zero] at h0
  have hD1k := hD1.fr hF0 (by omega)
  have hD2k := hD2.fr hF0 (by omega)
  have hR1k := hR1.fr hF0 (by omega)
  have hR2k := hR2.fr hF0 (by omega)
  have hck := (hF0 a (by omega)).trans hc
  refine aw_iload_3 S d_Rs_gatherPath_8 ?_
  refine aw_if_ne S 55 d_Rs_gatherPath_9 (by decide) (fun c9 => ?_) (fun c9 => ?_)
  · exact s55 _ [] h0 hF0 (by rw [sp_gath, aw_b_t c9]; rfl)
  · refine aw_aload_1 S d_Rs_gatherPath_12 ?_
    refine aw_callViR S (ev_Rf_hasPathFromTop hD1k hR1k) mb_Rf_hasPathFromTop mi_Rf_hasPathFromTop n_ml_Rs_62 d_Rs_gatherPath_13 I_Rf hD1k.cell rfl rfl rfl ?_
    refine aw_if_ne S 55 d_Rs_gatherPath_16 (by decide) (fun c16 => ?_) (fun c16 => ?_)
    · exact s55 _ [] h0 hF0 (by rw [sp_gath, aw_b_t c16, Bool.not_true, Bool.and_false]; rfl)
    · refine aw_aload_2 S d_Rs_gatherPath_19 ?_
      refine aw_iconst (v := 1) S d_Rs_gatherPath_20 (by decide) ?_
      refine aw_topi (show (1 : Int32) = nI 1 from rfl) ?_
      refine aw_callViR S (ev_Rf_has 1 hD2k (by decide) (by omega)) mb_Rf_has mi_Rf_has n_ml_Rs_20 d_Rs_gatherPath_21 I_Rf hD2k.cell rfl rfl rfl ?_
      refine aw_if_eq S 47 d_Rs_gatherPath_24 (by decide) (fun c24 => ?_) (fun c24 => ?_)
      · have h3 : (if !fl && !sp_top os then (if (sp_pt bs 1).isSome && decide (sp_plen bs 2 = 0) then [47] else sp_fold bs) else []) = sp_fold bs := by rw [aw_b_f c9, aw_b_f c16, aw_b_f c24]; rfl
        refine aw_aload_2 S d_Rs_gatherPath_47 ?_
        refine aw_aload_0 S d_Rs_gatherPath_48 ?_
        refine aw_getf S I_Rs 0 hck n_fl_Rs_14 d_Rs_gatherPath_49 rfl (by decide) ?_
        refine aw_callVv0 S (ev_Rf_copyFolderTo hD2k hR2k h0 (by omega) (by rw [sp_gath, h3, List.length_append] at hl; simpa using Nat.le_trans (Nat.le_add_right _ _) hl)) mb_Rf_copyFolderTo mi_Rf_copyFolderTo n_ml_Rs_66 d_Rs_gatherPath_52 I_Rf hD2k.cell rfl rfl rfl (fun g2_ n2_ h_ => ?_)
        obtain ⟨rfl, h1, hF1⟩ := h_
        exact s55 _ _ h1 (hF0.tr hF1) (by rw [sp_gath, h3]; rfl)
      · refine aw_aload_2 S d_Rs_gatherPath_27 ?_
        refine aw_iconst (v := 2) S d_Rs_gatherPath_28 (by decide) ?_
        refine aw_topi (show (2 : Int32) = nI 2 from rfl) ?_
        refine aw_callViR S (ev_Rf_lengthOf 2 hD2k (by decide) (by omega)) mb_Rf_lengthOf mi_Rf_lengthOf n_ml_Rs_26 d_Rs_gatherPath_29 I_Rf hD2k.cell rfl rfl rfl ?_
        refine aw_if_ne S 47 d_Rs_gatherPath_32 (by decide) (fun c32 => ?_) (fun c32 => ?_)
        · have h3 : (if !fl && !sp_top os then (if (sp_pt bs 1).isSome && decide (sp_plen bs 2 = 0) then [47] else sp_fold bs) else []) = sp_fold bs := by rw [aw_b_f c9, aw_b_f c16, decide_eq_false c32, Bool.and_false]; rfl
          refine aw_aload_2 S d_Rs_gatherPath_47 ?_
          refine aw_aload_0 S d_Rs_gatherPath_48 ?_
          refine aw_getf S I_Rs 0 hck n_fl_Rs_14 d_Rs_gatherPath_49 rfl (by decide) ?_
          refine aw_callVv0 S (ev_Rf_copyFolderTo hD2k hR2k h0 (by omega) (by rw [sp_gath, h3, List.length_append] at hl; simpa using Nat.le_trans (Nat.le_add_right _ _) hl)) mb_Rf_copyFolderTo mi_Rf_copyFolderTo n_ml_Rs_66 d_Rs_gatherPath_52 I_Rf hD2k.cell rfl rfl rfl (fun g2_ n2_ h_ => ?_)
          obtain ⟨rfl, h1, hF1⟩ := h_
          exact s55 _ _ h1 (hF0.tr hF1) (by rw [sp_gath, h3]; rfl)
        · refine aw_aload_0 S d_Rs_gatherPath_35 ?_
          refine aw_getf S I_Rs 0 hck n_fl_Rs_14 d_Rs_gatherPath_36 rfl (by decide) ?_
          refine aw_bipush (v := 47) S d_Rs_gatherPath_39 (by decide) ?_
          refine aw_callVv0 S (ev_Rw_add 47 h0 (by unfold sp_bt; decide) (by decide)) mb_Rw_add mi_Rw_add n_ml_Rs_34 d_Rs_gatherPath_41 I_Rw h0.cell rfl rfl rfl (fun g2_ n2_ h_ => ?_)
          obtain ⟨rfl, h1, hF1⟩ := h_
          refine aw_goto S 55 d_Rs_gatherPath_44 (by decide) ?_
          exact s55 _ _ h1 (hF0.tr hF1) (by rw [sp_gath, aw_b_f c9, aw_b_f c16, aw_b_t c24, decide_eq_true c32]; rfl)
set_option maxRecDepth 100000 in
set_option maxHeartbeats 4000000 in
theorem ev_Rs_resolveTo {l : Launch} {E : aw_E} {g : AH} {n : Nat} {a o1 o2 r1 r2 N1 N2 ob M : Nat} {os bs : List Int32} (hA : RsA a o1 o2 r1 r2 ob) (hB : RsB E g g a o1 o2 r1 r2 N1 N2 os bs ob) (hO : IsRow E g ob M []) (hM : (sp_res os bs).length ≤ M) (hG : (sp_gath (sp_oa os) os bs).length ≤ 197) (hG2 : ∀ ys : List Int32, ys ++ sp_r3 os bs = sp_res os bs → ys.length + (sp_gath (sp_oa os) os bs).length ≤ M) : EV l E 7 0 0 y_Rs_resolveTo c_Rs_resolveTo 8 none g n [.ref a, .ref ob, .ref o1, .ref o2] (aw_Pv (fun g2 n2 => n2 = n ∧ IsRow E g2 ob M (sp_res os bs) ∧ (∃ zs, IsRow E g2 (a + 1) 197 zs) ∧ aw_fr2 g g2 (a + 1) ob)) := by
  have hN1 := hB.2.2.2.2.1.room
  have hN2 := hB.2.2.2.2.2.1.room
  refine aw_enter "AddressTerms$Resolver" [some (.ref a), some (.ref ob), some (.ref o1), some (.ref o2), none, none, none, none] (by decide) rfl rfl (Nat.le_of_ble_eq_true rfl) ?_
  intro p e s m args below meth c S hnm
  obtain ⟨x1, x2, x3, x4, x5, x6, x7, x8, x9⟩ := id hA
  have s149 : ∀ (g1 : AH) (ys : List Int32), RsB E g g1 a o1 o2 r1 r2 N1 N2 os bs ob → IsRow E g1 ob M ys → ys ++ sp_r5 os = sp_res os bs → AW p l e { frames := 7, cells := 0, slots := 0, locals := 40 * 7 } s m args below meth c E 8 (aw_Z E (aw_Pv (fun g2 n2 => n2 = n ∧ IsRow E g2 ob M (sp_res os bs) ∧ (∃ zs, IsRow E g2 (a + 1) 197 zs) ∧ aw_fr2 g g2 (a + 1) ob)) below args s 0 0) 0 0 g1 n 149 [some (.ref a), some (.ref ob), some (.ref o1), some (.ref o2), some (.int (aw_b (sp_sc os))), some (.int (aw_b (sp_oa os))), some (.int (aw_b (sp_op os))), some (.int (aw_b (sp_oq os)))] [] := by
    intro g1 ys hB hy he
    obtain ⟨y1, y2, y3, y4, y5, y6, y7⟩ := id hB
    have hlen := congrArg List.length he
    rw [sp_r5, List.length_append] at hlen
    have hbe : sp_beh (st_b 29) os 4 = sp_beh [35] os 4 := rfl
    refine aw_aload_1 S d_Rs_resolveTo_149 ?_
    refine aw_ldcS S 29 (by decide) rfl d_Rs_resolveTo_150 ?_
    refine aw_aload_2 S d_Rs_resolveTo_152 ?_
    refine aw_iconst (v := 4) S d_Rs_resolveTo_153 (by decide) ?_
    refine aw_topi (show (4 : Int32) = nI 4 from rfl) ?_
    refine aw_callSv0 S (ev_Rs_addBehind 29 4 y3 y5 hy (by omega) (by decide) (by decide) (by omega) (by rw [hbe]; (try simp only [List.length_append] at hlen); omega)) mb_Rs_addBehind n_st_Rs_addBehind n_ml_Rs_39 d_Rs_resolveTo_154 rfl rfl (fun g2_ n2_ h_ => ?_)
    obtain ⟨rfl, h1, hF1⟩ := h_
    rw [hbe] at h1
    refine aw_vret S rfl d_Rs_resolveTo_157 ?_ (by decide) (by decide)
    rw [← he]
    have hB2 := hB.out hA hF1
    exact ⟨rfl, h1, hB2.2.1, hB2.2.2.2.2.2.2⟩
  have s132 : ∀ (g1 : AH) (ys : List Int32), RsB E g g1 a o1 o2 r1 r2 N1 N2 os bs ob → IsRow E g1 ob M ys → ys ++ sp_r4 os bs = sp_res os bs → AW p l e { frames := 7, cells := 0, slots := 0, locals := 40 * 7 } s m args below meth c E 8 (aw_Z E (aw_Pv (fun g2 n2 => n2 = n ∧ IsRow E g2 ob M (sp_res os bs) ∧ (∃ zs, IsRow E g2 (a + 1) 197 zs) ∧ aw_fr2 g g2 (a + 1) ob)) below args s 0 0) 0 0 g1 n 132 [some (.ref a), some (.ref ob), some (.ref o1), some (.ref o2), some (.int (aw_b (sp_sc os))), some (.int (aw_b (sp_oa os))), some (.int (aw_b (sp_op os))), some (.int (aw_b (sp_oq os)))] [] := by
    intro g1 ys hB hy he
    obtain ⟨y1, y2, y3, y4, y5, y6, y7⟩ := id hB
    have hlen := congrArg List.length he
    rw [sp_r4, List.length_append] at hlen
    refine aw_aload_1 S d_Rs_resolveTo_132 ?_
    refine aw_ldcS S 28 (by decide) rfl d_Rs_resolveTo_133 ?_
    refine aw_iload_7 S d_Rs_resolveTo_135 ?_
    refine aw_if_eq S 144 d_Rs_resolveTo_137 (by decide) (fun c137 => ?_) (fun c137 => ?_)
    · have hq := aw_b_f c137
      have hbe : sp_beh (st_b 28) bs 3 = sp_beh [63] (if sp_oq os then os else bs) 3 := by rw [hq]; rfl
      refine aw_aload_3 S d_Rs_resolveTo_144 ?_
      refine aw_iconst (v := 3) S d_Rs_resolveTo_145 (by decide) ?_
      refine aw_topi (show (3 : Int32) = nI 3 from rfl) ?_
      refine aw_callSv0 S (ev_Rs_addBehind 28 3 y4 y6 hy (by omega) (by decide) (by decide) (by omega) (by rw [hbe]; (try simp only [List.length_append] at hlen); omega)) mb_Rs_addBehind n_st_Rs_addBehind n_ml_Rs_39 d_Rs_resolveTo_146 rfl rfl (fun g2_ n2_ h_ => ?_)
      obtain ⟨rfl, h1, hF1⟩ := h_
      rw [hbe] at h1
      exact s149 _ _ (hB.out hA hF1) h1 (by rw [← he, sp_r4, List.append_assoc])
    · have hq := aw_b_t c137
      have hbe : sp_beh (st_b 28) os 3 = sp_beh [63] (if sp_oq os then os else bs) 3 := by rw [hq]; rfl
      refine aw_aload_2 S d_Rs_resolveTo_140 ?_
      refine aw_goto S 145 d_Rs_resolveTo_141 (by decide) ?_
      refine aw_iconst (v := 3) S d_Rs_resolveTo_145 (by decide) ?_
      refine aw_topi (show (3 : Int32) = nI 3 from rfl) ?_
      refine aw_callSv0 S (ev_Rs_addBehind 28 3 y3 y5 hy (by omega) (by decide) (by decide) (by omega) (by rw [hbe]; (try simp only [List.length_append] at hlen); omega)) mb_Rs_addBehind n_st_Rs_addBehind n_ml_Rs_39 d_Rs_resolveTo_146 rfl rfl (fun g2_ n2_ h_ => ?_)
      obtain ⟨rfl, h1, hF1⟩ := h_
      rw [hbe] at h1
      exact s149 _ _ (hB.out hA hF1) h1 (by rw [← he, sp_r4, List.append_assoc])
  have s105 : ∀ (g1 : AH) (ys : List Int32), RsB E g g1 a o1 o2 r1 r2 N1 N2 os bs ob → IsRow E g1 ob M ys → ys ++ sp_r3 os bs = sp_res os bs → AW p l e { frames := 7, cells := 0, slots := 0, locals := 40 * 7 } s m args below meth c E 8 (aw_Z E (aw_Pv (fun g2 n2 => n2 = n ∧ IsRow E g2 ob M (sp_res os bs) ∧ (∃ zs, IsRow E g2 (a + 1) 197 zs) ∧ aw_fr2 g g2 (a + 1) ob)) below args s 0 0) 0 0 g1 n 105 [some (.ref a), some (.ref ob), some (.ref o1), some (.ref o2), some (.int (aw_b (sp_sc os))), some (.int (aw_b (sp_oa os))), some (.int (aw_b (sp_op os))), some (.int (aw_b (sp_oq os)))] [] := by
    intro g1 ys hB hy he
    obtain ⟨y1, y2, y3, y4, y5, y6, y7⟩ := id hB
    have hlen := congrArg List.length he
    rw [sp_r3, List.length_append] at hlen
    refine aw_iload_6 S d_Rs_resolveTo_105 ?_
    refine aw_if_eq S 126 d_Rs_resolveTo_107 (by decide) (fun c107 => ?_) (fun c107 => ?_)
    · have hop := aw_b_f c107
      refine aw_aload_3 S d_Rs_resolveTo_126 ?_
      refine aw_aload_1 S d_Rs_resolveTo_127 ?_
      refine aw_iconst (v := 2) S d_Rs_resolveTo_128 (by decide) ?_
      refine aw_topi (show (2 : Int32) = nI 2 from rfl) ?_
      refine aw_callVv0 S (ev_Rf_copyTo 2 y4 y6 hy (by omega) (by decide) (by rw [hop] at hlen; simp only [List.length_append] at hlen; simp at hlen; omega)) mb_Rf_copyTo mi_Rf_copyTo n_ml_Rs_30 d_Rs_resolveTo_129 I_Rf y4.cell rfl rfl rfl (fun g2_ n2_ h_ => ?_)
      obtain ⟨rfl, h1, hF1⟩ := h_
      exact s132 _ _ (hB.out hA hF1) h1 (by rw [← he, sp_r3, hop, List.append_assoc]; rfl)
    · have hop := aw_b_t c107
      obtain ⟨zs, hz⟩ := y2
      refine aw_aload_0 S d_Rs_resolveTo_110 ?_
      refine aw_aload_2 S d_Rs_resolveTo_111 ?_
      refine aw_aload_3 S d_Rs_resolveTo_112 ?_
      refine aw_iload_5 S d_Rs_resolveTo_113 ?_
      refine aw_callVv0 S (ev_Rs_gatherPath (sp_oa os) y1 hz y3 y4 y5 y6 x6 x7 x8 x9 hG) mb_Rs_gatherPath mi_Rs_gatherPath n_ml_Rs_43 d_Rs_resolveTo_115 I_Rs y1 rfl rfl rfl (fun g2_ n2_ h_ => ?_)
      obtain ⟨rfl, h1, hF1⟩ := h_
      have hB2 := hB.path hA hF1 h1
      have hy2 := hy.fr hF1 (by omega)
      refine aw_aload_0 S d_Rs_resolveTo_118 ?_
      refine aw_aload_1 S d_Rs_resolveTo_119 ?_
      refine aw_callVv0 S (ev_Rs_addPlainPath hB2.1 h1 hy2 x1 (by have := hG2 ys (by rw [← he]); omega)) mb_Rs_addPlainPath mi_Rs_addPlainPath n_ml_Rs_47 d_Rs_resolveTo_120 I_Rs hB2.1 rfl rfl rfl (fun g2_ n2_ h_ => ?_)
      obtain ⟨rfl, h2, hz2, hF2⟩ := h_
      refine aw_goto S 132 d_Rs_resolveTo_123 (by decide) ?_
      exact s132 _ _ (hB2.two hA hF2 hz2) h2 (by rw [← he, sp_r3, hop, List.append_assoc]; rfl)
  have s82 : ∀ (g1 : AH) (ys : List Int32), RsB E g g1 a o1 o2 r1 r2 N1 N2 os bs ob → IsRow E g1 ob M ys → ys ++ ([58] ++ sp_r2 os bs) = sp_res os bs → AW p l e { frames := 7, cells := 0, slots := 0, locals := 40 * 7 } s m args below meth c E 8 (aw_Z E (aw_Pv (fun g2 n2 => n2 = n ∧ IsRow E g2 ob M (sp_res os bs) ∧ (∃ zs, IsRow E g2 (a + 1) 197 zs) ∧ aw_fr2 g g2 (a + 1) ob)) below args s 0 0) 0 0 g1 n 82 [some (.ref a), some (.ref ob), some (.ref o1), some (.ref o2), some (.int (aw_b (sp_sc os))), some (.int (aw_b (sp_oa os))), some (.int (aw_b (sp_op os))), some (.int (aw_b (sp_oq os)))] [] := by
    intro g1 ys hB hy he
    obtain ⟨y1, y2, y3, y4, y5, y6, y7⟩ := id hB
    have hlen := congrArg List.length he
    rw [List.length_append, List.length_append, sp_r2, List.length_append] at hlen
    have h58 : ([58] : List Int32).length = 1 := rfl
    refine aw_aload_1 S d_Rs_resolveTo_82 ?_
    refine aw_bipush (v := 58) S d_Rs_resolveTo_83 (by decide) ?_
    refine aw_callVv0 S (ev_Rw_add 58 hy (by unfold sp_bt; decide) (by omega)) mb_Rw_add mi_Rw_add n_ml_Rs_34 d_Rs_resolveTo_85 I_Rw hy.cell rfl rfl rfl (fun g2_ n2_ h_ => ?_)
    obtain ⟨rfl, h0, hF0⟩ := h_
    have hB0 := hB.out hA hF0
    obtain ⟨z1, z2, z3, z4, z5, z6, z7⟩ := id hB0
    refine aw_aload_1 S d_Rs_resolveTo_88 ?_
    refine aw_ldcS S 18 (by decide) rfl d_Rs_resolveTo_89 ?_
    refine aw_iload_5 S d_Rs_resolveTo_91 ?_
    refine aw_if_eq S 100 d_Rs_resolveTo_93 (by decide) (fun c93 => ?_) (fun c93 => ?_)
    · have hq := aw_b_f c93
      have hbe : sp_beh (st_b 18) bs 1 = sp_beh [47, 47] (if sp_oa os then os else bs) 1 := by rw [hq]; rfl
      refine aw_aload_3 S d_Rs_resolveTo_100 ?_
      refine aw_iconst (v := 1) S d_Rs_resolveTo_101 (by decide) ?_
      refine aw_topi (show (1 : Int32) = nI 1 from rfl) ?_
      refine aw_callSv0 S (ev_Rs_addBehind 18 1 z4 z6 h0 (by omega) (by decide) (by decide) (by omega) (by rw [hbe, List.length_append]; omega)) mb_Rs_addBehind n_st_Rs_addBehind n_ml_Rs_39 d_Rs_resolveTo_102 rfl rfl (fun g2_ n2_ h_ => ?_)
      obtain ⟨rfl, h1, hF1⟩ := h_
      rw [hbe] at h1
      exact s105 _ _ (hB0.out hA hF1) h1 (by rw [← he, sp_r2]; simp only [List.append_assoc])
    · have hq := aw_b_t c93
      have hbe : sp_beh (st_b 18) os 1 = sp_beh [47, 47] (if sp_oa os then os else bs) 1 := by rw [hq]; rfl
      refine aw_aload_2 S d_Rs_resolveTo_96 ?_
      refine aw_goto S 101 d_Rs_resolveTo_97 (by decide) ?_
      refine aw_iconst (v := 1) S d_Rs_resolveTo_101 (by decide) ?_
      refine aw_topi (show (1 : Int32) = nI 1 from rfl) ?_
      refine aw_callSv0 S (ev_Rs_addBehind 18 1 z3 z5 h0 (by omega) (by decide) (by decide) (by omega) (by rw [hbe, List.length_append]; omega)) mb_Rs_addBehind n_st_Rs_addBehind n_ml_Rs_39 d_Rs_resolveTo_102 rfl rfl (fun g2_ n2_ h_ => ?_)
      obtain ⟨rfl, h1, hF1⟩ := h_
      rw [hbe] at h1
      exact s105 _ _ (hB0.out hA hF1) h1 (by rw [← he, sp_r2]; simp only [List.append_assoc])
  have s67 : AW p l e { frames := 7, cells := 0, slots := 0, locals := 40 * 7 } s m args below meth c E 8 (aw_Z E (aw_Pv (fun g2 n2 => n2 = n ∧ IsRow E g2 ob M (sp_res os bs) ∧ (∃ zs, IsRow E g2 (a + 1) 197 zs) ∧ aw_fr2 g g2 (a + 1) ob)) below args s 0 0) 0 0 g n 67 [some (.ref a), some (.ref ob), some (.ref o1), some (.ref o2), some (.int (aw_b (sp_sc os))), some (.int (aw_b (sp_oa os))), some (.int (aw_b (sp_op os))), some (.int (aw_b (sp_oq os)))] [] := by
    obtain ⟨y1, y2, y3, y4, y5, y6, y7⟩ := id hB
    refine aw_iload_4 S d_Rs_resolveTo_67 ?_
    refine aw_if_eq S 76 d_Rs_resolveTo_69 (by decide) (fun c69 => ?_) (fun c69 => ?_)
    · have hq := aw_b_f c69
      have hpe : sp_part bs 0 = sp_part (if sp_sc os then os else bs) 0 := by rw [hq]; rfl
      refine aw_aload_3 S d_Rs_resolveTo_76 ?_
      refine aw_aload_1 S d_Rs_resolveTo_77 ?_
      refine aw_iconst (v := 0) S d_Rs_resolveTo_78 (by decide) ?_
      refine aw_topi nI_0.symm ?_
      refine aw_callVv0 S (ev_Rf_copyTo 0 y4 y6 hO (by omega) (by decide) (by rw [hpe, List.length_nil]; rw [sp_res, List.length_append] at hM; omega)) mb_Rf_copyTo mi_Rf_copyTo n_ml_Rs_30 d_Rs_resolveTo_79 I_Rf y4.cell rfl rfl rfl (fun g2_ n2_ h_ => ?_)
      obtain ⟨rfl, h1, hF1⟩ := h_
      rw [hpe, List.nil_append] at h1
      exact s82 _ _ (hB.out hA hF1) h1 rfl
    · have hq := aw_b_t c69
      have hpe : sp_part os 0 = sp_part (if sp_sc os then os else bs) 0 := by rw [hq]; rfl
      refine aw_aload_2 S d_Rs_resolveTo_72 ?_
      refine aw_goto S 77 d_Rs_resolveTo_73 (by decide) ?_
      refine aw_aload_1 S d_Rs_resolveTo_77 ?_
      refine aw_iconst (v := 0) S d_Rs_resolveTo_78 (by decide) ?_
      refine aw_topi nI_0.symm ?_
      refine aw_callVv0 S (ev_Rf_copyTo 0 y3 y5 hO (by omega) (by decide) (by rw [hpe, List.length_nil]; rw [sp_res, List.length_append] at hM; omega)) mb_Rf_copyTo mi_Rf_copyTo n_ml_Rs_30 d_Rs_resolveTo_79 I_Rf y3.cell rfl rfl rfl (fun g2_ n2_ h_ => ?_)
      obtain ⟨rfl, h1, hF1⟩ := h_
      rw [hpe, List.nil_append] at h1
      exact s82 _ _ (hB.out hA hF1) h1 rfl
  have s47 : AW p l e { frames := 7, cells := 0, slots := 0, locals := 40 * 7 } s m args below meth c E 8 (aw_Z E (aw_Pv (fun g2 n2 => n2 = n ∧ IsRow E g2 ob M (sp_res os bs) ∧ (∃ zs, IsRow E g2 (a + 1) 197 zs) ∧ aw_fr2 g g2 (a + 1) ob)) below args s 0 0) 0 0 g n 47 [some (.ref a), some (.ref ob), some (.ref o1), some (.ref o2), some (.int (aw_b (sp_sc os))), some (.int (aw_b (sp_oa os))), some (.int (aw_b (sp_op os))), none] [] := by
    refine aw_iload_6 S d_Rs_resolveTo_47 ?_
    refine aw_if_ne S 60 d_Rs_resolveTo_49 (by decide) (fun c49 => ?_) (fun c49 => ?_)
    · refine aw_iconst (v := 1) S d_Rs_resolveTo_60 (by decide) ?_
      refine aw_goto S 65 d_Rs_resolveTo_61 (by decide) ?_
      rw [show (1 : Int32) = aw_b (sp_oq os) from aw_b1 (by rw [sp_oq, aw_b_t c49, Bool.true_or])]
      refine aw_istore_7 S d_Rs_resolveTo_65 ?_
      exact s67
    · refine aw_aload_2 S d_Rs_resolveTo_52 ?_
      refine aw_iconst (v := 3) S d_Rs_resolveTo_53 (by decide) ?_
      refine aw_topi (show (3 : Int32) = nI 3 from rfl) ?_
      refine aw_callViR S (ev_Rf_has 3 hB.2.2.1 (by decide) (by omega)) mb_Rf_has mi_Rf_has n_ml_Rs_20 d_Rs_resolveTo_54 I_Rf hB.2.2.1.cell rfl rfl rfl ?_
      refine aw_if_eq S 64 d_Rs_resolveTo_57 (by decide) (fun c57 => ?_) (fun c57 => ?_)
      · refine aw_iconst (v := 0) S d_Rs_resolveTo_64 (by decide) ?_
        rw [show (0 : Int32) = aw_b (sp_oq os) from aw_b0 (by rw [sp_oq, aw_b_f c49, aw_b_f c57]; rfl)]
        refine aw_istore_7 S d_Rs_resolveTo_65 ?_
        exact s67
      · refine aw_iconst (v := 1) S d_Rs_resolveTo_60 (by decide) ?_
        refine aw_goto S 65 d_Rs_resolveTo_61 (by decide) ?_
        rw [show (1 : Int32) = aw_b (sp_oq os) from aw_b1 (by rw [sp_oq, aw_b_t c57, Bool.or_true])]
        refine aw_istore_7 S d_Rs_resolveTo_65 ?_
        exact s67
  have s27 : AW p l e { frames := 7, cells := 0, slots := 0, locals := 40 * 7 } s m args below meth c E 8 (aw_Z E (aw_Pv (fun g2 n2 => n2 = n ∧ IsRow E g2 ob M (sp_res os bs) ∧ (∃ zs, IsRow E g2 (a + 1) 197 zs) ∧ aw_fr2 g g2 (a + 1) ob)) below args s 0 0) 0 0 g n 27 [some (.ref a), some (.ref ob), some (.ref o1), some (.ref o2), some (.int (aw_b (sp_sc os))), some (.int (aw_b (sp_oa os))), none, none] [] := by
    refine aw_iload_5 S d_Rs_resolveTo_27 ?_
    refine aw_if_ne S 40 d_Rs_resolveTo_29 (by decide) (fun c29 => ?_) (fun c29 => ?_)
    · refine aw_iconst (v := 1) S d_Rs_resolveTo_40 (by decide) ?_
      refine aw_goto S 45 d_Rs_resolveTo_41 (by decide) ?_
      rw [show (1 : Int32) = aw_b (sp_op os) from aw_b1 (by rw [sp_op, aw_b_t c29, Bool.true_or])]
      refine aw_istore_6 S d_Rs_resolveTo_45 ?_
      exact s47
    · refine aw_aload_2 S d_Rs_resolveTo_32 ?_
      refine aw_iconst (v := 2) S d_Rs_resolveTo_33 (by decide) ?_
      refine aw_topi (show (2 : Int32) = nI 2 from rfl) ?_
      refine aw_callViR S (ev_Rf_lengthOf 2 hB.2.2.1 (by decide) (by omega)) mb_Rf_lengthOf mi_Rf_lengthOf n_ml_Rs_26 d_Rs_resolveTo_34 I_Rf hB.2.2.1.cell rfl rfl rfl ?_
      refine aw_if_le S 44 d_Rs_resolveTo_37 (by decide) (fun c37 => ?_) (fun c37 => ?_)
      · refine aw_iconst (v := 0) S d_Rs_resolveTo_44 (by decide) ?_
        rw [show (0 : Int32) = aw_b (sp_op os) from aw_b0 (by rw [sp_op, aw_b_f c29, decide_eq_false (fun h => h c37)]; rfl)]
        refine aw_istore_6 S d_Rs_resolveTo_45 ?_
        exact s47
      · refine aw_iconst (v := 1) S d_Rs_resolveTo_40 (by decide) ?_
        refine aw_goto S 45 d_Rs_resolveTo_41 (by decide) ?_
        rw [show (1 : Int32) = aw_b (sp_op os) from aw_b1 (by rw [sp_op, decide_eq_true c37, Bool.or_true])]
        refine aw_istore_6 S d_Rs_resolveTo_45 ?_
        exact s47
  refine aw_aload_2 S d_Rs_resolveTo_0 ?_
  refine aw_iconst (v := 0) S d_Rs_resolveTo_1 (by decide) ?_
  refine aw_topi nI_0.symm ?_
  refine aw_callViR S (ev_Rf_has 0 hB.2.2.1 (by decide) (by omega)) mb_Rf_has mi_Rf_has n_ml_Rs_20 d_Rs_resolveTo_2 I_Rf hB.2.2.1.cell rfl rfl rfl ?_
  rw [show aw_b (sp_pt os 0).isSome = aw_b (sp_sc os) from rfl]
  refine aw_istore_4 S d_Rs_resolveTo_5 ?_
  refine aw_iload_4 S d_Rs_resolveTo_7 ?_
  refine aw_if_ne S 20 d_Rs_resolveTo_9 (by decide) (fun c9 => ?_) (fun c9 => ?_)
  · refine aw_iconst (v := 1) S d_Rs_resolveTo_20 (by decide) ?_
    refine aw_goto S 25 d_Rs_resolveTo_21 (by decide) ?_
    rw [show (1 : Int32) = aw_b (sp_oa os) from aw_b1 (by rw [sp_oa, aw_b_t c9, Bool.true_or])]
    refine aw_istore_5 S d_Rs_resolveTo_25 ?_
    exact s27
  · refine aw_aload_2 S d_Rs_resolveTo_12 ?_
    refine aw_iconst (v := 1) S d_Rs_resolveTo_13 (by decide) ?_
    refine aw_topi (show (1 : Int32) = nI 1 from rfl) ?_
    refine aw_callViR S (ev_Rf_has 1 hB.2.2.1 (by decide) (by omega)) mb_Rf_has mi_Rf_has n_ml_Rs_20 d_Rs_resolveTo_14 I_Rf hB.2.2.1.cell rfl rfl rfl ?_
    refine aw_if_eq S 24 d_Rs_resolveTo_17 (by decide) (fun c17 => ?_) (fun c17 => ?_)
    · refine aw_iconst (v := 0) S d_Rs_resolveTo_24 (by decide) ?_
      rw [show (0 : Int32) = aw_b (sp_oa os) from aw_b0 (by rw [sp_oa, aw_b_f c9, aw_b_f c17]; rfl)]
      refine aw_istore_5 S d_Rs_resolveTo_25 ?_
      exact s27
    · refine aw_iconst (v := 1) S d_Rs_resolveTo_20 (by decide) ?_
      refine aw_goto S 25 d_Rs_resolveTo_21 (by decide) ?_
      rw [show (1 : Int32) = aw_b (sp_oa os) from aw_b1 (by rw [sp_oa, aw_b_t c17, Bool.or_true])]
      refine aw_istore_5 S d_Rs_resolveTo_25 ?_
      exact s27
