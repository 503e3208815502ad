/-! the reference: split, take, part -/
def okm (rs : List Int32) (F T : Nat → Int32) (w : Nat) : Prop := F w = oi ((sp_pt rs w).map (fun q => q.1)) ∧ T w = oi ((sp_pt rs w).map (fun q => q.2))
def mPs (rs : List Int32) (k : Nat) (F T : Nat → Int32) : Prop := (∀ w, w < k → okm rs F T w) ∧ ∀ w, k ≤ w → w < 5 → F w = -1 ∧ T w = -1
theorem mPs.no {rs : List Int32} {k : Nat} {F T : Nat → Int32} (h : mPs rs k F T) (hk : k < 5) (hn : sp_pt rs k = none) : mPs rs (k + 1) F T := by
  refine ⟨fun w hw => ?_, fun w h1 h2 => h.2 w (by omega) h2⟩
  by_cases e : w = k
  · subst e
    unfold okm
    rw [hn]
    exact h.2 w (Nat.le_refl _) hk
  · exact h.1 w (by omega)
theorem mPs.yes {rs : List Int32} {k a b : Nat} {F T : Nat → Int32} (h : mPs rs k F T) (hn : sp_pt rs k = some (a, b)) : mPs rs (k + 1) (upd F k (nI a)) (upd T k (nI b)) := by
  refine ⟨fun w hw => ?_, fun w h1 h2 => ?_⟩
  · by_cases e : w = k
    · subst e
      unfold okm
      rw [hn, upd_s, upd_s]
      exact ⟨rfl, rfl⟩
    · unfold okm
      rw [upd_n e, upd_n e]
      exact h.1 w (by omega)
  · rw [upd_n (by omega), upd_n (by omega)]
    exact h.2 w (by omega) h2
theorem sp_nx_in {L xs : List Int32} : ∀ (j k : Nat), xs.length ≤ k + j → sp_nx L xs k < xs.length → xs.getD (sp_nx L xs k) (-1) ∈ L := by
  intro j
  induction j with
  | zero => intro k h h2; rw [sp_nx_ge (by omega)] at h2; omega
  | succ j ih =>
    intro k h h2
    rcases Nat.lt_or_ge k xs.length with hk | hk
    · by_cases hm : xs.getD k (-1) ∈ L
      · rw [sp_nx_hit hk hm]; exact hm
      · rw [sp_nx_miss hk hm] at h2 ⊢
        exact ih (k + 1) (by omega) h2
    · rw [sp_nx_ge hk] at h2; omega
theorem p3_q {rs : List Int32} (h : rs.getD (sp_p2 rs) (-1) = 63) : sp_p3 rs = sp_nx [35] rs (sp_p2 rs + 1) := by
  have hl : sp_p2 rs < rs.length := by
    rcases Nat.lt_or_ge (sp_p2 rs) rs.length with q | q
    · exact q
    · rw [getD_out q] at h; exact absurd h (by decide)
  rw [sp_p3, sp_nx_miss hl (by rw [h]; decide)]
theorem p3_n {rs : List Int32} (h : ¬ rs.getD (sp_p2 rs) (-1) = 63) : sp_p3 rs = sp_p2 rs := by
  rcases Nat.lt_or_ge (sp_p2 rs) rs.length with q | q
  · have := sp_nx_in (L := [63, 35]) (xs := rs) rs.length (sp_p1 rs) (by omega) q
    have : rs.getD (sp_p2 rs) (-1) ∈ [63, 35] := this
    simp only [List.mem_cons, List.not_mem_nil, or_false] at this
    rcases this with z | z
    · exact absurd z h
    · rw [sp_p3, sp_nx_hit q (by rw [z]; decide)]
  · rw [sp_p3, sp_nx_ge q]
theorem au_iff {rs : List Int32} : sp_au rs = true ↔ rs.getD (sp_p0 rs) (-1) = 47 ∧ rs.getD (sp_p0 rs + 1) (-1) = 47 := by
  unfold sp_au
  rcases Nat.lt_or_ge (sp_p0 rs) rs.length with h | h
  · rw [drop_cons h, sp_pre]
    rcases Nat.lt_or_ge (sp_p0 rs + 1) rs.length with h2 | h2
    · rw [drop_cons h2, sp_pre, sp_pre]; simp
    · rw [List.drop_eq_nil_iff.mpr h2, sp_pre, getD_out h2]; simp
  · rw [List.drop_eq_nil_iff.mpr h, sp_pre, getD_out h]; simp
theorem fu_upd {f : Nat → Nat → Int32} {F : Nat → Int32} {k j : Nat} {x : Int32} : fu f k (upd F j x) k j = x := by rw [fu_s, upd_s]
theorem nI_gt {k : Nat} (h : ¬ nI k ≤ 0) : 0 < k := by
  rcases Nat.eq_zero_or_pos k with z | z
  · rw [z] at h; exact absurd (show nI 0 ≤ 0 by decide) h
  · exact z
theorem let_m1 : sp_let (-1) = false := by decide
theorem sch_let {b : Int32} (h : sp_let b = true) : sp_sch b = true := by simp [sp_sch, sp_ld, h]
theorem sch_58 : sp_sch 58 = false := by decide
theorem sch_m1 : sp_sch (-1) = false := by decide
theorem csch_step {rs : List Int32} {k : Nat} (h : sp_sch (rs.getD k (-1)) = true) : csch (rs.drop k) k = csch (rs.drop (k + 1)) (k + 1) ∧ k < rs.length := by
  have hk : k < rs.length := by
    rcases Nat.lt_or_ge k rs.length with q | q
    · exact q
    · rw [getD_out q, sch_m1] at h; cases h
  refine ⟨?_, hk⟩
  rw [drop_cons hk, csch, if_neg (fun z => by rw [z, sch_58] at h; cases h), if_pos h]
theorem csch_end {rs : List Int32} {k : Nat} (h : sp_sch (rs.getD k (-1)) = false) : csch (rs.drop k) k = if rs.getD k (-1) = 58 then some k else none := by
  rcases Nat.lt_or_ge k rs.length with q | q
  · rw [drop_cons q, csch, if_neg (fun z : sp_sch _ = true => by rw [h] at z; cases z)]
  · rw [List.drop_eq_nil_iff.mpr q, csch, getD_out q, if_neg (by decide)]
theorem col_yes {rs : List Int32} (h : sp_let (rs.getD 0 (-1)) = true) : sp_col rs = csch (rs.drop 1) 1 ∧ 0 < rs.length := by
  cases rs with
  | nil => exact absurd h (by decide)
  | cons b r => exact ⟨by rw [sp_col, if_pos (show sp_let b = true from h)]; rfl, Nat.succ_pos _⟩
theorem col_no {rs : List Int32} (h : sp_let (rs.getD 0 (-1)) = false) : sp_col rs = none := by
  cases rs with
  | nil => rfl
  | cons b r => rw [sp_col, if_neg (show ¬ sp_let b = true from fun z => by rw [show sp_let b = false from h] at z; cases z)]
set_option maxRecDepth 100000 in
set_option maxHeartbeats 4000000 in
theorem ev_Md_split {l : Launch} {E : aw_E} {g : AH} {n : Nat} {g0 : AH} {d : Nat} {v : Nat → Int32} {f : Nat → Nat → Int32} {rs : List Int32} (hM : mG E g0 d v f g) (h7 : v 7 = nI rs.length) (hR : mL (f 13) 0 rs) (hr : rs.length ≤ 100) : EV l E 3 0 0 y_Md_split c_Md_split 3 none g n [.ref d] (aw_Pv (fun g2 n2 => n2 = n ∧ ∃ v2 f2, mG E g0 d v2 f2 g2 ∧ mfr [] [14, 15] v v2 f f2 ∧ mPs rs 5 (f2 14) (f2 15))) := by
  refine aw_enter "AddressTermsModel" [some (.ref d), none, none] (by decide) rfl rfl (Nat.le_of_ble_eq_true rfl) ?_
  intro p e s m args below meth c S hnm
  have b0 := sp_p0_le rs
  have b1 := sp_p1_le rs
  have b2 := sp_p2_le rs
  have b3 := sp_p3_le rs
  have s246 : ∀ (f1 : Nat → Nat → Int32) (g : AH) (x : Option Value), mPs rs 4 (f1 14) (f1 15) → mfr [] [14, 15] v v f f1 → mG E g0 d v f1 g → AW p l e { frames := 3, cells := 0, slots := 0, locals := 40 * 3 } s m args below meth c E 3 (aw_Z E (aw_Pv (fun g2 n2 => n2 = n ∧ ∃ v2 f2, mG E g0 d v2 f2 g2 ∧ mfr [] [14, 15] v v2 f f2 ∧ mPs rs 5 (f2 14) (f2 15))) below args s 0 0) 0 0 g n 246 [some (.ref d), some (.int (nI (sp_p3 rs))), x] [] := by
    intro f1 g x hp hf1 hM
    have hR1 : mL (f1 13) 0 rs := by rw [hf1.2 13 (by decide)]; exact hR
    refine aw_aload_0 S d_Md_split_246 ?_
    refine aw_iload_1 S d_Md_split_247 ?_
    refine aw_callViR S (ev_Md_refAt (sp_p3 rs) hM h7 hR1 hr (by omega)) mb_Md_refAt mi_Md_refAt n_ml_Md_112 d_Md_split_248 I_Md hM.2.1 rfl rfl rfl ?_
    refine aw_bipush (v := 35) S d_Md_split_251 (by decide) ?_
    refine aw_icmp_ne S 275 d_Md_split_253 (by decide) (fun c253 => ?_) (fun c253 => ?_)
    · refine aw_vret S rfl d_Md_split_275 ?_ (by decide) (by decide)
      exact ⟨rfl, v, f1, hM, hf1, hp.no (by decide) (by show (if _ then _ else _) = _; rw [if_neg c253])⟩
    · refine aw_aload_0 S d_Md_split_256 ?_
      refine aw_getf S I_Md 22 hM.2.1 n_fl_Md_56 d_Md_split_257 rfl (by decide) ?_
      refine aw_iconst (v := 4) S d_Md_split_260 (by decide) ?_
      refine aw_iload_1 S d_Md_split_261 ?_
      refine aw_iconst (v := 1) S d_Md_split_262 (by decide) ?_
      refine aw_iadd S d_Md_split_263 ?_
      refine aw_topi (nI_1 _) ?_
      refine aw_mst (j := 4) S hM 14 (by decide) (show _ < 5 by omega) d_Md_split_264 (fun g_ hM => ?_)
      refine aw_aload_0 S d_Md_split_265 ?_
      refine aw_getf S I_Md 23 hM.2.1 n_fl_Md_59 d_Md_split_266 rfl (by decide) ?_
      refine aw_iconst (v := 4) S d_Md_split_269 (by decide) ?_
      refine aw_aload_0 S d_Md_split_270 ?_
      refine aw_getf S I_Md 20 hM.2.1 n_fl_Md_109 d_Md_split_271 rfl (by decide) ?_
      refine aw_topi h7 ?_
      refine aw_mst (j := 4) S hM 15 (by decide) (show _ < 5 by omega) d_Md_split_274 (fun g_ hM => ?_)
      refine aw_vret S rfl d_Md_split_275 ?_ (by decide) (by decide)
      exact ⟨rfl, v, _, hM, (hf1.f (by decide)).f (by decide), hp.yes (by show (if _ then _ else _) = _; rw [if_pos c253])⟩
  have s205 : ∀ (f1 : Nat → Nat → Int32) (g : AH) (x : Option Value), mPs rs 3 (f1 14) (f1 15) → mfr [] [14, 15] v v f f1 → mG E g0 d v f1 g → AW p l e { frames := 3, cells := 0, slots := 0, locals := 40 * 3 } s m args below meth c E 3 (aw_Z E (aw_Pv (fun g2 n2 => n2 = n ∧ ∃ v2 f2, mG E g0 d v2 f2 g2 ∧ mfr [] [14, 15] v v2 f f2 ∧ mPs rs 5 (f2 14) (f2 15))) below args s 0 0) 0 0 g n 205 [some (.ref d), some (.int (nI (sp_p2 rs))), x] [] := by
    intro f1 g x hp hf1 hM
    have hR1 : mL (f1 13) 0 rs := by rw [hf1.2 13 (by decide)]; exact hR
    refine aw_aload_0 S d_Md_split_205 ?_
    refine aw_iload_1 S d_Md_split_206 ?_
    refine aw_callViR S (ev_Md_refAt (sp_p2 rs) hM h7 hR1 hr (by omega)) mb_Md_refAt mi_Md_refAt n_ml_Md_112 d_Md_split_207 I_Md hM.2.1 rfl rfl rfl ?_
    refine aw_bipush (v := 63) S d_Md_split_210 (by decide) ?_
    refine aw_icmp_ne S 246 d_Md_split_212 (by decide) (fun c212 => ?_) (fun c212 => ?_)
    · rw [← p3_n c212]
      exact s246 f1 _ _ (hp.no (by decide) (by show (if _ then _ else _) = _; rw [if_neg c212])) hf1 hM
    · refine aw_aload_0 S d_Md_split_215 ?_
      refine aw_getf S I_Md 22 hM.2.1 n_fl_Md_56 d_Md_split_216 rfl (by decide) ?_
      refine aw_iconst (v := 3) S d_Md_split_219 (by decide) ?_
      refine aw_iload_1 S d_Md_split_220 ?_
      refine aw_iconst (v := 1) S d_Md_split_221 (by decide) ?_
      refine aw_iadd S d_Md_split_222 ?_
      refine aw_topi (nI_1 _) ?_
      refine aw_mst (j := 3) S hM 14 (by decide) (show _ < 5 by omega) d_Md_split_223 (fun g_ hM => ?_)
      refine aw_aload_0 S d_Md_split_224 ?_
      refine aw_getf S I_Md 23 hM.2.1 n_fl_Md_59 d_Md_split_225 rfl (by decide) ?_
      refine aw_iconst (v := 3) S d_Md_split_228 (by decide) ?_
      refine aw_aload_0 S d_Md_split_229 ?_
      refine aw_iload_1 S d_Md_split_230 ?_
      refine aw_iconst (v := 1) S d_Md_split_231 (by decide) ?_
      refine aw_iadd S d_Md_split_232 ?_
      refine aw_topi (nI_1 _) ?_
      refine aw_iconst (v := 0) S d_Md_split_233 (by decide) ?_
      refine aw_iconst (v := 0) S d_Md_split_234 (by decide) ?_
      refine aw_callViR S (ev_Md_stop (sp_p2 rs + 1) false false hM h7 hR1 hr (by omega)) mb_Md_stop mi_Md_stop n_ml_Md_119 d_Md_split_235 I_Md hM.2.1 rfl rfl rfl ?_
      refine aw_mst (j := 3) S hM 15 (by decide) (show _ < 5 by omega) d_Md_split_238 (fun g_ hM => ?_)
      refine aw_aload_0 S d_Md_split_239 ?_
      refine aw_getf S I_Md 23 hM.2.1 n_fl_Md_59 d_Md_split_240 rfl (by decide) ?_
      refine aw_iconst (v := 3) S d_Md_split_243 (by decide) ?_
      refine aw_mld (j := 3) S hM 15 (by decide) (fu_upd) (show _ < 5 by omega) d_Md_split_244 ?_
      refine aw_istore_1 S d_Md_split_245 ?_
      have e3 := p3_q c212
      rw [show sp_nx (stL false false) rs (sp_p2 rs + 1) = sp_p3 rs from e3.symm]
      rw [show sp_nx (stL false false) rs (sp_p2 rs + 1) = sp_p3 rs from e3.symm] at hM
      exact s246 _ _ _ (hp.yes (by show (if _ then _ else _) = _; rw [if_pos c212])) ((hf1.f (by decide)).f (by decide)) hM
  have s178 : ∀ (f1 : Nat → Nat → Int32) (g : AH) (x : Option Value), mPs rs 2 (f1 14) (f1 15) → mfr [] [14, 15] v v f f1 → mG E g0 d v f1 g → AW p l e { frames := 3, cells := 0, slots := 0, locals := 40 * 3 } s m args below meth c E 3 (aw_Z E (aw_Pv (fun g2 n2 => n2 = n ∧ ∃ v2 f2, mG E g0 d v2 f2 g2 ∧ mfr [] [14, 15] v v2 f f2 ∧ mPs rs 5 (f2 14) (f2 15))) below args s 0 0) 0 0 g n 178 [some (.ref d), some (.int (nI (sp_p1 rs))), x] [] := by
    intro f1 g x hp hf1 hM
    have hR1 : mL (f1 13) 0 rs := by rw [hf1.2 13 (by decide)]; exact hR
    refine aw_aload_0 S d_Md_split_178 ?_
    refine aw_getf S I_Md 22 hM.2.1 n_fl_Md_56 d_Md_split_179 rfl (by decide) ?_
    refine aw_iconst (v := 2) S d_Md_split_182 (by decide) ?_
    refine aw_iload_1 S d_Md_split_183 ?_
    refine aw_mst (j := 2) S hM 14 (by decide) (show _ < 5 by omega) d_Md_split_184 (fun g_ hM => ?_)
    refine aw_aload_0 S d_Md_split_185 ?_
    refine aw_getf S I_Md 23 hM.2.1 n_fl_Md_59 d_Md_split_186 rfl (by decide) ?_
    refine aw_iconst (v := 2) S d_Md_split_189 (by decide) ?_
    refine aw_aload_0 S d_Md_split_190 ?_
    refine aw_iload_1 S d_Md_split_191 ?_
    refine aw_iconst (v := 0) S d_Md_split_192 (by decide) ?_
    refine aw_iconst (v := 1) S d_Md_split_193 (by decide) ?_
    refine aw_callViR S (ev_Md_stop (sp_p1 rs) false true hM h7 hR1 hr (by omega)) mb_Md_stop mi_Md_stop n_ml_Md_119 d_Md_split_194 I_Md hM.2.1 rfl rfl rfl ?_
    refine aw_mst (j := 2) S hM 15 (by decide) (show _ < 5 by omega) d_Md_split_197 (fun g_ hM => ?_)
    refine aw_aload_0 S d_Md_split_198 ?_
    refine aw_getf S I_Md 23 hM.2.1 n_fl_Md_59 d_Md_split_199 rfl (by decide) ?_
    refine aw_iconst (v := 2) S d_Md_split_202 (by decide) ?_
    refine aw_mld (j := 2) S hM 15 (by decide) (fu_upd) (show _ < 5 by omega) d_Md_split_203 ?_
    refine aw_istore_1 S d_Md_split_204 ?_
    exact s205 _ _ _ (hp.yes rfl) ((hf1.f (by decide)).f (by decide)) hM
  have s125 : ∀ (f1 : Nat → Nat → Int32) (g : AH) (x : Option Value), mPs rs 1 (f1 14) (f1 15) → mfr [] [14, 15] v v f f1 → mG E g0 d v f1 g → AW p l e { frames := 3, cells := 0, slots := 0, locals := 40 * 3 } s m args below meth c E 3 (aw_Z E (aw_Pv (fun g2 n2 => n2 = n ∧ ∃ v2 f2, mG E g0 d v2 f2 g2 ∧ mfr [] [14, 15] v v2 f f2 ∧ mPs rs 5 (f2 14) (f2 15))) below args s 0 0) 0 0 g n 125 [some (.ref d), some (.int (nI (sp_p0 rs))), x] [] := by
    intro f1 g x hp hf1 hM
    have hR1 : mL (f1 13) 0 rs := by rw [hf1.2 13 (by decide)]; exact hR
    refine aw_aload_0 S d_Md_split_125 ?_
    refine aw_iload_1 S d_Md_split_126 ?_
    refine aw_callViR S (ev_Md_refAt (sp_p0 rs) hM h7 hR1 hr (by omega)) mb_Md_refAt mi_Md_refAt n_ml_Md_112 d_Md_split_127 I_Md hM.2.1 rfl rfl rfl ?_
    refine aw_bipush (v := 47) S d_Md_split_130 (by decide) ?_
    refine aw_icmp_ne S 178 d_Md_split_132 (by decide) (fun c132 => ?_) (fun c132 => ?_)
    · have hau : sp_au rs = false := by
        rw [Bool.eq_false_iff, Ne, au_iff]
        exact fun z => c132 z.1
      have e1 : sp_p0 rs = sp_p1 rs := by rw [sp_p1, hau]; rfl
      rw [e1]
      exact s178 f1 _ _ (hp.no (by decide) (by show (if _ then _ else _) = _; rw [hau]; rfl)) hf1 hM
    · refine aw_aload_0 S d_Md_split_135 ?_
      refine aw_iload_1 S d_Md_split_136 ?_
      refine aw_iconst (v := 1) S d_Md_split_137 (by decide) ?_
      refine aw_iadd S d_Md_split_138 ?_
      refine aw_topi (nI_1 _) ?_
      refine aw_callViR S (ev_Md_refAt (sp_p0 rs + 1) hM h7 hR1 hr (by omega)) mb_Md_refAt mi_Md_refAt n_ml_Md_112 d_Md_split_139 I_Md hM.2.1 rfl rfl rfl ?_
      refine aw_bipush (v := 47) S d_Md_split_142 (by decide) ?_
      refine aw_icmp_ne S 178 d_Md_split_144 (by decide) (fun c144 => ?_) (fun c144 => ?_)
      · have hau : sp_au rs = false := by
          rw [Bool.eq_false_iff, Ne, au_iff]
          exact fun z => c144 z.2
        have e1 : sp_p0 rs = sp_p1 rs := by rw [sp_p1, hau]; rfl
        rw [e1]
        exact s178 f1 _ _ (hp.no (by decide) (by show (if _ then _ else _) = _; rw [hau]; rfl)) hf1 hM
      · refine aw_aload_0 S d_Md_split_147 ?_
        refine aw_getf S I_Md 22 hM.2.1 n_fl_Md_56 d_Md_split_148 rfl (by decide) ?_
        refine aw_iconst (v := 1) S d_Md_split_151 (by decide) ?_
        refine aw_iload_1 S d_Md_split_152 ?_
        refine aw_iconst (v := 2) S d_Md_split_153 (by decide) ?_
        refine aw_iadd S d_Md_split_154 ?_
        refine aw_topi (nI_add _ 2) ?_
        refine aw_mst (j := 1) S hM 14 (by decide) (show _ < 5 by omega) d_Md_split_155 (fun g_ hM => ?_)
        refine aw_aload_0 S d_Md_split_156 ?_
        refine aw_getf S I_Md 23 hM.2.1 n_fl_Md_59 d_Md_split_157 rfl (by decide) ?_
        refine aw_iconst (v := 1) S d_Md_split_160 (by decide) ?_
        refine aw_aload_0 S d_Md_split_161 ?_
        refine aw_iload_1 S d_Md_split_162 ?_
        refine aw_iconst (v := 2) S d_Md_split_163 (by decide) ?_
        refine aw_iadd S d_Md_split_164 ?_
        refine aw_topi (nI_add _ 2) ?_
        refine aw_iconst (v := 1) S d_Md_split_165 (by decide) ?_
        refine aw_iconst (v := 1) S d_Md_split_166 (by decide) ?_
        refine aw_callViR S (ev_Md_stop (sp_p0 rs + 2) true true hM h7 hR1 hr (by omega)) mb_Md_stop mi_Md_stop n_ml_Md_119 d_Md_split_167 I_Md hM.2.1 rfl rfl rfl ?_
        refine aw_mst (j := 1) S hM 15 (by decide) (show _ < 5 by omega) d_Md_split_170 (fun g_ hM => ?_)
        refine aw_aload_0 S d_Md_split_171 ?_
        refine aw_getf S I_Md 23 hM.2.1 n_fl_Md_59 d_Md_split_172 rfl (by decide) ?_
        refine aw_iconst (v := 1) S d_Md_split_175 (by decide) ?_
        refine aw_mld (j := 1) S hM 15 (by decide) (fu_upd) (show _ < 5 by omega) d_Md_split_176 ?_
        refine aw_istore_1 S d_Md_split_177 ?_
        have hau : sp_au rs = true := au_iff.mpr ⟨c132, c144⟩
        have e1 : sp_nx (stL true true) rs (sp_p0 rs + 2) = sp_p1 rs := by rw [sp_p1, hau]; rfl
        rw [e1]
        rw [e1] at hM
        exact s178 _ _ _ (hp.yes (by show (if _ then _ else _) = _; rw [hau]; rfl)) ((hf1.f (by decide)).f (by decide)) hM
  have s93 : ∀ (f1 : Nat → Nat → Int32) (g : AH) (k : Nat), k ≤ rs.length → (k = 0 → sp_col rs = none) → (0 < k → sp_col rs = if rs.getD k (-1) = 58 then some k else none) → mPs rs 0 (f1 14) (f1 15) → mfr [] [14, 15] v v f f1 → mG E g0 d v f1 g → AW p l e { frames := 3, cells := 0, slots := 0, locals := 40 * 3 } s m args below meth c E 3 (aw_Z E (aw_Pv (fun g2 n2 => n2 = n ∧ ∃ v2 f2, mG E g0 d v2 f2 g2 ∧ mfr [] [14, 15] v v2 f f2 ∧ mPs rs 5 (f2 14) (f2 15))) below args s 0 0) 0 0 g n 93 [some (.ref d), some (.int 0), some (.int (nI k))] [] := by
    intro f1 g k hk h0 h1 hp hf1 hM
    have hR1 : mL (f1 13) 0 rs := by rw [hf1.2 13 (by decide)]; exact hR
    refine aw_iload_2 S d_Md_split_93 ?_
    refine aw_if_le S 125 d_Md_split_94 (by decide) (fun c94 => ?_) (fun c94 => ?_)
    · have hc : sp_col rs = none := h0 (by rcases Nat.eq_zero_or_pos k with z | z; exact z; exact absurd c94 (nI_nle z (by omega)))
      have e0 : sp_p0 rs = 0 := by rw [sp_p0, hc]
      have := s125 f1 g (some (.int (nI k))) (hp.no (by decide) (by show Option.map _ _ = _; rw [hc]; rfl)) hf1 hM
      rw [e0] at this
      exact this
    · refine aw_aload_0 S d_Md_split_97 ?_
      refine aw_iload_2 S d_Md_split_98 ?_
      refine aw_callViR S (ev_Md_refAt k hM h7 hR1 hr (by omega)) mb_Md_refAt mi_Md_refAt n_ml_Md_112 d_Md_split_99 I_Md hM.2.1 rfl rfl rfl ?_
      refine aw_bipush (v := 58) S d_Md_split_102 (by decide) ?_
      refine aw_icmp_ne S 125 d_Md_split_104 (by decide) (fun c104 => ?_) (fun c104 => ?_)
      · have hc : sp_col rs = none := by rw [h1 (nI_gt c94), if_neg c104]
        have e0 : sp_p0 rs = 0 := by rw [sp_p0, hc]
        have := s125 f1 g (some (.int (nI k))) (hp.no (by decide) (by show Option.map _ _ = _; rw [hc]; rfl)) hf1 hM
        rw [e0] at this
        exact this
      · refine aw_aload_0 S d_Md_split_107 ?_
        refine aw_getf S I_Md 22 hM.2.1 n_fl_Md_56 d_Md_split_108 rfl (by decide) ?_
        refine aw_iconst (v := 0) S d_Md_split_111 (by decide) ?_
        refine aw_iconst (v := 0) S d_Md_split_112 (by decide) ?_
        refine aw_mst (j := 0) S hM 14 (by decide) (show _ < 5 by omega) d_Md_split_113 (fun g_ hM => ?_)
        refine aw_aload_0 S d_Md_split_114 ?_
        refine aw_getf S I_Md 23 hM.2.1 n_fl_Md_59 d_Md_split_115 rfl (by decide) ?_
        refine aw_iconst (v := 0) S d_Md_split_118 (by decide) ?_
        refine aw_iload_2 S d_Md_split_119 ?_
        refine aw_mst (j := 0) S hM 15 (by decide) (show _ < 5 by omega) d_Md_split_120 (fun g_ hM => ?_)
        refine aw_iload_2 S d_Md_split_121 ?_
        refine aw_iconst (v := 1) S d_Md_split_122 (by decide) ?_
        refine aw_iadd S d_Md_split_123 ?_
        refine aw_topi (nI_1 _) ?_
        refine aw_istore_1 S d_Md_split_124 ?_
        have hc : sp_col rs = some k := by rw [h1 (nI_gt c94), if_pos c104]
        have e0 : sp_p0 rs = k + 1 := by rw [sp_p0, hc]
        have hq : sp_pt rs 0 = some (0, k) := by show Option.map _ _ = _; rw [hc]; rfl
        have := s125 _ _ (some (.int (nI k))) (hp.yes hq) ((hf1.f (by decide)).f (by decide)) hM
        rw [e0] at this
        exact this
  have l31 : ∀ (j : Nat) (f1 : Nat → Nat → Int32) (g : AH) (k : Nat), rs.length ≤ k + j → k ≤ rs.length → (k = 0 ∨ csch (rs.drop k) k = sp_col rs) → mPs rs 0 (f1 14) (f1 15) → mfr [] [14, 15] v v f f1 → mG E g0 d v f1 g → AW p l e { frames := 3, cells := 0, slots := 0, locals := 40 * 3 } s m args below meth c E 3 (aw_Z E (aw_Pv (fun g2 n2 => n2 = n ∧ ∃ v2 f2, mG E g0 d v2 f2 g2 ∧ mfr [] [14, 15] v v2 f f2 ∧ mPs rs 5 (f2 14) (f2 15))) below args s 0 0) 0 0 g n 31 [some (.ref d), some (.int 0), some (.int (nI k))] [] := by
    intro j
    induction j with
    | zero =>
      intro f1 g k hk hk2 hc hp hf1 hM
      have hR1 : mL (f1 13) 0 rs := by rw [hf1.2 13 (by decide)]; exact hR
      refine aw_aload_0 S d_Md_split_31 ?_
      refine aw_iload_2 S d_Md_split_32 ?_
      refine aw_callViR S (ev_Md_refAt k hM h7 hR1 hr (by omega)) mb_Md_refAt mi_Md_refAt n_ml_Md_112 d_Md_split_33 I_Md hM.2.1 rfl rfl rfl ?_
      refine aw_callSiR S (ev_Md_isLetter (rs.getD k (-1))) mb_Md_isLetter n_st_Md_isLetter n_ml_Md_116 d_Md_split_36 rfl rfl ?_
      refine aw_if_ne S 87 d_Md_split_39 (by decide) (fun c39 => ?_) (fun c39 => ?_)
      · have hsc : sp_sch (rs.getD k (-1)) = true := sch_let (aw_b_t c39)
        have := (csch_step hsc).2
        omega
      · refine aw_iload_2 S d_Md_split_42 ?_
        refine aw_if_le S 93 d_Md_split_43 (by decide) (fun c43 => ?_) (fun c43 => ?_)
        · have z : k = 0 := by rcases Nat.eq_zero_or_pos k with z | z; exact z; exact absurd c43 (nI_nle z (by omega))
          exact s93 f1 _ k hk2 (fun _ => col_no (by rw [← aw_b_f c39, z])) (fun q => by omega) hp hf1 hM
        · refine aw_aload_0 S d_Md_split_46 ?_
          refine aw_iload_2 S d_Md_split_47 ?_
          refine aw_callViR S (ev_Md_refAt k hM h7 hR1 hr (by omega)) mb_Md_refAt mi_Md_refAt n_ml_Md_112 d_Md_split_48 I_Md hM.2.1 rfl rfl rfl ?_
          refine aw_callSiR S (ev_Md_isDigit (rs.getD k (-1))) mb_Md_isDigit n_st_Md_isDigit n_ml_Md_85 d_Md_split_51 rfl rfl ?_
          refine aw_if_ne S 87 d_Md_split_54 (by decide) (fun c54 => ?_) (fun c54 => ?_)
          · have hsc : sp_sch (rs.getD k (-1)) = true := by simp only [sp_sch, sp_ld, aw_b_t c54, Bool.or_true, Bool.true_or]
            have := (csch_step hsc).2
            omega
          · refine aw_aload_0 S d_Md_split_57 ?_
            refine aw_iload_2 S d_Md_split_58 ?_
            refine aw_callViR S (ev_Md_refAt k hM h7 hR1 hr (by omega)) mb_Md_refAt mi_Md_refAt n_ml_Md_112 d_Md_split_59 I_Md hM.2.1 rfl rfl rfl ?_
            refine aw_bipush (v := 43) S d_Md_split_62 (by decide) ?_
            refine aw_icmp_eq S 87 d_Md_split_64 (by decide) (fun c64 => ?_) (fun c64 => ?_)
            · have hsc : sp_sch (rs.getD k (-1)) = true := by simp only [sp_sch, decide_eq_true c64, Bool.true_or, Bool.or_true]
              have := (csch_step hsc).2
              omega
            · refine aw_aload_0 S d_Md_split_67 ?_
              refine aw_iload_2 S d_Md_split_68 ?_
              refine aw_callViR S (ev_Md_refAt k hM h7 hR1 hr (by omega)) mb_Md_refAt mi_Md_refAt n_ml_Md_112 d_Md_split_69 I_Md hM.2.1 rfl rfl rfl ?_
              refine aw_bipush (v := 45) S d_Md_split_72 (by decide) ?_
              refine aw_icmp_eq S 87 d_Md_split_74 (by decide) (fun c74 => ?_) (fun c74 => ?_)
              · have hsc : sp_sch (rs.getD k (-1)) = true := by simp only [sp_sch, decide_eq_true c74, Bool.true_or, Bool.or_true]
                have := (csch_step hsc).2
                omega
              · refine aw_aload_0 S d_Md_split_77 ?_
                refine aw_iload_2 S d_Md_split_78 ?_
                refine aw_callViR S (ev_Md_refAt k hM h7 hR1 hr (by omega)) mb_Md_refAt mi_Md_refAt n_ml_Md_112 d_Md_split_79 I_Md hM.2.1 rfl rfl rfl ?_
                refine aw_bipush (v := 46) S d_Md_split_82 (by decide) ?_
                refine aw_icmp_ne S 93 d_Md_split_84 (by decide) (fun c84 => ?_) (fun c84 => ?_)
                · have hsc : sp_sch (rs.getD k (-1)) = false := by simp only [sp_sch, sp_ld, aw_b_f c39, aw_b_f c54, decide_eq_false c64, decide_eq_false c74, decide_eq_false c84, Bool.or_self]
                  have hk0 : k ≠ 0 := fun z => absurd (by rw [z]; decide) c43
                  refine s93 f1 _ k hk2 (fun z => absurd z hk0) (fun _ => ?_) hp hf1 hM
                  rcases hc with q | q
                  · exact absurd q hk0
                  · rw [← q, csch_end hsc]
                · have hsc : sp_sch (rs.getD k (-1)) = true := by simp only [sp_sch, decide_eq_true c84, Bool.true_or, Bool.or_true]
                  have := (csch_step hsc).2
                  omega
    | succ j ih =>
      intro f1 g k hk hk2 hc hp hf1 hM
      have hR1 : mL (f1 13) 0 rs := by rw [hf1.2 13 (by decide)]; exact hR
      have s87 : sp_sch (rs.getD k (-1)) = true → (k = 0 → sp_let (rs.getD k (-1)) = true) → AW p l e { frames := 3, cells := 0, slots := 0, locals := 40 * 3 } s m args below meth c E 3 (aw_Z E (aw_Pv (fun g2 n2 => n2 = n ∧ ∃ v2 f2, mG E g0 d v2 f2 g2 ∧ mfr [] [14, 15] v v2 f f2 ∧ mPs rs 5 (f2 14) (f2 15))) below args s 0 0) 0 0 g n 87 [some (.ref d), some (.int 0), some (.int (nI k))] [] := by
        intro hsc hk0
        refine aw_iinc_2 (v := nI (k + 1)) S d_Md_split_87 ((nI_succ (k)).symm) ?_
        refine aw_goto S 31 d_Md_split_90 (by decide) ?_
        have hkl : k < rs.length := (csch_step hsc).2
        refine ih f1 _ (k + 1) (by omega) (by omega) (Or.inr ?_) hp hf1 hM
        rcases Nat.eq_zero_or_pos k with z | z
        · subst z; exact (col_yes (hk0 rfl)).1.symm
        · rcases hc with q | q
          · omega
          · rw [← q]; exact (csch_step hsc).1.symm
      refine aw_aload_0 S d_Md_split_31 ?_
      refine aw_iload_2 S d_Md_split_32 ?_
      refine aw_callViR S (ev_Md_refAt k hM h7 hR1 hr (by omega)) mb_Md_refAt mi_Md_refAt n_ml_Md_112 d_Md_split_33 I_Md hM.2.1 rfl rfl rfl ?_
      refine aw_callSiR S (ev_Md_isLetter (rs.getD k (-1))) mb_Md_isLetter n_st_Md_isLetter n_ml_Md_116 d_Md_split_36 rfl rfl ?_
      refine aw_if_ne S 87 d_Md_split_39 (by decide) (fun c39 => ?_) (fun c39 => ?_)
      · exact s87 (sch_let (aw_b_t c39)) (fun _ => aw_b_t c39)
      · refine aw_iload_2 S d_Md_split_42 ?_
        refine aw_if_le S 93 d_Md_split_43 (by decide) (fun c43 => ?_) (fun c43 => ?_)
        · have z : k = 0 := by rcases Nat.eq_zero_or_pos k with z | z; exact z; exact absurd c43 (nI_nle z (by omega))
          exact s93 f1 _ k hk2 (fun _ => col_no (by rw [← aw_b_f c39, z])) (fun q => by omega) hp hf1 hM
        · refine aw_aload_0 S d_Md_split_46 ?_
          refine aw_iload_2 S d_Md_split_47 ?_
          refine aw_callViR S (ev_Md_refAt k hM h7 hR1 hr (by omega)) mb_Md_refAt mi_Md_refAt n_ml_Md_112 d_Md_split_48 I_Md hM.2.1 rfl rfl rfl ?_
          refine aw_callSiR S (ev_Md_isDigit (rs.getD k (-1))) mb_Md_isDigit n_st_Md_isDigit n_ml_Md_85 d_Md_split_51 rfl rfl ?_
          refine aw_if_ne S 87 d_Md_split_54 (by decide) (fun c54 => ?_) (fun c54 => ?_)
          · exact s87 (by simp only [sp_sch, sp_ld, aw_b_t c54, Bool.or_true, Bool.true_or]) (fun z => absurd (by rw [z]; decide) c43)
          · refine aw_aload_0 S d_Md_split_57 ?_
            refine aw_iload_2 S d_Md_split_58 ?_
            refine aw_callViR S (ev_Md_refAt k hM h7 hR1 hr (by omega)) mb_Md_refAt mi_Md_refAt n_ml_Md_112 d_Md_split_59 I_Md hM.2.1 rfl rfl rfl ?_
            refine aw_bipush (v := 43) S d_Md_split_62 (by decide) ?_
            refine aw_icmp_eq S 87 d_Md_split_64 (by decide) (fun c64 => ?_) (fun c64 => ?_)
            · exact s87 (by simp only [sp_sch, decide_eq_true c64, Bool.true_or, Bool.or_true]) (fun z => absurd (by rw [z]; decide) c43)
            · refine aw_aload_0 S d_Md_split_67 ?_
              refine aw_iload_2 S d_Md_split_68 ?_
              refine aw_callViR S (ev_Md_refAt k hM h7 hR1 hr (by omega)) mb_Md_refAt mi_Md_refAt n_ml_Md_112 d_Md_split_69 I_Md hM.2.1 rfl rfl rfl ?_
              refine aw_bipush (v := 45) S d_Md_split_72 (by decide) ?_
              refine aw_icmp_eq S 87 d_Md_split_74 (by decide) (fun c74 => ?_) (fun c74 => ?_)
              · exact s87 (by simp only [sp_sch, decide_eq_true c74, Bool.true_or, Bool.or_true]) (fun z => absurd (by rw [z]; decide) c43)
              · refine aw_aload_0 S d_Md_split_77 ?_
                refine aw_iload_2 S d_Md_split_78 ?_
                refine aw_callViR S (ev_Md_refAt k hM h7 hR1 hr (by omega)) mb_Md_refAt mi_Md_refAt n_ml_Md_112 d_Md_split_79 I_Md hM.2.1 rfl rfl rfl ?_
                refine aw_bipush (v := 46) S d_Md_split_82 (by decide) ?_
                refine aw_icmp_ne S 93 d_Md_split_84 (by decide) (fun c84 => ?_) (fun c84 => ?_)
                · have hsc : sp_sch (rs.getD k (-1)) = false := by simp only [sp_sch, sp_ld, aw_b_f c39, aw_b_f c54, decide_eq_false c64, decide_eq_false c74, decide_eq_false c84, Bool.or_self]
                  have hk0 : k ≠ 0 := fun z => absurd (by rw [z]; decide) c43
                  refine s93 f1 _ k hk2 (fun z => absurd z hk0) (fun _ => ?_) hp hf1 hM
                  rcases hc with q | q
                  · exact absurd q hk0
                  · rw [← q, csch_end hsc]
                · exact s87 (by simp only [sp_sch, decide_eq_true c84, Bool.true_or, Bool.or_true]) (fun z => absurd (by rw [z]; decide) c43)
  have l2 : ∀ (j k : Nat) (f1 : Nat → Nat → Int32) (g : AH), k + j = 5 → (∀ w, w < k → f1 14 w = -1 ∧ f1 15 w = -1) → mfr [] [14, 15] v v f f1 → mG E g0 d v f1 g → AW p l e { frames := 3, cells := 0, slots := 0, locals := 40 * 3 } s m args below meth c E 3 (aw_Z E (aw_Pv (fun g2 n2 => n2 = n ∧ ∃ v2 f2, mG E g0 d v2 f2 g2 ∧ mfr [] [14, 15] v v2 f f2 ∧ mPs rs 5 (f2 14) (f2 15))) below args s 0 0) 0 0 g n 2 [some (.ref d), some (.int (nI k)), none] [] := by
    intro j
    induction j with
    | zero =>
      intro k f1 g hk h hf1 hM
      refine aw_iload_1 S d_Md_split_2 ?_
      refine aw_iconst (v := 5) S d_Md_split_3 (by decide) ?_
      refine aw_icmp_ge S 27 d_Md_split_4 (by decide) (fun c4 => ?_) (fun c4 => ?_)
      · refine aw_iconst (v := 0) S d_Md_split_27 (by decide) ?_
        refine aw_istore_1 S d_Md_split_28 ?_
        refine aw_iconst (v := 0) S d_Md_split_29 (by decide) ?_
        refine aw_topi nI_0.symm ?_
        refine aw_istore_2 S d_Md_split_30 ?_
        exact l31 rs.length f1 _ 0 (by omega) (by omega) (Or.inl rfl) ⟨fun w hw => absurd hw (Nat.not_lt_zero w), fun w _ hw => h w (by omega)⟩ hf1 hM
      · exact absurd (nI_le (a := 5) (by omega) (by omega)) c4
    | succ j ih =>
      intro k f1 g hk h hf1 hM
      refine aw_iload_1 S d_Md_split_2 ?_
      refine aw_iconst (v := 5) S d_Md_split_3 (by decide) ?_
      refine aw_icmp_ge S 27 d_Md_split_4 (by decide) (fun c4 => ?_) (fun c4 => ?_)
      · exact absurd c4 (nI_ge (b := 5) (by omega) (by omega))
      · refine aw_aload_0 S d_Md_split_7 ?_
        refine aw_getf S I_Md 22 hM.2.1 n_fl_Md_56 d_Md_split_8 rfl (by decide) ?_
        refine aw_iload_1 S d_Md_split_11 ?_
        refine aw_iconst (v := -1) S d_Md_split_12 (by decide) ?_
        refine aw_mst S hM 14 (by decide) (show _ < 5 by omega) d_Md_split_13 (fun g_ hM => ?_)
        refine aw_aload_0 S d_Md_split_14 ?_
        refine aw_getf S I_Md 23 hM.2.1 n_fl_Md_59 d_Md_split_15 rfl (by decide) ?_
        refine aw_iload_1 S d_Md_split_18 ?_
        refine aw_iconst (v := -1) S d_Md_split_19 (by decide) ?_
        refine aw_mst S hM 15 (by decide) (show _ < 5 by omega) d_Md_split_20 (fun g_ hM => ?_)
        refine aw_iinc_1 (v := nI (k + 1)) S d_Md_split_21 ((nI_succ (k)).symm) ?_
        refine aw_goto S 2 d_Md_split_24 (by decide) ?_
        refine ih (k + 1) _ _ (by omega) (fun w hw => ?_) ((hf1.f (by decide)).f (by decide)) hM
        have e1 : ∀ F : Nat → Int32, F w = -1 ∨ w = k → upd F k (-1) w = -1 := fun F z => by
          by_cases q : w = k
          · subst q; exact upd_s
          · rw [upd_n q]; exact z.resolve_right q
        have z : w < k ∨ w = k := by omega
        exact ⟨e1 _ (z.imp (fun q => (h w q).1) id), e1 _ (z.imp (fun q => (h w q).2) id)⟩
  refine aw_iconst (v := 0) S d_Md_split_0 (by decide) ?_
  refine aw_topi nI_0.symm ?_
  refine aw_istore_1 S d_Md_split_1 ?_
  exact l2 5 0 f _ rfl (fun w hw => absurd hw (Nat.not_lt_zero w)) mfr.rf hM
