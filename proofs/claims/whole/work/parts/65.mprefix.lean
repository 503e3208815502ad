/-! the reference: prefix -/
theorem pfF_lt {nm : List Int32} : ∀ {ps : List Pfv} {k i : Nat}, sp_pfF nm ps k = some i → k ≤ i ∧ i < k + ps.length := by
  intro ps
  induction ps with
  | nil => intro k i h; cases h
  | cons u r ih =>
    intro k i h
    rw [sp_pfF] at h
    split at h
    · cases h; simp
    · have := ih h; simp; omega
theorem mSt.setp {v : Nat → Int32} {f : Nat → Nat → Int32} {tape : List Int32} {ts : List Tmv} {bt : Int32} {ps : List Pfv} {pr : List Int32} {j i : Nat} (h : mSt v f tape ts bt ps pr) (hj : j < ps.length) : mSt v (fu f 9 (upd (f 9) j (nI i))) tape ts bt (ps.set j ((pfG ps j).1, i)) pr := by
  obtain ⟨⟨tl, t0, tL⟩, ⟨nl, n1, nT⟩, b2, ⟨pl, p3, pP⟩, ⟨ql, q6, qL⟩⟩ := h
  refine ⟨⟨tl, t0, tL⟩, ⟨nl, n1, nT⟩, b2, ⟨by simpa using pl, by simpa using p3, fun q hq => ?_⟩, ⟨ql, q6, qL⟩⟩
  rw [List.length_set] at hq
  by_cases e : j = q
  · subst e
    rw [pfG_set hj]
    obtain ⟨a1, a2, a3, -⟩ := pP j hj
    exact ⟨a1, a2, a3, upd_s⟩
  · rw [pfG_ne e]
    obtain ⟨a1, a2, a3, a4⟩ := pP q hq
    exact ⟨a1, a2, a3, (upd_n (show q ≠ j from fun z => e z.symm)).trans a4⟩
theorem mSt.addp {v v2 : Nat → Int32} {f f2 : Nat → Nat → Int32} {tape : List Int32} {ts : List Tmv} {bt : Int32} {ps : List Pfv} {pr : List Int32} {w : Pfv} (h : mSt v f tape ts bt ps pr) (hL : ps.length < 8) (hv : ∀ j, j ≠ 3 → v2 j = v j) (hv1 : v2 3 = nI (ps.length + 1)) (hf : ∀ k, k ∉ [7, 8, 9] → f2 k = f k)
    (h1 : ∀ q, q < ps.length → f2 7 q = f 7 q ∧ f2 9 q = f 9 q) (h8 : ∀ q, q < 6 * ps.length → f2 8 q = f 8 q) (hP : mP f2 ps.length w) : mSt v2 f2 tape ts bt (ps ++ [w]) pr := by
  obtain ⟨⟨tl, t0, tL⟩, ⟨nl, n1, nT⟩, b2, ⟨pl, p3, pP⟩, ⟨ql, q6, qL⟩⟩ := h
  refine ⟨⟨tl, (hv 0 (by decide)).trans t0, by rw [hf 0 (by decide)]; exact tL⟩, ⟨nl, (hv 1 (by decide)).trans n1, fun i hi => ?_⟩, (hv 2 (by decide)).trans b2, ⟨by simp; omega, by simpa using hv1, fun j hj => ?_⟩, ⟨ql, (hv 6 (by decide)).trans q6, by rw [hf 12 (by decide)]; exact qL⟩⟩
  · unfold mT
    rw [hf 1 (by decide), hf 2 (by decide), hf 3 (by decide), hf 4 (by decide), hf 5 (by decide), hf 6 (by decide)]
    exact nT i hi
  · by_cases e : j = ps.length
    · subst e; rw [pfG_new]; exact hP
    · have hj : j < ps.length := by rw [List.length_append, List.length_singleton] at hj; omega
      rw [pfG_app hj]
      obtain ⟨a1, a2, a3, a4⟩ := pP j hj
      exact ⟨(h1 j hj).1.trans a1, a2, a3.eqv (fun q hq => h8 _ (by omega)), (h1 j hj).2.trans a4⟩
set_option maxRecDepth 100000 in
set_option maxHeartbeats 4000000 in
theorem ev_Md_prefix {l : Launch} {E : aw_E} {g : AH} {n : Nat} {g0 : AH} {d : Nat} {v : Nat → Int32} {f : Nat → Nat → Int32} {tape : List Int32} {ts : List Tmv} {bt : Int32} {ps : List Pfv} {pr : List Int32} (a0 : Int32) (hM : mG E g0 d v f g) (hs : mSt v f tape ts bt ps pr) : EV l E 3 0 0 y_Md_prefix c_Md_prefix 7 (some .int) g n [.ref d, .int a0] (aw_Pi (fun r_ g2 n2 => r_ = op_preR tape ts ps a0 ∧ n2 = n ∧ mS E g0 d g2 ([]) (ts) (bt) (op_preP tape ts ps a0) (pr))) := by
  obtain ⟨⟨tl, t0, tL⟩, ⟨nl, n1, nT⟩, b2, ⟨pl, p3, pP⟩, ⟨ql, q6, qL⟩⟩ := id hs
  refine aw_enter "AddressTermsModel" [some (.ref d), some (.int a0), none, none, none, none, none] (by decide) rfl rfl (Nat.le_of_ble_eq_true rfl) ?_
  intro p e s m args below meth c S hnm
  have l200 : ∀ (j k i : Nat) (f1 : Nat → Nat → Int32) (x3 : Int32) (x5 x6 : Option Value) (g : AH), mG E g0 d (upd v 0 0) f1 g → i < ts.length → a0 = nI i → ixK ts 0 a0 = some i → sp_name tape = true → tape.length ≤ 6 → ps.length < 8 → sp_pfF tape ps 0 = none → k + j = tape.length → (∀ q, q ≠ 8 → f1 q = fu f 7 (upd (f 7) ps.length (nI tape.length)) q) → (∀ q, q < 6 * ps.length → f1 8 q = f 8 q) → mL (f1 8) (6 * ps.length) (tape.take k) → AW p l e { frames := 3, cells := 0, slots := 0, locals := 40 * 3 } s m args below meth c E 7 (aw_Z E (aw_Pi (fun r_ g2 n2 => r_ = op_preR tape ts ps a0 ∧ n2 = n ∧ mS E g0 d g2 ([]) (ts) (bt) (op_preP tape ts ps a0) (pr))) below args s 0 0) 0 0 g n 200 [some (.ref d), some (.int (nI i)), some (.int (nI tape.length)), some (.int x3), some (.int (nI k)), x5, x6] [] := by
    intro j
    induction j with
    | zero =>
      intro k i f1 x3 x5 x6 g hM hi ha hx hnm h6 hL hpf hk h1 h2 h3
      rw [List.take_of_length_le (by omega)] at h3
      refine aw_iload_4 S d_Md_prefix_200 ?_
      refine aw_iload_2 S d_Md_prefix_202 ?_
      refine aw_icmp_ge S 234 d_Md_prefix_203 (by decide) (fun c203 => ?_) (fun c203 => ?_)
      · refine aw_aload_0 S d_Md_prefix_234 ?_
        refine aw_getf S I_Md 13 hM.2.1 n_fl_Md_41 d_Md_prefix_235 rfl (by decide) ?_
        refine aw_aload_0 S d_Md_prefix_238 ?_
        refine aw_getf S I_Md 10 hM.2.1 n_fl_Md_187 d_Md_prefix_239 rfl (by decide) ?_
        refine aw_topi p3 ?_
        refine aw_iload_1 S d_Md_prefix_242 ?_
        refine aw_mst S hM 9 (by decide) (show _ < 8 by omega) d_Md_prefix_243 (fun g_ hM => ?_)
        refine aw_aload_0 S d_Md_prefix_244 ?_
        refine aw_dup S d_Md_prefix_245 rfl ?_
        refine aw_getf S I_Md 10 hM.2.1 n_fl_Md_187 d_Md_prefix_246 rfl (by decide) ?_
        refine aw_topi p3 ?_
        refine aw_iconst (v := 1) S d_Md_prefix_249 (by decide) ?_
        refine aw_iadd S d_Md_prefix_250 ?_
        refine aw_topi (nI_1 _) ?_
        refine aw_mput3 S hM n_fl_Md_187 d_Md_prefix_251 (fun g_ hM => ?_)
        refine aw_iconst (v := 1) S d_Md_prefix_254 (by decide) ?_
        refine aw_iret S rfl d_Md_prefix_255 ?_ (by decide) (by decide)
        refine ⟨?_, rfl, _, _, hM, ?_⟩
        · rw [op_preR, hx]; dsimp only; rw [hnm, if_pos rfl, hpf]; dsimp only; rw [if_pos hL]
        rw [op_preP, hx]
        dsimp only
        rw [hnm, if_pos rfl, hpf]
        dsimp only
        rw [if_pos hL]
        refine hs.clr.addp hL (fun q z => upd_n z) upd_s (fun q z => ?_) (fun q z => ?_) (fun q z => h2 q z) ⟨?_, h6, h3, ?_⟩
        · simp only [List.mem_cons, List.not_mem_nil, or_false, not_or] at z
          rw [fu_n z.2.2, h1 q z.2.1, fu_n z.1]
        · refine ⟨?_, ?_⟩
          · rw [fu_n (by decide), h1 7 (by decide), fu_s, upd_n (by omega)]
          · rw [fu_s, upd_n (by omega), h1 9 (by decide), fu_n (by decide)]
        · rw [fu_n (by decide), h1 7 (by decide), fu_s, upd_s]
        · rw [fu_s, upd_s]
      · exact absurd (nI_le (by omega) (by omega)) c203
    | succ j ih =>
      intro k i f1 x3 x5 x6 g hM hi ha hx hnm h6 hL hpf hk h1 h2 h3
      refine aw_iload_4 S d_Md_prefix_200 ?_
      refine aw_iload_2 S d_Md_prefix_202 ?_
      refine aw_icmp_ge S 234 d_Md_prefix_203 (by decide) (fun c203 => ?_) (fun c203 => ?_)
      · exact absurd c203 (nI_ge (by omega) (by omega))
      · refine aw_aload_0 S d_Md_prefix_206 ?_
        refine aw_getf S I_Md 12 hM.2.1 n_fl_Md_38 d_Md_prefix_207 rfl (by decide) ?_
        refine aw_bipush (v := 6) S d_Md_prefix_210 (by decide) ?_
        refine aw_aload_0 S d_Md_prefix_212 ?_
        refine aw_getf S I_Md 10 hM.2.1 n_fl_Md_187 d_Md_prefix_213 rfl (by decide) ?_
        refine aw_topi p3 ?_
        refine aw_imul S d_Md_prefix_216 ?_
        refine aw_iload_4 S d_Md_prefix_217 ?_
        refine aw_iadd S d_Md_prefix_219 ?_
        refine aw_topi (ix6 (ps.length) (k)) ?_
        refine aw_aload_0 S d_Md_prefix_220 ?_
        refine aw_getf S I_Md 1 hM.2.1 n_fl_Md_7 d_Md_prefix_221 rfl (by decide) ?_
        refine aw_iload_4 S d_Md_prefix_224 ?_
        refine aw_mld S hM 0 (by decide) ((congrFun (h1 0 (by decide)) _).trans (tL.at0 (by omega))) (show _ < 96 by omega) d_Md_prefix_226 ?_
        refine aw_mst S hM 8 (by decide) (show _ < 48 by omega) d_Md_prefix_227 (fun g_ hM => ?_)
        refine aw_iinc_4 (v := nI (k + 1)) S d_Md_prefix_228 ((nI_succ (k)).symm) ?_
        refine aw_goto S 200 d_Md_prefix_231 (by decide) ?_
        refine ih (k + 1) i _ _ _ _ _ hM hi ha hx hnm h6 hL hpf (by omega) (fun q z => (fu_n z).trans (h1 q z)) (fun q z => ?_) ?_
        · rw [fu_s, upd_n (by omega)]; exact h2 q z
        · rw [fu_s]; exact h3.step (by omega) rfl
  have l77 : ∀ (j q i : Nat) (x3 : Int32) (x5 x6 : Option Value) (g : AH), mG E g0 d (upd v 0 0) f g → i < ts.length → a0 = nI i → ixK ts 0 a0 = some i → sp_name tape = true → tape.length ≤ 6 → q + j = ps.length → sp_pfF tape (ps.drop q) q = sp_pfF tape ps 0 → AW p l e { frames := 3, cells := 0, slots := 0, locals := 40 * 3 } s m args below meth c E 7 (aw_Z E (aw_Pi (fun r_ g2 n2 => r_ = op_preR tape ts ps a0 ∧ n2 = n ∧ mS E g0 d g2 ([]) (ts) (bt) (op_preP tape ts ps a0) (pr))) below args s 0 0) 0 0 g n 77 [some (.ref d), some (.int (nI i)), some (.int (nI tape.length)), some (.int x3), some (.int (nI q)), x5, x6] [] := by
    intro j
    induction j with
    | zero =>
      intro q i x3 x5 x6 g hM hi ha hx hnm h6 hq hv
      rw [List.drop_eq_nil_iff.mpr (show ps.length ≤ q by omega), sp_pfF] at hv
      refine aw_iload_4 S d_Md_prefix_77 ?_
      refine aw_aload_0 S d_Md_prefix_79 ?_
      refine aw_getf S I_Md 10 hM.2.1 n_fl_Md_187 d_Md_prefix_80 rfl (by decide) ?_
      refine aw_topi p3 ?_
      refine aw_icmp_ge S 175 d_Md_prefix_83 (by decide) (fun c83 => ?_) (fun c83 => ?_)
      · refine aw_aload_0 S d_Md_prefix_175 ?_
        refine aw_getf S I_Md 10 hM.2.1 n_fl_Md_187 d_Md_prefix_176 rfl (by decide) ?_
        refine aw_topi p3 ?_
        refine aw_bipush (v := 8) S d_Md_prefix_179 (by decide) ?_
        refine aw_icmp_ne S 187 d_Md_prefix_181 (by decide) (fun c181 => ?_) (fun c181 => ?_)
        · have hL : ps.length < 8 := Nat.lt_of_le_of_ne pl (fun z => c181 (by rw [z]; rfl))
          refine aw_aload_0 S d_Md_prefix_187 ?_
          refine aw_getf S I_Md 11 hM.2.1 n_fl_Md_35 d_Md_prefix_188 rfl (by decide) ?_
          refine aw_aload_0 S d_Md_prefix_191 ?_
          refine aw_getf S I_Md 10 hM.2.1 n_fl_Md_187 d_Md_prefix_192 rfl (by decide) ?_
          refine aw_topi p3 ?_
          refine aw_iload_2 S d_Md_prefix_195 ?_
          refine aw_mst S hM 7 (by decide) (show _ < 8 by omega) d_Md_prefix_196 (fun g_ hM => ?_)
          refine aw_iconst (v := 0) S d_Md_prefix_197 (by decide) ?_
          refine aw_topi nI_0.symm ?_
          refine aw_istore_4 S d_Md_prefix_198 ?_
          exact l200 _ 0 i _ _ _ _ _ hM hi ha hx hnm h6 hL hv.symm (Nat.zero_add _) (fun q _ => rfl) (fun q _ => rfl) (by rw [List.take_zero]; exact mL.nil)
        · refine aw_bipush (v := -3) S d_Md_prefix_184 (by decide) ?_
          refine aw_iret S rfl d_Md_prefix_186 ?_ (by decide) (by decide)
          have hL : ps.length = 8 := (nI_eq (b := 8) (by omega) (by omega)).mp c181
          refine ⟨?_, rfl, _, f, hM, ?_⟩
          · rw [op_preR, hx]; dsimp only; rw [hnm, if_pos rfl, ← hv]; dsimp only; rw [if_neg (by omega)]
          · rw [op_preP, hx]; dsimp only; rw [hnm, if_pos rfl, ← hv]; dsimp only; rw [if_neg (by omega)]; exact hs.clr
      · exact absurd (nI_le (by omega) (by omega)) c83
    | succ j ih =>
      intro q i x3 x5 x6 g hM hi ha hx hnm h6 hq hv
      have hql : q < ps.length := by omega
      rw [pdrop hql, sp_pfF] at hv
      have hP := pP q hql
      have hP6 := hP.2.1
      have s154 : ∀ (b : Bool) (x6 : Option Value), (b = true ↔ (pfG ps q).1 = tape) → AW p l e { frames := 3, cells := 0, slots := 0, locals := 40 * 3 } s m args below meth c E 7 (aw_Z E (aw_Pi (fun r_ g2 n2 => r_ = op_preR tape ts ps a0 ∧ n2 = n ∧ mS E g0 d g2 ([]) (ts) (bt) (op_preP tape ts ps a0) (pr))) below args s 0 0) 0 0 g n 154 [some (.ref d), some (.int (nI i)), some (.int (nI tape.length)), some (.int x3), some (.int (nI q)), some (.int (aw_b b)), x6] [] := by
        intro b x6 hb
        refine aw_iload_5 S d_Md_prefix_154 ?_
        refine aw_if_eq S 169 d_Md_prefix_156 (by decide) (fun c156 => ?_) (fun c156 => ?_)
        · refine aw_iinc_4 (v := nI (q + 1)) S d_Md_prefix_169 ((nI_succ (q)).symm) ?_
          refine aw_goto S 77 d_Md_prefix_172 (by decide) ?_
          rw [if_neg (fun z => by rw [hb.mpr (cmp_eq.mp z)] at c156; exact absurd c156 (by decide))] at hv
          exact ih (q + 1) i _ _ _ _ hM hi ha hx hnm h6 (by omega) hv
        · refine aw_aload_0 S d_Md_prefix_159 ?_
          refine aw_getf S I_Md 13 hM.2.1 n_fl_Md_41 d_Md_prefix_160 rfl (by decide) ?_
          refine aw_iload_4 S d_Md_prefix_163 ?_
          refine aw_iload_1 S d_Md_prefix_165 ?_
          refine aw_mst S hM 9 (by decide) (show _ < 8 by omega) d_Md_prefix_166 (fun g_ hM => ?_)
          refine aw_iconst (v := 0) S d_Md_prefix_167 (by decide) ?_
          refine aw_iret S rfl d_Md_prefix_168 ?_ (by decide) (by decide)
          have e := hb.mp (aw_b_t c156)
          rw [if_pos (cmp_eq.mpr e)] at hv
          refine ⟨?_, rfl, _, _, hM, ?_⟩
          · rw [op_preR, hx]; dsimp only; rw [hnm, if_pos rfl, ← hv]
          · rw [op_preP, hx]; dsimp only; rw [hnm, if_pos rfl, ← hv]; exact hs.clr.setp hql
      have s107f : ∀ (k : Nat), ¬ (pfG ps q).1 = tape → AW p l e { frames := 3, cells := 0, slots := 0, locals := 40 * 3 } s m args below meth c E 7 (aw_Z E (aw_Pi (fun r_ g2 n2 => r_ = op_preR tape ts ps a0 ∧ n2 = n ∧ mS E g0 d g2 ([]) (ts) (bt) (op_preP tape ts ps a0) (pr))) below args s 0 0) 0 0 g n 107 [some (.ref d), some (.int (nI i)), some (.int (nI tape.length)), some (.int x3), some (.int (nI q)), some (.int 0), some (.int (nI k))] [] := by
        intro k hne
        refine aw_iload_6 S d_Md_prefix_107 ?_
        refine aw_iload_2 S d_Md_prefix_109 ?_
        refine aw_icmp_ge S 154 d_Md_prefix_110 (by decide) (fun c110 => ?_) (fun c110 => ?_)
        · exact s154 false _ ⟨fun h => (by cases h), fun h => absurd h hne⟩
        · refine aw_iload_5 S d_Md_prefix_113 ?_
          refine aw_if_eq S 154 d_Md_prefix_115 (by decide) (fun c115 => ?_) (fun c115 => ?_)
          · exact s154 false _ ⟨fun h => (by cases h), fun h => absurd h hne⟩
          · exact absurd rfl c115
      have l107 : ∀ (j2 k : Nat), k + j2 = tape.length → (pfG ps q).1.length = tape.length → (∀ z, z < k → (pfG ps q).1.getD z (-1) = tape.getD z (-1)) → AW p l e { frames := 3, cells := 0, slots := 0, locals := 40 * 3 } s m args below meth c E 7 (aw_Z E (aw_Pi (fun r_ g2 n2 => r_ = op_preR tape ts ps a0 ∧ n2 = n ∧ mS E g0 d g2 ([]) (ts) (bt) (op_preP tape ts ps a0) (pr))) below args s 0 0) 0 0 g n 107 [some (.ref d), some (.int (nI i)), some (.int (nI tape.length)), some (.int x3), some (.int (nI q)), some (.int 1), some (.int (nI k))] [] := by
        intro j2
        induction j2 with
        | zero =>
          intro k hk e hz
          refine aw_iload_6 S d_Md_prefix_107 ?_
          refine aw_iload_2 S d_Md_prefix_109 ?_
          refine aw_icmp_ge S 154 d_Md_prefix_110 (by decide) (fun c110 => ?_) (fun c110 => ?_)
          · exact s154 true _ ⟨fun _ => getD_ext e (fun z h => hz z (by omega)), fun _ => rfl⟩
          · exact absurd (nI_le (by omega) (by omega)) c110
        | succ j2 ih2 =>
          intro k hk e hz
          refine aw_iload_6 S d_Md_prefix_107 ?_
          refine aw_iload_2 S d_Md_prefix_109 ?_
          refine aw_icmp_ge S 154 d_Md_prefix_110 (by decide) (fun c110 => ?_) (fun c110 => ?_)
          · exact absurd c110 (nI_ge (by omega) (by omega))
          · refine aw_iload_5 S d_Md_prefix_113 ?_
            refine aw_if_eq S 154 d_Md_prefix_115 (by decide) (fun c115 => ?_) (fun c115 => ?_)
            · exact absurd c115 (by decide)
            · refine aw_aload_0 S d_Md_prefix_118 ?_
              refine aw_getf S I_Md 12 hM.2.1 n_fl_Md_38 d_Md_prefix_119 rfl (by decide) ?_
              refine aw_bipush (v := 6) S d_Md_prefix_122 (by decide) ?_
              refine aw_iload_4 S d_Md_prefix_124 ?_
              refine aw_imul S d_Md_prefix_126 ?_
              refine aw_iload_6 S d_Md_prefix_127 ?_
              refine aw_iadd S d_Md_prefix_129 ?_
              refine aw_topi (ix6 (q) (k)) ?_
              refine aw_mld S hM 8 (by decide) (hP.2.2.1 k (by omega)) (show _ < 48 by omega) d_Md_prefix_130 ?_
              refine aw_aload_0 S d_Md_prefix_131 ?_
              refine aw_getf S I_Md 1 hM.2.1 n_fl_Md_7 d_Md_prefix_132 rfl (by decide) ?_
              refine aw_iload_6 S d_Md_prefix_135 ?_
              refine aw_mld S hM 0 (by decide) (tL.at0 (by omega)) (show _ < 96 by omega) d_Md_prefix_137 ?_
              refine aw_icmp_ne S 145 d_Md_prefix_138 (by decide) (fun c138 => ?_) (fun c138 => ?_)
              · refine aw_iconst (v := 0) S d_Md_prefix_145 (by decide) ?_
                refine aw_istore_5 S d_Md_prefix_146 ?_
                refine aw_iinc_6 (v := nI (k + 1)) S d_Md_prefix_148 ((nI_succ (k)).symm) ?_
                refine aw_goto S 107 d_Md_prefix_151 (by decide) ?_
                exact s107f _ (fun h => c138 (by rw [h]))
              · refine aw_iconst (v := 1) S d_Md_prefix_141 (by decide) ?_
                refine aw_goto S 146 d_Md_prefix_142 (by decide) ?_
                refine aw_istore_5 S d_Md_prefix_146 ?_
                refine aw_iinc_6 (v := nI (k + 1)) S d_Md_prefix_148 ((nI_succ (k)).symm) ?_
                refine aw_goto S 107 d_Md_prefix_151 (by decide) ?_
                exact ih2 (k + 1) (by omega) e (fun z y => by rcases Nat.lt_or_ge z k with h | h; exact hz z h; rw [show z = k by omega]; exact c138)
      refine aw_iload_4 S d_Md_prefix_77 ?_
      refine aw_aload_0 S d_Md_prefix_79 ?_
      refine aw_getf S I_Md 10 hM.2.1 n_fl_Md_187 d_Md_prefix_80 rfl (by decide) ?_
      refine aw_topi p3 ?_
      refine aw_icmp_ge S 175 d_Md_prefix_83 (by decide) (fun c83 => ?_) (fun c83 => ?_)
      · exact absurd c83 (nI_ge (by omega) (by omega))
      · refine aw_aload_0 S d_Md_prefix_86 ?_
        refine aw_getf S I_Md 11 hM.2.1 n_fl_Md_35 d_Md_prefix_87 rfl (by decide) ?_
        refine aw_iload_4 S d_Md_prefix_90 ?_
        refine aw_mld S hM 7 (by decide) (hP.1) (show _ < 8 by omega) d_Md_prefix_92 ?_
        refine aw_iload_2 S d_Md_prefix_93 ?_
        refine aw_icmp_ne S 101 d_Md_prefix_94 (by decide) (fun c94 => ?_) (fun c94 => ?_)
        · refine aw_iconst (v := 0) S d_Md_prefix_101 (by decide) ?_
          refine aw_istore_5 S d_Md_prefix_102 ?_
          refine aw_iconst (v := 0) S d_Md_prefix_104 (by decide) ?_
          refine aw_topi nI_0.symm ?_
          refine aw_istore_6 S d_Md_prefix_105 ?_
          exact s107f 0 (fun h => c94 (by rw [h]))
        · refine aw_iconst (v := 1) S d_Md_prefix_97 (by decide) ?_
          refine aw_goto S 102 d_Md_prefix_98 (by decide) ?_
          refine aw_istore_5 S d_Md_prefix_102 ?_
          refine aw_iconst (v := 0) S d_Md_prefix_104 (by decide) ?_
          refine aw_topi nI_0.symm ?_
          refine aw_istore_6 S d_Md_prefix_105 ?_
          exact l107 _ 0 (Nat.zero_add _) ((nI_eq (by omega) (by omega)).mp c94) (fun z h => absurd h (Nat.not_lt_zero z))
  have s68 : ∀ (b : Bool) (x4 : Option Value) (g : AH), mG E g0 d (upd v 0 0) f g → b = (decide (tape.length < 7) && (ixK ts 0 a0).isSome && tape.all sp_sm) → AW p l e { frames := 3, cells := 0, slots := 0, locals := 40 * 3 } s m args below meth c E 7 (aw_Z E (aw_Pi (fun r_ g2 n2 => r_ = op_preR tape ts ps a0 ∧ n2 = n ∧ mS E g0 d g2 ([]) (ts) (bt) (op_preP tape ts ps a0) (pr))) below args s 0 0) 0 0 g n 68 [some (.ref d), some (.int a0), some (.int (nI tape.length)), some (.int (aw_b b)), x4, none, none] [] := by
    intro b x4 g hM hb
    refine aw_iload_3 S d_Md_prefix_68 ?_
    refine aw_if_ne S 74 d_Md_prefix_69 (by decide) (fun c69 => ?_) (fun c69 => ?_)
    · refine aw_iconst (v := 0) S d_Md_prefix_74 (by decide) ?_
      refine aw_topi nI_0.symm ?_
      refine aw_istore_4 S d_Md_prefix_75 ?_
      have hb1 := hb.symm.trans (aw_b_t c69)
      rw [Bool.and_eq_true, Bool.and_eq_true] at hb1
      obtain ⟨i, hx⟩ := Option.isSome_iff_exists.mp hb1.1.2
      obtain ⟨hi, ha⟩ := ixOf_lt (by omega) (ixK_some hx).1
      have h7 : tape.length < 7 := of_decide_eq_true hb1.1.1
      have := l77 ps.length 0 i (aw_b b) none none _ hM hi ha hx (by rw [sp_name, hb1.2, decide_eq_true (show tape.length ≤ 6 by omega)]; rfl) (by omega) (Nat.zero_add _) rfl
      rw [← ha] at this
      exact this
    · refine aw_iconst (v := -1) S d_Md_prefix_72 (by decide) ?_
      refine aw_iret S rfl d_Md_prefix_73 ?_ (by decide) (by decide)
      have hb0 := hb.symm.trans (aw_b_f c69)
      have key : (ixK ts 0 a0 = none) ∨ ∃ i, ixK ts 0 a0 = some i ∧ sp_name tape = false := by
        cases hx : ixK ts 0 a0 with
        | none => exact Or.inl rfl
        | some i =>
          refine Or.inr ⟨i, rfl, ?_⟩
          rw [hx] at hb0
          rw [sp_name]
          by_cases h7 : tape.length < 7
          · rw [decide_eq_true h7] at hb0
            rw [show tape.all sp_sm = false from hb0, Bool.and_false]
          · rw [decide_eq_false (show ¬ tape.length ≤ 6 by omega), Bool.false_and]
      rcases key with hx | ⟨i, hx, hnm⟩
      · exact ⟨by rw [op_preR, hx], rfl, _, f, hM, by rw [op_preP, hx]; exact hs.clr⟩
      · refine ⟨?_, rfl, _, f, hM, ?_⟩
        · rw [op_preR, hx]; dsimp only; rw [hnm, if_neg (by decide)]
        · rw [op_preP, hx]; dsimp only; rw [hnm, if_neg (by decide)]; exact hs.clr
  have l33 : ∀ (j k : Nat) (b : Bool) (g : AH), mG E g0 d (upd v 0 0) f g → k + j = tape.length → (b && (tape.drop k).all sp_sm) = (decide (tape.length < 7) && (ixK ts 0 a0).isSome && tape.all sp_sm) → AW p l e { frames := 3, cells := 0, slots := 0, locals := 40 * 3 } s m args below meth c E 7 (aw_Z E (aw_Pi (fun r_ g2 n2 => r_ = op_preR tape ts ps a0 ∧ n2 = n ∧ mS E g0 d g2 ([]) (ts) (bt) (op_preP tape ts ps a0) (pr))) below args s 0 0) 0 0 g n 33 [some (.ref d), some (.int a0), some (.int (nI tape.length)), some (.int (aw_b b)), some (.int (nI k)), none, none] [] := by
    intro j
    induction j with
    | zero =>
      intro k b g hM hk hv
      rw [List.drop_eq_nil_iff.mpr (show tape.length ≤ k by omega), List.all_nil, Bool.and_true] at hv
      refine aw_iload_4 S d_Md_prefix_33 ?_
      refine aw_iload_2 S d_Md_prefix_35 ?_
      refine aw_icmp_ge S 68 d_Md_prefix_36 (by decide) (fun c36 => ?_) (fun c36 => ?_)
      · exact s68 b _ _ hM hv
      · exact absurd (nI_le (by omega) (by omega)) c36
    | succ j ih =>
      intro k b g hM hk hv
      rw [drop_cons (show k < tape.length by omega), List.all_cons] at hv
      refine aw_iload_4 S d_Md_prefix_33 ?_
      refine aw_iload_2 S d_Md_prefix_35 ?_
      refine aw_icmp_ge S 68 d_Md_prefix_36 (by decide) (fun c36 => ?_) (fun c36 => ?_)
      · exact absurd c36 (nI_ge (by omega) (by omega))
      · refine aw_iload_3 S d_Md_prefix_39 ?_
        refine aw_if_eq S 60 d_Md_prefix_40 (by decide) (fun c40 => ?_) (fun c40 => ?_)
        · refine aw_iconst (v := 0) S d_Md_prefix_60 (by decide) ?_
          refine aw_istore_3 S d_Md_prefix_61 ?_
          refine aw_iinc_4 (v := nI (k + 1)) S d_Md_prefix_62 ((nI_succ (k)).symm) ?_
          refine aw_goto S 33 d_Md_prefix_65 (by decide) ?_
          exact ih (k + 1) false _ hM (by omega) (by rw [← hv, aw_b_f c40]; rfl)
        · refine aw_aload_0 S d_Md_prefix_43 ?_
          refine aw_getf S I_Md 1 hM.2.1 n_fl_Md_7 d_Md_prefix_44 rfl (by decide) ?_
          refine aw_iload_4 S d_Md_prefix_47 ?_
          refine aw_mld S hM 0 (by decide) (tL.at0 (by omega)) (show _ < 96 by omega) d_Md_prefix_49 ?_
          refine aw_callSiR S (ev_Md_isSmall (tape.getD k (-1))) mb_Md_isSmall n_st_Md_isSmall n_ml_Md_81 d_Md_prefix_50 rfl rfl ?_
          refine aw_if_eq S 60 d_Md_prefix_53 (by decide) (fun c53 => ?_) (fun c53 => ?_)
          · refine aw_iconst (v := 0) S d_Md_prefix_60 (by decide) ?_
            refine aw_istore_3 S d_Md_prefix_61 ?_
            refine aw_iinc_4 (v := nI (k + 1)) S d_Md_prefix_62 ((nI_succ (k)).symm) ?_
            refine aw_goto S 33 d_Md_prefix_65 (by decide) ?_
            exact ih (k + 1) false _ hM (by omega) (by rw [← hv, aw_b_f c53, Bool.false_and, Bool.and_false])
          · refine aw_iconst (v := 1) S d_Md_prefix_56 (by decide) ?_
            refine aw_goto S 61 d_Md_prefix_57 (by decide) ?_
            refine aw_istore_3 S d_Md_prefix_61 ?_
            refine aw_iinc_4 (v := nI (k + 1)) S d_Md_prefix_62 ((nI_succ (k)).symm) ?_
            refine aw_goto S 33 d_Md_prefix_65 (by decide) ?_
            exact ih (k + 1) true _ hM (by omega) (by rw [← hv, aw_b_t c53, aw_b_t c40]; rfl)
  refine aw_aload_0 S d_Md_prefix_0 ?_
  refine aw_getf S I_Md 0 hM.2.1 n_fl_Md_90 d_Md_prefix_1 rfl (by decide) ?_
  refine aw_topi t0 ?_
  refine aw_istore_2 S d_Md_prefix_4 ?_
  refine aw_aload_0 S d_Md_prefix_5 ?_
  refine aw_iconst (v := 0) S d_Md_prefix_6 (by decide) ?_
  refine aw_mput0 S hM n_fl_Md_90 d_Md_prefix_7 (fun g_ hM => ?_)
  refine aw_iload_2 S d_Md_prefix_10 ?_
  refine aw_bipush (v := 7) S d_Md_prefix_11 (by decide) ?_
  refine aw_icmp_ge S 28 d_Md_prefix_13 (by decide) (fun c13 => ?_) (fun c13 => ?_)
  · refine aw_iconst (v := 0) S d_Md_prefix_28 (by decide) ?_
    refine aw_istore_3 S d_Md_prefix_29 ?_
    refine aw_iconst (v := 0) S d_Md_prefix_30 (by decide) ?_
    refine aw_topi nI_0.symm ?_
    refine aw_istore_4 S d_Md_prefix_31 ?_
    exact l33 _ 0 false _ hM (Nat.zero_add _) (by rw [decide_eq_false (show ¬ tape.length < 7 from Nat.not_lt.mpr ((nI_leI (a := 7) (by omega) (by omega)).mp c13))]; rfl)
  · refine aw_aload_0 S d_Md_prefix_16 ?_
    refine aw_iload_1 S d_Md_prefix_17 ?_
    refine aw_callViR S (ev_Md_isAddress a0 hM hs.clr) mb_Md_isAddress mi_Md_isAddress n_ml_Md_178 d_Md_prefix_18 I_Md hM.2.1 rfl rfl rfl ?_
    refine aw_if_eq S 28 d_Md_prefix_21 (by decide) (fun c21 => ?_) (fun c21 => ?_)
    · refine aw_iconst (v := 0) S d_Md_prefix_28 (by decide) ?_
      refine aw_istore_3 S d_Md_prefix_29 ?_
      refine aw_iconst (v := 0) S d_Md_prefix_30 (by decide) ?_
      refine aw_topi nI_0.symm ?_
      refine aw_istore_4 S d_Md_prefix_31 ?_
      exact l33 _ 0 false _ hM (Nat.zero_add _) (by rw [aw_b_f c21, Bool.and_false]; rfl)
    · refine aw_iconst (v := 1) S d_Md_prefix_24 (by decide) ?_
      refine aw_goto S 29 d_Md_prefix_25 (by decide) ?_
      refine aw_istore_3 S d_Md_prefix_29 ?_
      refine aw_iconst (v := 0) S d_Md_prefix_30 (by decide) ?_
      refine aw_topi nI_0.symm ?_
      refine aw_istore_4 S d_Md_prefix_31 ?_
      exact l33 _ 0 true _ hM (Nat.zero_add _) (by rw [aw_b_t c21, decide_eq_true (show tape.length < 7 from Nat.not_le.mp (fun z => c13 (nI_le (a := 7) z (by omega)))), List.drop_zero]; rfl)
