/-! the reference: find, note, label -/
def mE (u w : Tmv) : Prop := u.1 = w.1 ∧ mN u = mN w ∧ u.2.2.2.1 = w.2.2.2.1 ∧ u.2.2.2.2 = w.2.2.2.2
def mEb (u w : Tmv) : Bool := decide (u.1 = w.1) && (decide (mN u = mN w) && (decide (u.2.2.2.1 = w.2.2.2.1) && decide (u.2.2.2.2 = w.2.2.2.2)))
theorem mEb_iff {u w : Tmv} : mEb u w = true ↔ mE u w := by simp [mEb, mE]
def mfF (w : Tmv) : List Tmv → Nat → Option Nat
  | [], _ => none
  | u :: r, k => if mEb u w = true then some k else mfF w r (k + 1)
/-- the wanted term's text and tag stand in the rows -/
def mW (v : Nat → Int32) (f : Nat → Nat → Int32) (w : Tmv) : Prop := (w.2.2.2.1.length ≤ 100 ∧ v 4 = nI w.2.2.2.1.length ∧ mL (f 10) 0 w.2.2.2.1) ∧ (w.2.2.2.2.length ≤ 16 ∧ v 5 = nI w.2.2.2.2.length ∧ mL (f 11) 0 w.2.2.2.2)
theorem getD_ext {xs ys : List Int32} (hl : xs.length = ys.length) (h : ∀ k, k < xs.length → xs.getD k (-1) = ys.getD k (-1)) : xs = ys := by
  refine List.ext_getElem hl fun i h1 h2 => ?_
  have := h i h1
  rwa [getD_at h1, getD_at h2] at this
theorem mfF_lt {w : Tmv} : ∀ {ts : List Tmv} {k i : Nat}, mfF w ts k = some i → k ≤ i ∧ i < k + ts.length := by
  intro ts
  induction ts with
  | nil => intro k i h; cases h
  | cons u r ih =>
    intro k i h
    rw [mfF] at h
    split at h
    · cases h; simp
    · have := ih h; simp; omega
set_option maxRecDepth 100000 in
set_option maxHeartbeats 4000000 in
theorem ev_Md_find {l : Launch} {E : aw_E} {g : AH} {n : Nat} {g0 : AH} {d : Nat} {v : Nat → Int32} {f : Nat → Nat → Int32} {tape : List Int32} {ts : List Tmv} {bt : Int32} {ps : List Pfv} {pr : List Int32} {w : Tmv} (hM : mG E g0 d v f g) (hs : mSt v f tape ts bt ps pr) (hw : mW v f w) : EV l E 0 0 0 y_Md_find c_Md_find 6 (some .int) g n [.ref d, .int w.1, .int (mN w)] (aw_Pi (fun r_ g2 n2 => r_ = oi (mfF w ts 0) ∧ g2 = g ∧ n2 = n)) := by
  obtain ⟨⟨tl, t0, tL⟩, ⟨nl, n1, nT⟩, b2, ⟨pl, p3, pP⟩, ⟨ql, q6, qL⟩⟩ := id hs
  obtain ⟨⟨wl, w4, wL⟩, wl2, w5, wT⟩ := id hw
  refine aw_enter "AddressTermsModel" [some (.ref d), some (.int w.1), some (.int (mN w)), none, none, none] (by decide) rfl rfl (Nat.le_of_ble_eq_true rfl) ?_
  intro p e s m args below meth c S hnm
  have loop : ∀ (j t : Nat) (x y : Option Value), t + j = ts.length → mfF w (ts.drop t) t = mfF w ts 0 → AW p l e { frames := 0, cells := 0, slots := 0, locals := 40 * 0 } s m args below meth c E 6 (aw_Z E (aw_Pi (fun r_ g2 n2 => r_ = oi (mfF w ts 0) ∧ g2 = g ∧ n2 = n)) below args s 0 0) 0 0 g n 2 [some (.ref d), some (.int w.1), some (.int (mN w)), some (.int (nI t)), x, y] [] := by
    intro j
    induction j with
    | zero =>
      intro t x y ht hv
      rw [List.drop_eq_nil_iff.mpr (show ts.length ≤ t by omega), mfF] at hv
      refine aw_iload_3 S d_Md_find_2 ?_
      refine aw_aload_0 S d_Md_find_3 ?_
      refine aw_getf S I_Md 2 hM.2.1 n_fl_Md_74 d_Md_find_4 rfl (by decide) ?_
      refine aw_topi n1 ?_
      refine aw_icmp_ge S 180 d_Md_find_7 (by decide) (fun c7 => ?_) (fun c7 => ?_)
      · refine aw_iconst (v := -1) S d_Md_find_180 (by decide) ?_
        refine aw_iret S rfl d_Md_find_181 ?_ (by decide) (by decide)
        exact ⟨by rw [← hv]; rfl, rfl, rfl⟩
      · exact absurd (nI_le (by omega) (by omega)) c7
    | succ j ih =>
      intro t x y ht hv
      have hi : t < ts.length := by omega
      rw [tdrop hi, mfF] at hv
      have hT := nT t hi
      generalize tmG ts t = u at hv hT
      have s167 : ∀ (b : Bool) (y : Option Value), (b = true ↔ mE u w) → AW p l e { frames := 0, cells := 0, slots := 0, locals := 40 * 0 } s m args below meth c E 6 (aw_Z E (aw_Pi (fun r_ g2 n2 => r_ = oi (mfF w ts 0) ∧ g2 = g ∧ n2 = n)) below args s 0 0) 0 0 g n 167 [some (.ref d), some (.int w.1), some (.int (mN w)), some (.int (nI t)), some (.int (aw_b b)), y] [] := by
        intro b y hb
        refine aw_iload_4 S d_Md_find_167 ?_
        refine aw_if_eq S 174 d_Md_find_169 (by decide) (fun c169 => ?_) (fun c169 => ?_)
        · refine aw_iinc_3 (v := nI (t + 1)) S d_Md_find_174 ((nI_succ (t)).symm) ?_
          refine aw_goto S 2 d_Md_find_177 (by decide) ?_
          rw [if_neg (fun q => by rw [hb.mpr (mEb_iff.mp q)] at c169; exact absurd c169 (by decide))] at hv
          exact ih (t + 1) _ _ (by omega) hv
        · refine aw_iload_3 S d_Md_find_172 ?_
          refine aw_iret S rfl d_Md_find_173 ?_ (by decide) (by decide)
          have q := hb.mp (aw_b_t c169)
          rw [if_pos (mEb_iff.mpr q)] at hv
          exact ⟨by rw [← hv]; rfl, rfl, rfl⟩
      have s118f : ∀ (k : Nat), ¬ mE u w → AW p l e { frames := 0, cells := 0, slots := 0, locals := 40 * 0 } s m args below meth c E 6 (aw_Z E (aw_Pi (fun r_ g2 n2 => r_ = oi (mfF w ts 0) ∧ g2 = g ∧ n2 = n)) below args s 0 0) 0 0 g n 118 [some (.ref d), some (.int w.1), some (.int (mN w)), some (.int (nI t)), some (.int 0), some (.int (nI k))] [] := by
        intro k hne
        refine aw_iload_5 S d_Md_find_118 ?_
        refine aw_aload_0 S d_Md_find_120 ?_
        refine aw_getf S I_Md 16 hM.2.1 n_fl_Md_96 d_Md_find_121 rfl (by decide) ?_
        refine aw_topi w5 ?_
        refine aw_icmp_ge S 167 d_Md_find_124 (by decide) (fun c124 => ?_) (fun c124 => ?_)
        · exact s167 false _ ⟨fun h => (by cases h), fun h => absurd h hne⟩
        · refine aw_iload_4 S d_Md_find_127 ?_
          refine aw_if_eq S 167 d_Md_find_129 (by decide) (fun c129 => ?_) (fun c129 => ?_)
          · exact s167 false _ ⟨fun h => (by cases h), fun h => absurd h hne⟩
          · exact absurd rfl c129
      have l2 : ∀ (j2 k : Nat), k + j2 = w.2.2.2.2.length → u.1 = w.1 → mN u = mN w → u.2.2.2.1 = w.2.2.2.1 → u.2.2.2.2.length = w.2.2.2.2.length → (∀ q, q < k → u.2.2.2.2.getD q (-1) = w.2.2.2.2.getD q (-1)) → AW p l e { frames := 0, cells := 0, slots := 0, locals := 40 * 0 } s m args below meth c E 6 (aw_Z E (aw_Pi (fun r_ g2 n2 => r_ = oi (mfF w ts 0) ∧ g2 = g ∧ n2 = n)) below args s 0 0) 0 0 g n 118 [some (.ref d), some (.int w.1), some (.int (mN w)), some (.int (nI t)), some (.int 1), some (.int (nI k))] [] := by
        intro j2
        induction j2 with
        | zero =>
          intro k hk e1 e2 e3 e4 hq
          refine aw_iload_5 S d_Md_find_118 ?_
          refine aw_aload_0 S d_Md_find_120 ?_
          refine aw_getf S I_Md 16 hM.2.1 n_fl_Md_96 d_Md_find_121 rfl (by decide) ?_
          refine aw_topi w5 ?_
          refine aw_icmp_ge S 167 d_Md_find_124 (by decide) (fun c124 => ?_) (fun c124 => ?_)
          · exact s167 true _ ⟨fun _ => ⟨e1, e2, e3, getD_ext e4 (fun q z => hq q (by omega))⟩, fun _ => rfl⟩
          · exact absurd (nI_le (by omega) (by omega)) c124
        | succ j2 ih2 =>
          intro k hk e1 e2 e3 e4 hq
          refine aw_iload_5 S d_Md_find_118 ?_
          refine aw_aload_0 S d_Md_find_120 ?_
          refine aw_getf S I_Md 16 hM.2.1 n_fl_Md_96 d_Md_find_121 rfl (by decide) ?_
          refine aw_topi w5 ?_
          refine aw_icmp_ge S 167 d_Md_find_124 (by decide) (fun c124 => ?_) (fun c124 => ?_)
          · exact absurd c124 (nI_ge (by omega) (by omega))
          · refine aw_iload_4 S d_Md_find_127 ?_
            refine aw_if_eq S 167 d_Md_find_129 (by decide) (fun c129 => ?_) (fun c129 => ?_)
            · exact absurd c129 (by decide)
            · refine aw_aload_0 S d_Md_find_132 ?_
              refine aw_getf S I_Md 8 hM.2.1 n_fl_Md_28 d_Md_find_133 rfl (by decide) ?_
              refine aw_bipush (v := 16) S d_Md_find_136 (by decide) ?_
              refine aw_iload_3 S d_Md_find_138 ?_
              refine aw_imul S d_Md_find_139 ?_
              refine aw_iload_5 S d_Md_find_140 ?_
              refine aw_iadd S d_Md_find_142 ?_
              refine aw_topi (ix16 (t) (k)) ?_
              refine aw_mld S hM 6 (by decide) (hT.2.2.2.2.2.2.2 k (by omega)) (show _ < 960 by omega) d_Md_find_143 ?_
              refine aw_aload_0 S d_Md_find_144 ?_
              refine aw_getf S I_Md 17 hM.2.1 n_fl_Md_47 d_Md_find_145 rfl (by decide) ?_
              refine aw_iload_5 S d_Md_find_148 ?_
              refine aw_mld S hM 11 (by decide) (wT.at0 (by omega)) (show _ < 16 by omega) d_Md_find_150 ?_
              refine aw_icmp_ne S 158 d_Md_find_151 (by decide) (fun c151 => ?_) (fun c151 => ?_)
              · refine aw_iconst (v := 0) S d_Md_find_158 (by decide) ?_
                refine aw_istore_4 S d_Md_find_159 ?_
                refine aw_iinc_5 (v := nI (k + 1)) S d_Md_find_161 ((nI_succ (k)).symm) ?_
                refine aw_goto S 118 d_Md_find_164 (by decide) ?_
                exact s118f _ (fun h => c151 (by rw [h.2.2.2]))
              · refine aw_iconst (v := 1) S d_Md_find_154 (by decide) ?_
                refine aw_goto S 159 d_Md_find_155 (by decide) ?_
                refine aw_istore_4 S d_Md_find_159 ?_
                refine aw_iinc_5 (v := nI (k + 1)) S d_Md_find_161 ((nI_succ (k)).symm) ?_
                refine aw_goto S 118 d_Md_find_164 (by decide) ?_
                exact ih2 (k + 1) (by omega) e1 e2 e3 e4 (fun q z => by rcases Nat.lt_or_ge q k with h | h; exact hq q h; rw [show q = k by omega]; exact c151)
      have s66f : ∀ (k : Nat), ¬ mE u w → AW p l e { frames := 0, cells := 0, slots := 0, locals := 40 * 0 } s m args below meth c E 6 (aw_Z E (aw_Pi (fun r_ g2 n2 => r_ = oi (mfF w ts 0) ∧ g2 = g ∧ n2 = n)) below args s 0 0) 0 0 g n 66 [some (.ref d), some (.int w.1), some (.int (mN w)), some (.int (nI t)), some (.int 0), some (.int (nI k))] [] := by
        intro k hne
        refine aw_iload_5 S d_Md_find_66 ?_
        refine aw_aload_0 S d_Md_find_68 ?_
        refine aw_getf S I_Md 14 hM.2.1 n_fl_Md_93 d_Md_find_69 rfl (by decide) ?_
        refine aw_topi w4 ?_
        refine aw_icmp_ge S 115 d_Md_find_72 (by decide) (fun c72 => ?_) (fun c72 => ?_)
        · refine aw_iconst (v := 0) S d_Md_find_115 (by decide) ?_
          refine aw_topi nI_0.symm ?_
          refine aw_istore_5 S d_Md_find_116 ?_
          exact s118f 0 hne
        · refine aw_iload_4 S d_Md_find_75 ?_
          refine aw_if_eq S 115 d_Md_find_77 (by decide) (fun c77 => ?_) (fun c77 => ?_)
          · refine aw_iconst (v := 0) S d_Md_find_115 (by decide) ?_
            refine aw_topi nI_0.symm ?_
            refine aw_istore_5 S d_Md_find_116 ?_
            exact s118f 0 hne
          · exact absurd rfl c77
      have l1 : ∀ (j2 k : Nat), k + j2 = w.2.2.2.1.length → u.1 = w.1 → mN u = mN w → u.2.2.2.1.length = w.2.2.2.1.length → u.2.2.2.2.length = w.2.2.2.2.length → (∀ q, q < k → u.2.2.2.1.getD q (-1) = w.2.2.2.1.getD q (-1)) → AW p l e { frames := 0, cells := 0, slots := 0, locals := 40 * 0 } s m args below meth c E 6 (aw_Z E (aw_Pi (fun r_ g2 n2 => r_ = oi (mfF w ts 0) ∧ g2 = g ∧ n2 = n)) below args s 0 0) 0 0 g n 66 [some (.ref d), some (.int w.1), some (.int (mN w)), some (.int (nI t)), some (.int 1), some (.int (nI k))] [] := by
        intro j2
        induction j2 with
        | zero =>
          intro k hk e1 e2 e3 e4 hq
          refine aw_iload_5 S d_Md_find_66 ?_
          refine aw_aload_0 S d_Md_find_68 ?_
          refine aw_getf S I_Md 14 hM.2.1 n_fl_Md_93 d_Md_find_69 rfl (by decide) ?_
          refine aw_topi w4 ?_
          refine aw_icmp_ge S 115 d_Md_find_72 (by decide) (fun c72 => ?_) (fun c72 => ?_)
          · refine aw_iconst (v := 0) S d_Md_find_115 (by decide) ?_
            refine aw_topi nI_0.symm ?_
            refine aw_istore_5 S d_Md_find_116 ?_
            exact l2 _ 0 (Nat.zero_add _) e1 e2 (getD_ext e3 (fun q z => hq q (by omega))) e4 (fun q z => absurd z (Nat.not_lt_zero q))
          · exact absurd (nI_le (by omega) (by omega)) c72
        | succ j2 ih2 =>
          intro k hk e1 e2 e3 e4 hq
          refine aw_iload_5 S d_Md_find_66 ?_
          refine aw_aload_0 S d_Md_find_68 ?_
          refine aw_getf S I_Md 14 hM.2.1 n_fl_Md_93 d_Md_find_69 rfl (by decide) ?_
          refine aw_topi w4 ?_
          refine aw_icmp_ge S 115 d_Md_find_72 (by decide) (fun c72 => ?_) (fun c72 => ?_)
          · exact absurd c72 (nI_ge (by omega) (by omega))
          · refine aw_iload_4 S d_Md_find_75 ?_
            refine aw_if_eq S 115 d_Md_find_77 (by decide) (fun c77 => ?_) (fun c77 => ?_)
            · exact absurd c77 (by decide)
            · refine aw_aload_0 S d_Md_find_80 ?_
              refine aw_getf S I_Md 6 hM.2.1 n_fl_Md_22 d_Md_find_81 rfl (by decide) ?_
              refine aw_bipush (v := 100) S d_Md_find_84 (by decide) ?_
              refine aw_iload_3 S d_Md_find_86 ?_
              refine aw_imul S d_Md_find_87 ?_
              refine aw_iload_5 S d_Md_find_88 ?_
              refine aw_iadd S d_Md_find_90 ?_
              refine aw_topi (ix100 (t) (k)) ?_
              refine aw_mld S hM 4 (by decide) (hT.2.2.2.2.1 k (by omega)) (show _ < 6000 by omega) d_Md_find_91 ?_
              refine aw_aload_0 S d_Md_find_92 ?_
              refine aw_getf S I_Md 15 hM.2.1 n_fl_Md_44 d_Md_find_93 rfl (by decide) ?_
              refine aw_iload_5 S d_Md_find_96 ?_
              refine aw_mld S hM 10 (by decide) (wL.at0 (by omega)) (show _ < 400 by omega) d_Md_find_98 ?_
              refine aw_icmp_ne S 106 d_Md_find_99 (by decide) (fun c99 => ?_) (fun c99 => ?_)
              · refine aw_iconst (v := 0) S d_Md_find_106 (by decide) ?_
                refine aw_istore_4 S d_Md_find_107 ?_
                refine aw_iinc_5 (v := nI (k + 1)) S d_Md_find_109 ((nI_succ (k)).symm) ?_
                refine aw_goto S 66 d_Md_find_112 (by decide) ?_
                exact s66f _ (fun h => c99 (by rw [h.2.2.1]))
              · refine aw_iconst (v := 1) S d_Md_find_102 (by decide) ?_
                refine aw_goto S 107 d_Md_find_103 (by decide) ?_
                refine aw_istore_4 S d_Md_find_107 ?_
                refine aw_iinc_5 (v := nI (k + 1)) S d_Md_find_109 ((nI_succ (k)).symm) ?_
                refine aw_goto S 66 d_Md_find_112 (by decide) ?_
                exact ih2 (k + 1) (by omega) e1 e2 e3 e4 (fun q z => by rcases Nat.lt_or_ge q k with h | h; exact hq q h; rw [show q = k by omega]; exact c99)
      have hl4 := hT.2.2.2.1
      have hl7 := hT.2.2.2.2.2.2.1
      refine aw_iload_3 S d_Md_find_2 ?_
      refine aw_aload_0 S d_Md_find_3 ?_
      refine aw_getf S I_Md 2 hM.2.1 n_fl_Md_74 d_Md_find_4 rfl (by decide) ?_
      refine aw_topi n1 ?_
      refine aw_icmp_ge S 180 d_Md_find_7 (by decide) (fun c7 => ?_) (fun c7 => ?_)
      · exact absurd c7 (nI_ge (by omega) (by omega))
      · refine aw_aload_0 S d_Md_find_10 ?_
        refine aw_getf S I_Md 3 hM.2.1 n_fl_Md_13 d_Md_find_11 rfl (by decide) ?_
        refine aw_iload_3 S d_Md_find_14 ?_
        refine aw_mld S hM 1 (by decide) (hT.1) (show _ < 60 by omega) d_Md_find_15 ?_
        refine aw_iload_1 S d_Md_find_16 ?_
        refine aw_icmp_ne S 60 d_Md_find_17 (by decide) (fun c17 => ?_) (fun c17 => ?_)
        · refine aw_iconst (v := 0) S d_Md_find_60 (by decide) ?_
          refine aw_istore_4 S d_Md_find_61 ?_
          refine aw_iconst (v := 0) S d_Md_find_63 (by decide) ?_
          refine aw_topi nI_0.symm ?_
          refine aw_istore_5 S d_Md_find_64 ?_
          exact s66f 0 (fun h => c17 h.1)
        · refine aw_aload_0 S d_Md_find_20 ?_
          refine aw_getf S I_Md 4 hM.2.1 n_fl_Md_16 d_Md_find_21 rfl (by decide) ?_
          refine aw_iload_3 S d_Md_find_24 ?_
          refine aw_mld S hM 2 (by decide) (hT.2.1) (show _ < 60 by omega) d_Md_find_25 ?_
          refine aw_iload_2 S d_Md_find_26 ?_
          refine aw_icmp_ne S 60 d_Md_find_27 (by decide) (fun c27 => ?_) (fun c27 => ?_)
          · refine aw_iconst (v := 0) S d_Md_find_60 (by decide) ?_
            refine aw_istore_4 S d_Md_find_61 ?_
            refine aw_iconst (v := 0) S d_Md_find_63 (by decide) ?_
            refine aw_topi nI_0.symm ?_
            refine aw_istore_5 S d_Md_find_64 ?_
            exact s66f 0 (fun h => c27 h.2.1)
          · refine aw_aload_0 S d_Md_find_30 ?_
            refine aw_getf S I_Md 5 hM.2.1 n_fl_Md_19 d_Md_find_31 rfl (by decide) ?_
            refine aw_iload_3 S d_Md_find_34 ?_
            refine aw_mld S hM 3 (by decide) (hT.2.2.1) (show _ < 60 by omega) d_Md_find_35 ?_
            refine aw_aload_0 S d_Md_find_36 ?_
            refine aw_getf S I_Md 14 hM.2.1 n_fl_Md_93 d_Md_find_37 rfl (by decide) ?_
            refine aw_topi w4 ?_
            refine aw_icmp_ne S 60 d_Md_find_40 (by decide) (fun c40 => ?_) (fun c40 => ?_)
            · refine aw_iconst (v := 0) S d_Md_find_60 (by decide) ?_
              refine aw_istore_4 S d_Md_find_61 ?_
              refine aw_iconst (v := 0) S d_Md_find_63 (by decide) ?_
              refine aw_topi nI_0.symm ?_
              refine aw_istore_5 S d_Md_find_64 ?_
              exact s66f 0 (fun h => c40 (by rw [h.2.2.1]))
            · refine aw_aload_0 S d_Md_find_43 ?_
              refine aw_getf S I_Md 7 hM.2.1 n_fl_Md_25 d_Md_find_44 rfl (by decide) ?_
              refine aw_iload_3 S d_Md_find_47 ?_
              refine aw_mld S hM 5 (by decide) (hT.2.2.2.2.2.1) (show _ < 60 by omega) d_Md_find_48 ?_
              refine aw_aload_0 S d_Md_find_49 ?_
              refine aw_getf S I_Md 16 hM.2.1 n_fl_Md_96 d_Md_find_50 rfl (by decide) ?_
              refine aw_topi w5 ?_
              refine aw_icmp_ne S 60 d_Md_find_53 (by decide) (fun c53 => ?_) (fun c53 => ?_)
              · refine aw_iconst (v := 0) S d_Md_find_60 (by decide) ?_
                refine aw_istore_4 S d_Md_find_61 ?_
                refine aw_iconst (v := 0) S d_Md_find_63 (by decide) ?_
                refine aw_topi nI_0.symm ?_
                refine aw_istore_5 S d_Md_find_64 ?_
                exact s66f 0 (fun h => c53 (by rw [h.2.2.2]))
              · refine aw_iconst (v := 1) S d_Md_find_56 (by decide) ?_
                refine aw_goto S 61 d_Md_find_57 (by decide) ?_
                refine aw_istore_4 S d_Md_find_61 ?_
                refine aw_iconst (v := 0) S d_Md_find_63 (by decide) ?_
                refine aw_topi nI_0.symm ?_
                refine aw_istore_5 S d_Md_find_64 ?_
                exact l1 _ 0 (Nat.zero_add _) c17 c27 ((nI_eq (by omega) (by omega)).mp c40) ((nI_eq (by omega) (by omega)).mp c53) (fun q z => absurd z (Nat.not_lt_zero q))
  refine aw_iconst (v := 0) S d_Md_find_0 (by decide) ?_
  refine aw_topi nI_0.symm ?_
  refine aw_istore_3 S d_Md_find_1 ?_
  exact loop ts.length 0 none none (by omega) rfl
