/-! the reference: resolve -/
theorem ord0 {a b : Int32} : sp_ord a b = 0 ↔ a = b := by
  unfold sp_ord
  by_cases h : a = b
  · simp [h]
  · rw [if_neg h]
    split <;> simp [h]
theorem cmp_eq : ∀ {xs ys : List Int32}, sp_cmp xs ys = 0 ↔ xs = ys := by
  intro xs
  induction xs with
  | nil => intro ys; cases ys <;> simp [sp_cmp]
  | cons a xs ih =>
    intro ys
    cases ys with
    | nil => simp [sp_cmp]
    | cons b ys =>
      rw [sp_cmp]
      by_cases h : sp_ord a b = 0
      · rw [if_pos h, ih, ord0.mp h]; simp
      · rw [if_neg h]
        exact ⟨fun z => absurd z h, fun z => absurd (ord0.mpr (List.cons.inj z).1) h⟩
theorem tmO0 {u w : Tmv} : tmO u w = 0 ↔ sp_rank u.1 = sp_rank w.1 ∧ u.2.2.1 = w.2.2.1 ∧ u.2.2.2.1 = w.2.2.2.1 ∧ u.2.1 = w.2.1 ∧ u.2.2.2.2 = w.2.2.2.2 := by
  unfold tmO sp_tord
  by_cases h1 : sp_ord (sp_rank u.1) (sp_rank w.1) = 0
  · rw [if_pos h1]
    have e1 := ord0.mp h1
    by_cases h2 : sp_ord u.2.2.1 w.2.2.1 = 0
    · rw [if_pos h2]
      have e2 := ord0.mp h2
      by_cases h3 : sp_cmp u.2.2.2.1 w.2.2.2.1 = 0
      · rw [if_pos h3]
        have e3 := cmp_eq.mp h3
        by_cases h4 : sp_ord u.2.1 w.2.1 = 0
        · rw [if_pos h4, cmp_eq]
          have e4 := ord0.mp h4
          simp [e1, e2, e3, e4]
        · rw [if_neg h4]
          exact ⟨fun z => absurd z h4, fun z => absurd (ord0.mpr z.2.2.2.1) h4⟩
      · rw [if_neg h3]
        exact ⟨fun z => absurd z h3, fun z => absurd (cmp_eq.mpr z.2.2.1) h3⟩
    · rw [if_neg h2]
      exact ⟨fun z => absurd z h2, fun z => absurd (ord0.mpr z.2.1) h2⟩
  · rw [if_neg h1]
    exact ⟨fun z => absurd z h1, fun z => absurd (ord0.mpr z.1) h1⟩
def wf (w : Tmv) : Prop := (w.1 = 0 ∧ w.2.2.1 = 0) ∨ (w.1 = 1 ∧ w.2.1 = 0) ∨ (w.1 = 2 ∧ w.2.2.1 = 0)
theorem okV.wf {u : Tmv} (h : okV u) : wf u := by
  rcases h with h | h | h
  · exact Or.inl ⟨h.1, h.2.2.1⟩
  · exact Or.inr (Or.inl ⟨h.1, h.2.1⟩)
  · exact Or.inr (Or.inr ⟨h.1, h.2.1⟩)
theorem mE_tmO {u w : Tmv} (hu : wf u) (hw : wf w) : mE u w ↔ tmO u w = 0 := by
  rw [tmO0]
  obtain ⟨k, s, m, x, t⟩ := u
  obtain ⟨k2, s2, m2, x2, t2⟩ := w
  unfold mE mN
  rcases hu with ⟨a, b⟩ | ⟨a, b⟩ | ⟨a, b⟩ <;> rcases hw with ⟨a2, b2⟩ | ⟨a2, b2⟩ | ⟨a2, b2⟩ <;> simp only at a b a2 b2 <;> subst a b a2 b2 <;> simp [sp_rank] <;> grind
theorem mfF_eq {w : Tmv} (hw : wf w) : ∀ (ts : List Tmv) (k : Nat), (∀ u ∈ ts, wf u) → mfF w ts k = sp_findF w ts k := by
  intro ts
  induction ts with
  | nil => intro k h; rfl
  | cons u r ih =>
    intro k h
    rw [mfF, sp_findF, ih (k + 1) (fun z hz => h z (List.mem_cons_of_mem _ hz))]
    have e := mE_tmO (h u List.mem_cons_self) hw
    by_cases c : tmO u w = 0
    · rw [if_pos c, if_pos (mEb_iff.mpr (e.mpr c))]
    · rw [if_neg c, if_neg (fun z => c (e.mp (mEb_iff.mp z)))]
theorem okT.mem {ts : List Tmv} (h : okT ts) : ∀ u ∈ ts, okV u := by
  intro u hu
  obtain ⟨i, hi, e⟩ := List.getElem_of_mem hu
  have := h i hi
  rw [tmG, List.getD_eq_getElem?_getD, List.getElem?_eq_getElem hi] at this
  rw [← e]; exact this
theorem find_eq {ts : List Tmv} (h : okT ts) {w : Tmv} (hw : wf w) : mfF w ts 0 = sp_find ts w := mfF_eq hw ts 0 (fun u hu => (h.mem u hu).wf)
theorem mSt.clr {v : Nat → Int32} {f : Nat → Nat → Int32} {tape : List Int32} {ts : List Tmv} {bt : Int32} {ps : List Pfv} {pr : List Int32} (h : mSt v f tape ts bt ps pr) : mSt (upd v 0 0) f [] ts bt ps pr := by
  obtain ⟨⟨tl, t0, tL⟩, ⟨nl, n1, nT⟩, b2, ⟨pl, p3, pP⟩, ⟨ql, q6, qL⟩⟩ := h
  exact ⟨⟨Nat.zero_le _, rfl, mL.nil⟩, ⟨nl, n1, nT⟩, b2, ⟨pl, p3, pP⟩, ⟨ql, q6, qL⟩⟩
def okB (ts : List Tmv) (bt : Int32) : Prop := bt = -1 ∨ ∃ t, ixK ts 0 bt = some t
set_option maxRecDepth 100000 in
set_option maxHeartbeats 4000000 in
theorem ev_Md_resolve {l : Launch} {E : aw_E} {g : AH} {n : Nat} {g0 : AH} {d : Nat} {v : Nat → Int32} {f : Nat → Nat → Int32} {tape : List Int32} {ts : List Tmv} {bt : Int32} {ps : List Pfv} {pr : List Int32} (hM : mG E g0 d v f g) (hs : mSt v f tape ts bt ps pr) (hok : okT ts) (hbt : okB ts bt) : EV l E 6 0 0 y_Md_resolve c_Md_resolve 4 (some .int) g n [.ref d] (aw_Pi (fun r_ g2 n2 => r_ = op_resR tape ts bt ∧ n2 = n ∧ mS E g0 d g2 ([]) (op_resT tape ts bt) (bt) (ps) (pr))) := by
  obtain ⟨⟨tl, t0, tL⟩, ⟨nl, n1, nT⟩, b2, ⟨pl, p3, pP⟩, ⟨ql, q6, qL⟩⟩ := id hs
  refine aw_enter "AddressTermsModel" [some (.ref d), none, none, none] (by decide) rfl rfl (Nat.le_of_ble_eq_true rfl) ?_
  intro p e s m args below meth c S hnm
  have s110 : ∀ (v1 : Nat → Int32) (f1 : Nat → Nat → Int32) (g : AH) (xs : List Int32) (sc : Bool) (x : Option Value), mG E g0 d v1 f1 g → xs.length ≤ 400 → v1 4 = nI xs.length → mL (f1 10) 0 xs → v1 5 = nI 0 → mSt v1 f1 tape ts bt ps pr → (sc = false → op_resR tape ts bt = -2 ∧ op_resT tape ts bt = ts) → (sc = true → op_resR tape ts bt = (if xs.length ≤ 100 then op_place ts (ad_v xs) else -3) ∧ op_resT tape ts bt = (if xs.length ≤ 100 then op_put ts (ad_v xs) else ts)) → AW p l e { frames := 6, cells := 0, slots := 0, locals := 40 * 6 } s m args below meth c E 4 (aw_Z E (aw_Pi (fun r_ g2 n2 => r_ = op_resR tape ts bt ∧ n2 = n ∧ mS E g0 d g2 ([]) (op_resT tape ts bt) (bt) (ps) (pr))) below args s 0 0) 0 0 g n 110 [some (.ref d), some (.int (oi (sp_wrF tape 0))), some (.int (aw_b sc)), x] [] := by
    intro v1 f1 g xs sc x hM hx h4 hL h5 hs1 hr0 hr1
    refine aw_aload_0 S d_Md_resolve_110 ?_
    refine aw_iconst (v := 0) S d_Md_resolve_111 (by decide) ?_
    refine aw_mput0 S hM n_fl_Md_90 d_Md_resolve_112 (fun g_ hM => ?_)
    refine aw_iload_2 S d_Md_resolve_115 ?_
    refine aw_if_ne S 122 d_Md_resolve_116 (by decide) (fun c116 => ?_) (fun c116 => ?_)
    · refine aw_aload_0 S d_Md_resolve_122 ?_
      refine aw_getf S I_Md 14 hM.2.1 n_fl_Md_93 d_Md_resolve_123 rfl (by decide) ?_
      refine aw_topi h4 ?_
      refine aw_bipush (v := 100) S d_Md_resolve_126 (by decide) ?_
      refine aw_icmp_le S 136 d_Md_resolve_128 (by decide) (fun c128 => ?_) (fun c128 => ?_)
      · have hx1 : xs.length ≤ 100 := (nI_leI (b := 100) (by omega) (by omega)).mp c128
        refine aw_aload_0 S d_Md_resolve_136 ?_
        refine aw_iconst (v := 0) S d_Md_resolve_137 (by decide) ?_
        refine aw_iconst (v := 0) S d_Md_resolve_138 (by decide) ?_
        refine aw_callVi0 S (ev_Md_note (w := ad_v xs) hM hs1.clr ⟨⟨hx1, h4, hL⟩, Nat.zero_le _, h5, mL.nil⟩ (find_eq hok (Or.inl ⟨rfl, rfl⟩))) mb_Md_note mi_Md_note n_ml_Md_106 d_Md_resolve_139 I_Md hM.2.1 rfl rfl rfl (fun v_ g2_ n2_ h_ => ?_)
        obtain ⟨rfl, rfl, hm⟩ := h_
        refine aw_iret S rfl d_Md_resolve_142 ?_ (by decide) (by decide)
        have e := hr1 (aw_b_t c116)
        rw [if_pos hx1, if_pos hx1] at e
        rw [e.1, e.2]
        exact ⟨rfl, rfl, hm⟩
      · refine aw_bipush (v := -3) S d_Md_resolve_131 (by decide) ?_
        refine aw_goto S 142 d_Md_resolve_133 (by decide) ?_
        refine aw_iret S rfl d_Md_resolve_142 ?_ (by decide) (by decide)
        have e := hr1 (aw_b_t c116)
        have hx1 : ¬ xs.length ≤ 100 := fun z => c128 (nI_le (b := 100) z (by omega))
        rw [if_neg hx1, if_neg hx1] at e
        rw [e.1, e.2]
        exact ⟨rfl, rfl, _, f1, hM, hs1.clr⟩
    · refine aw_bipush (v := -2) S d_Md_resolve_119 (by decide) ?_
      refine aw_iret S rfl d_Md_resolve_121 ?_ (by decide) (by decide)
      have e := hr0 (aw_b_f c116)
      rw [e.1, e.2]
      exact ⟨rfl, rfl, _, f1, hM, hs1.clr⟩
  have l55 : ∀ (j k : Nat) (v1 : Nat → Int32) (f1 : Nat → Nat → Int32) (g : AH), mG E g0 d v1 f1 g → k + j = tape.length → sp_wrF tape 0 = none → ixK ts 0 bt = none → v1 4 = nI (tape.take k).length → mL (f1 10) 0 (tape.take k) → mL (f1 13) 0 (tape.take k) → v1 5 = nI 0 → v1 7 = nI tape.length → mfr [4, 5, 7] [10, 13] v v1 f f1 → AW p l e { frames := 6, cells := 0, slots := 0, locals := 40 * 6 } s m args below meth c E 4 (aw_Z E (aw_Pi (fun r_ g2 n2 => r_ = op_resR tape ts bt ∧ n2 = n ∧ mS E g0 d g2 ([]) (op_resT tape ts bt) (bt) (ps) (pr))) below args s 0 0) 0 0 g n 55 [some (.ref d), some (.int (oi (sp_wrF tape 0))), some (.int 1), some (.int (nI k))] [] := by
    intro j
    induction j with
    | zero =>
      intro k v1 f1 g hM hk hw hb h4 hL hR h5 h7 hf
      rw [List.take_of_length_le (by omega)] at h4 hL hR
      refine aw_iload_3 S d_Md_resolve_55 ?_
      refine aw_aload_0 S d_Md_resolve_56 ?_
      refine aw_getf S I_Md 0 hM.2.1 n_fl_Md_90 d_Md_resolve_57 rfl (by decide) ?_
      refine aw_topi ((hf.1 0 (by decide)).trans t0) ?_
      refine aw_icmp_ge S 91 d_Md_resolve_60 (by decide) (fun c60 => ?_) (fun c60 => ?_)
      · refine aw_aload_0 S d_Md_resolve_91 ?_
        refine aw_callVv0 S (ev_Md_split hM h7 hR (by omega)) mb_Md_split mi_Md_split n_ml_Md_123 d_Md_resolve_92 I_Md hM.2.1 rfl rfl rfl (fun g2_ n2_ h_ => ?_)
        obtain ⟨rfl, v3, f3, hM, hf3, hp3⟩ := h_
        refine aw_aload_0 S d_Md_resolve_95 ?_
        refine aw_getf S I_Md 22 hM.2.1 n_fl_Md_56 d_Md_resolve_96 rfl (by decide) ?_
        refine aw_iconst (v := 0) S d_Md_resolve_99 (by decide) ?_
        refine aw_mld (j := 0) S hM 14 (by decide) ((hp3.at5 (w := 0) (by decide)).1) (show _ < 5 by omega) d_Md_resolve_100 ?_
        refine aw_if_lt S 108 d_Md_resolve_101 (by decide) (fun c101 => ?_) (fun c101 => ?_)
        · refine aw_iconst (v := 0) S d_Md_resolve_108 (by decide) ?_
          refine aw_istore_2 S d_Md_resolve_109 ?_
          have hsc : sp_sc tape = false := by
            rw [sp_sc]
            cases hq : sp_pt tape 0 with
            | none => rfl
            | some q => rw [hq] at c101; have := sp_pt_le hq; exact absurd c101 (nI_pos (n := q.1) (by omega))
          refine s110 v3 f3 _ tape false _ hM (by omega) ((hf3.1 4 (by decide)).trans h4) (by rw [hf3.2 10 (by decide)]; exact hL) ((hf3.1 5 (by decide)).trans h5) (hs.keep ((hf.wd (by decide) (by decide)).tr (hf3.wd (by decide) (by decide)))) ?_ ?_
          · intro _; rw [op_resR, op_resT, hw]; dsimp only; rw [hb]; dsimp only; rw [hsc, if_neg (by decide), if_neg (by decide)]; exact ⟨rfl, rfl⟩
          · intro z; cases z
        · refine aw_iconst (v := 1) S d_Md_resolve_104 (by decide) ?_
          refine aw_goto S 109 d_Md_resolve_105 (by decide) ?_
          refine aw_istore_2 S d_Md_resolve_109 ?_
          have hsc : sp_sc tape = true := by
            rw [sp_sc]
            cases hq : sp_pt tape 0 with
            | none => rw [hq] at c101; exact absurd (show (-1 : Int32) < 0 by decide) c101
            | some q => rfl
          refine s110 v3 f3 _ tape true _ hM (by omega) ((hf3.1 4 (by decide)).trans h4) (by rw [hf3.2 10 (by decide)]; exact hL) ((hf3.1 5 (by decide)).trans h5) (hs.keep ((hf.wd (by decide) (by decide)).tr (hf3.wd (by decide) (by decide)))) ?_ ?_
          · intro z; cases z
          · intro _; rw [op_resR, op_resT, hw]; dsimp only; rw [hb]; dsimp only; rw [hsc, if_pos rfl, if_pos rfl, if_pos (by omega), if_pos (by omega)]; exact ⟨rfl, rfl⟩
      · exact absurd (nI_le (by omega) (by omega)) c60
    | succ j ih =>
      intro k v1 f1 g hM hk hw hb h4 hL hR h5 h7 hf
      refine aw_iload_3 S d_Md_resolve_55 ?_
      refine aw_aload_0 S d_Md_resolve_56 ?_
      refine aw_getf S I_Md 0 hM.2.1 n_fl_Md_90 d_Md_resolve_57 rfl (by decide) ?_
      refine aw_topi ((hf.1 0 (by decide)).trans t0) ?_
      refine aw_icmp_ge S 91 d_Md_resolve_60 (by decide) (fun c60 => ?_) (fun c60 => ?_)
      · exact absurd c60 (nI_ge (by omega) (by omega))
      · refine aw_aload_0 S d_Md_resolve_63 ?_
        refine aw_getf S I_Md 21 hM.2.1 n_fl_Md_53 d_Md_resolve_64 rfl (by decide) ?_
        refine aw_iload_3 S d_Md_resolve_67 ?_
        refine aw_aload_0 S d_Md_resolve_68 ?_
        refine aw_getf S I_Md 1 hM.2.1 n_fl_Md_7 d_Md_resolve_69 rfl (by decide) ?_
        refine aw_iload_3 S d_Md_resolve_72 ?_
        refine aw_mld S hM 0 (by decide) ((congrFun (hf.2 0 (by decide)) _).trans (tL.at0 (by omega))) (show _ < 96 by omega) d_Md_resolve_73 ?_
        refine aw_mst S hM 13 (by decide) (show _ < 100 by omega) d_Md_resolve_74 (fun g_ hM => ?_)
        refine aw_aload_0 S d_Md_resolve_75 ?_
        refine aw_aload_0 S d_Md_resolve_76 ?_
        refine aw_getf S I_Md 1 hM.2.1 n_fl_Md_7 d_Md_resolve_77 rfl (by decide) ?_
        refine aw_iload_3 S d_Md_resolve_80 ?_
        refine aw_mld S hM 0 (by decide) ((congrFun (hf.2 0 (by decide)) _).trans (tL.at0 (by omega))) (show _ < 96 by omega) d_Md_resolve_81 ?_
        refine aw_callVv0 S (ev_Md_add (tape.getD k (-1)) hM h4 hL (by rw [List.length_take]; omega)) mb_Md_add mi_Md_add n_ml_Md_146 d_Md_resolve_82 I_Md hM.2.1 rfl rfl rfl (fun g2_ n2_ h_ => ?_)
        obtain ⟨rfl, v3, f3, hM, hf3, h4, hL⟩ := h_
        rw [← take_step (by omega)] at h4 hL
        refine aw_iinc_3 (v := nI (k + 1)) S d_Md_resolve_85 ((nI_succ (k)).symm) ?_
        refine aw_goto S 55 d_Md_resolve_88 (by decide) ?_
        refine ih (k + 1) v3 f3 _ hM (by omega) hw hb h4 hL ?_ ((hf3.1 5 (by decide)).trans h5) ((hf3.1 7 (by decide)).trans h7) ((hf.f (by decide)).tr (hf3.wd (by decide) (by decide)))
        rw [hf3.2 13 (by decide)]
        have := hR.step (k := k) (b := 0) (x := tape.getD k (-1)) (by omega) rfl
        rw [Nat.zero_add] at this
        exact this
  have s19 : sp_wrF tape 0 = none → AW p l e { frames := 6, cells := 0, slots := 0, locals := 40 * 6 } s m args below meth c E 4 (aw_Z E (aw_Pi (fun r_ g2 n2 => r_ = op_resR tape ts bt ∧ n2 = n ∧ mS E g0 d g2 ([]) (op_resT tape ts bt) (bt) (ps) (pr))) below args s 0 0) 0 0 g n 19 [some (.ref d), some (.int (oi (sp_wrF tape 0))), none, none] [] := by
    intro hw
    rcases hbt with hb1 | ⟨t, hbx⟩
    · refine aw_aload_0 S d_Md_resolve_19 ?_
      refine aw_iconst (v := 0) S d_Md_resolve_20 (by decide) ?_
      refine aw_mput4 S hM n_fl_Md_93 d_Md_resolve_21 (fun g_ hM => ?_)
      refine aw_aload_0 S d_Md_resolve_24 ?_
      refine aw_iconst (v := 0) S d_Md_resolve_25 (by decide) ?_
      refine aw_mput5 S hM n_fl_Md_96 d_Md_resolve_26 (fun g_ hM => ?_)
      refine aw_iconst (v := 1) S d_Md_resolve_29 (by decide) ?_
      refine aw_istore_2 S d_Md_resolve_30 ?_
      refine aw_aload_0 S d_Md_resolve_31 ?_
      refine aw_getf S I_Md 9 hM.2.1 n_fl_Md_31 d_Md_resolve_32 rfl (by decide) ?_
      refine aw_topi (b2.trans hb1) ?_
      refine aw_if_lt S 45 d_Md_resolve_35 (by decide) (fun c35 => ?_) (fun c35 => ?_)
      · refine aw_aload_0 S d_Md_resolve_45 ?_
        refine aw_aload_0 S d_Md_resolve_46 ?_
        refine aw_getf S I_Md 0 hM.2.1 n_fl_Md_90 d_Md_resolve_47 rfl (by decide) ?_
        refine aw_topi t0 ?_
        refine aw_mput7 S hM n_fl_Md_109 d_Md_resolve_50 (fun g_ hM => ?_)
        refine aw_iconst (v := 0) S d_Md_resolve_53 (by decide) ?_
        refine aw_topi nI_0.symm ?_
        refine aw_istore_3 S d_Md_resolve_54 ?_
        have hbx : ixK ts 0 bt = none := by rw [hb1, ixK, ixOf, if_pos (by decide)]
        refine l55 tape.length 0 _ f _ hM (Nat.zero_add _) hw hbx rfl ?_ ?_ rfl rfl (((mfr.rf.v (by decide)).v (by decide)).v (by decide))
        · rw [List.take_zero]; exact mL.nil
        · rw [List.take_zero]; exact mL.nil
      · exact absurd (show (-1 : Int32) < 0 by decide) c35
    · obtain ⟨hx1, hk0⟩ := ixK_some hbx
      obtain ⟨hil, rfl⟩ := ixOf_lt (by omega) hx1
      have hT := nT t hil
      have hoa := hok.a t hil hk0
      have hrl := (res_len (os := tape) (bs := (tmG ts t).2.2.2.1) hoa.2).2
      refine aw_aload_0 S d_Md_resolve_19 ?_
      refine aw_iconst (v := 0) S d_Md_resolve_20 (by decide) ?_
      refine aw_mput4 S hM n_fl_Md_93 d_Md_resolve_21 (fun g_ hM => ?_)
      refine aw_aload_0 S d_Md_resolve_24 ?_
      refine aw_iconst (v := 0) S d_Md_resolve_25 (by decide) ?_
      refine aw_mput5 S hM n_fl_Md_96 d_Md_resolve_26 (fun g_ hM => ?_)
      refine aw_iconst (v := 1) S d_Md_resolve_29 (by decide) ?_
      refine aw_istore_2 S d_Md_resolve_30 ?_
      refine aw_aload_0 S d_Md_resolve_31 ?_
      refine aw_getf S I_Md 9 hM.2.1 n_fl_Md_31 d_Md_resolve_32 rfl (by decide) ?_
      refine aw_topi b2 ?_
      refine aw_if_lt S 45 d_Md_resolve_35 (by decide) (fun c35 => ?_) (fun c35 => ?_)
      · exact absurd c35 (nI_pos (by omega))
      · refine aw_aload_0 S d_Md_resolve_38 ?_
        refine aw_callVv0 S (ev_Md_resolveAgainst (os := tape) (bs := (tmG ts t).2.2.2.1) (t := t) hM rfl t0 tL tl b2 (by omega) hT.2.2.1 hT.2.2.2.2.1 hT.2.2.2.1 hoa.2) mb_Md_resolveAgainst mi_Md_resolveAgainst n_ml_Md_175 d_Md_resolve_39 I_Md hM.2.1 rfl rfl rfl (fun g2_ n2_ h_ => ?_)
        obtain ⟨rfl, v3, f3, hM, hf3, h4, hL⟩ := h_
        refine aw_goto S 110 d_Md_resolve_42 (by decide) ?_
        have hf9 : mfr [4, 5, 7, 8, 9] [10, 11, 13, 14, 15, 16, 17, 18, 19] v v3 f f3 := (((mfr.rf.v (by decide)).v (by decide)).tr (hf3.wd (by decide) (by decide)))
        refine s110 v3 f3 _ _ true _ hM (by omega) h4 hL ((hf3.1 5 (by decide)).trans rfl) (hs.keep hf9) (fun z => by cases z) (fun _ => ?_)
        rw [op_resR, op_resT, hw]
        dsimp only
        rw [hbx]
        exact ⟨rfl, rfl⟩
  refine aw_aload_0 S d_Md_resolve_0 ?_
  refine aw_callViR S (ev_Md_wrong hM hs) mb_Md_wrong mi_Md_wrong n_ml_Md_171 d_Md_resolve_1 I_Md hM.2.1 rfl rfl rfl ?_
  refine aw_istore_1 S d_Md_resolve_4 ?_
  refine aw_iload_1 S d_Md_resolve_5 ?_
  refine aw_if_lt S 19 d_Md_resolve_6 (by decide) (fun c6 => ?_) (fun c6 => ?_)
  · have hw : sp_wrF tape 0 = none := by
      cases hq : sp_wrF tape 0 with
      | none => rfl
      | some q => rw [hq] at c6; have := wrF_lt _ _ _ hq; exact absurd c6 (nI_pos (n := q) (by omega))
    exact s19 hw
  · obtain ⟨q, hq⟩ : ∃ q, sp_wrF tape 0 = some q := by
      cases hq : sp_wrF tape 0 with
      | none => rw [hq] at c6; exact absurd (show (-1 : Int32) < 0 by decide) c6
      | some q => exact ⟨q, rfl⟩
    rw [hq]
    refine aw_aload_0 S d_Md_resolve_9 ?_
    refine aw_iconst (v := 0) S d_Md_resolve_10 (by decide) ?_
    refine aw_mput0 S hM n_fl_Md_90 d_Md_resolve_11 (fun g_ hM => ?_)
    refine aw_bipush (v := -10) S d_Md_resolve_14 (by decide) ?_
    refine aw_iload_1 S d_Md_resolve_16 ?_
    refine aw_isub S d_Md_resolve_17 ?_
    refine aw_iret S rfl d_Md_resolve_18 ?_ (by decide) (by decide)
    exact ⟨by rw [op_resR, hq]; rfl, rfl, _, f, hM, by rw [op_resT, hq]; exact hs.clr⟩
