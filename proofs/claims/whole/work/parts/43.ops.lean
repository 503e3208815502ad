/-! the class: a term's place, the base, labels, the tape -/
def sp_findF (v : Tmv) : List Tmv → Nat → Option Nat
  | [], _ => none
  | u :: r, k => if tmO u v = 0 then some k else sp_findF v r (k + 1)
def sp_find (ts : List Tmv) (v : Tmv) : Option Nat := sp_findF v ts 0
def op_place (ts : List Tmv) (v : Tmv) : Int32 := match sp_find ts v with
  | some i => nI i
  | none => if ts.length < 60 then nI ts.length else -3
def op_put (ts : List Tmv) (v : Tmv) : List Tmv := match sp_find ts v with
  | some _ => ts
  | none => if ts.length < 60 then ts ++ [v] else ts
theorem tdrop {ts : List Tmv} {k : Nat} (h : k < ts.length) : ts.drop k = tmG ts k :: ts.drop (k + 1) := by
  rw [List.drop_eq_getElem_cons h, tmG]
  simp [List.getD_eq_getElem?_getD, List.getElem?_eq_getElem h]
theorem tmG_app {ts : List Tmv} {v : Tmv} {i : Nat} (h : i < ts.length) : tmG (ts ++ [v]) i = tmG ts i := by
  simp [tmG, List.getD_eq_getElem?_getD, List.getElem?_append_left h]
theorem tmG_new {ts : List Tmv} {v : Tmv} : tmG (ts ++ [v]) ts.length = v := by
  simp [tmG, List.getD_eq_getElem?_getD]
def tbN (tb : Nat → Nat) (L n : Nat) : Nat → Nat := fun i => if i = L then n else tb i
theorem tbN_s {tb : Nat → Nat} {L n : Nat} : tbN tb L n L = n := if_pos rfl
theorem tbN_n {tb : Nat → Nat} {L n i : Nat} (h : i ≠ L) : tbN tb L n i = tb i := if_neg h
theorem AtS.add {E : aw_E} {g g3 : AH} {n o N1 N2 : Nat} {tb pb : Nat → Nat} {tape pr : List Int32} {ts : List Tmv} {bt : Int32} {ps : List (List Int32 × Nat)} {v : Tmv} {ft : Nat → Option Nat} (hA : AtF E g o tb pb tape ts.length bt ps.length pr) (hT : AtT E g n o tb pb ts ps) (hf : ∀ x, x ≠ o → x ≠ o + 5 → x < n → g3 x = g x)
    (h1 : g3 o = some (.inr (5, [.ref (o + 1), .ref (o + 3), .ref (o + 5), .ref (o + 6), .ref (o + 7), .ref (o + 12), .ref (o + 17), .ref (o + 22), .int (nI (ts.length + 1)), .int (nI ps.length), .int bt]))) (h2 : g3 (o + 5) = some (.inl (E.2.1 2, 60, .inr (.inr (.inr (.inr ft)))))) (h3 : ∀ i, i < ts.length + 1 → ft i = some (tbN tb ts.length n i)) (h4 : IsTv E g3 n N1 N2 v) (hL : ts.length < 60) : AtS E g3 (n + 5) o (tbN tb ts.length n) pb tape (ts ++ [v]) bt ps pr := by
  obtain ⟨a1, a2, a3, a4, -, ⟨a8, fp, a9, a10⟩, a11, a12, a13, a14, a15⟩ := hA
  obtain ⟨t0, t1, t2, t3, t4⟩ := hT
  have e : (ts ++ [v]).length = ts.length + 1 := by simp
  have kp : ∀ x, o < x → x < o + 46 → x ≠ o + 5 → g3 x = g x := fun x q1 q2 q3 => hf x (by omega) q3 (by omega)
  refine ⟨⟨a1, by rw [e]; exact h1, a3.keep (kp _ (by omega) (by omega) (by omega)) (kp _ (by omega) (by omega) (by omega)), a4.keep (kp _ (by omega) (by omega) (by omega)) (kp _ (by omega) (by omega) (by omega)), ⟨by omega, ft, h2, by rw [e]; exact h3⟩, ⟨a8, fp, (kp _ (by omega) (by omega) (by omega)).trans a9, a10⟩, ?_, ?_, ?_, (kp _ (by omega) (by omega) (by omega)).trans a14, ?_⟩, ⟨by omega, ?_, ?_, ?_, t4⟩⟩
  · obtain ⟨w, hw⟩ := a11
    exact ⟨w, hw.keep (fun x q1 q2 => kp x (by omega) (by omega) (by omega))⟩
  · obtain ⟨r, fb, fe, h⟩ := a12
    exact ⟨r, fb, fe, h.1, (kp _ (by omega) (by omega) (by omega)).trans h.2.1, (kp _ (by omega) (by omega) (by omega)).trans h.2.2.1, (kp _ (by omega) (by omega) (by omega)).trans h.2.2.2⟩
  · obtain ⟨r, fb, fe, h⟩ := a13
    exact ⟨r, fb, fe, h.1, (kp _ (by omega) (by omega) (by omega)).trans h.2.1, (kp _ (by omega) (by omega) (by omega)).trans h.2.2.1, (kp _ (by omega) (by omega) (by omega)).trans h.2.2.2⟩
  · obtain ⟨zs, h⟩ := a15
    exact ⟨zs, h.keep (kp _ (by omega) (by omega) (by omega)) (kp _ (by omega) (by omega) (by omega))⟩
  · intro i hi
    by_cases q : i = ts.length
    · subst q
      rw [tbN_s, tmG_new]
      exact ⟨t0, Nat.le_refl _, N1, N2, h4⟩
    · rw [tbN_n q, tmG_app (by omega)]
      obtain ⟨q1, q2, M1, M2, q3⟩ := t1 i (by omega)
      exact ⟨q1, by omega, M1, M2, q3.keep (fun x y1 y2 => hf x (by omega) (by omega) (by omega))⟩
  · intro j hj
    obtain ⟨q1, q2, q3, q4, q5, N, q6⟩ := t2 j hj
    refine ⟨q1, by omega, by omega, ?_, ?_, N, q6.keep (hf _ (by omega) (by omega) (by omega)) (hf _ (by omega) (by omega) (by omega))⟩
    · rw [tmG_app q3]; exact q4
    · rw [tbN_n (by omega)]
      exact q5.keep (hf _ (by omega) (by omega) (by omega))
  · intro i j hi hj
    by_cases q : i = ts.length
    · subst q
      rw [tbN_s]
      have := (t2 j hj).2.1
      omega
    · rw [tbN_n q]
      exact t3 i j (by omega) hj
set_option maxRecDepth 100000 in
set_option maxHeartbeats 4000000 in
theorem ev_At_placeOfWanted {l : Launch} {E : aw_E} {g : AH} {n : Nat} {o : Nat} {tb pb : Nat → Nat} {tape pr : List Int32} {ts : List Tmv} {bt : Int32} {ps : List (List Int32 × Nat)} {v : Tmv} (hA : AtF E g o tb pb tape ts.length bt ps.length pr) (hT : AtT E g n o tb pb ts ps) (hW : IsTv E g (o + 7) 197 16 v) : EV l E 4 5 2009 y_At_placeOfWanted c_At_placeOfWanted 3 (some .int) g n [.ref o] (aw_Pi (fun r_ g2 n2 => r_ = op_place ts v ∧ ∃ tb2, AtS E g2 n2 o tb2 pb tape (op_put ts v) bt ps pr ∧ aw_md o g g2)) := by
  obtain ⟨a1, a2, a3, a4, ⟨a5, ft, a6, a7⟩, ⟨a8, fp, a9, a10⟩, a11, a12, a13, a14, a15⟩ := id hA
  have ht0 := hT.1
  refine aw_enter "AddressTerms" [some (.ref o), none, none] (by decide) rfl rfl (Nat.le_of_ble_eq_true rfl) ?_
  intro p e s m args below meth c S hnm
  have loop : ∀ (j k : Nat) (x : Option Value), k + j = ts.length → sp_findF v (ts.drop k) k = sp_find ts v → AW p l e { frames := 4, cells := 5, slots := 2009, locals := 40 * 4 } s m args below meth c E 3 (aw_Z E (aw_Pi (fun r_ g2 n2 => r_ = op_place ts v ∧ ∃ tb2, AtS E g2 n2 o tb2 pb tape (op_put ts v) bt ps pr ∧ aw_md o g g2)) below args s 5 2009) 0 0 g n 2 [some (.ref o), some (.int (nI k)), x] [] := by
    intro j
    induction j with
    | zero =>
      intro k x hk hv
      rw [List.drop_eq_nil_iff.mpr (show ts.length ≤ k by omega), sp_findF] at hv
      refine aw_iload_1 S d_At_placeOfWanted_2 ?_
      refine aw_aload_0 S d_At_placeOfWanted_3 ?_
      refine aw_getf S I_At 8 a2 n_fl_At_57 d_At_placeOfWanted_4 rfl (by decide) ?_
      refine aw_icmp_ge S 39 d_At_placeOfWanted_7 (by decide) (fun c7 => ?_) (fun c7 => ?_)
      · refine aw_aload_0 S d_At_placeOfWanted_39 ?_
        refine aw_getf S I_At 8 a2 n_fl_At_57 d_At_placeOfWanted_40 rfl (by decide) ?_
        refine aw_if_lt S 58 d_At_placeOfWanted_43 (by decide) (fun c43 => ?_) (fun c43 => ?_)
        · exact absurd c43 (nI_pos (by omega))
        · refine aw_aload_0 S d_At_placeOfWanted_46 ?_
          refine aw_getf S I_At 8 a2 n_fl_At_57 d_At_placeOfWanted_47 rfl (by decide) ?_
          refine aw_aload_0 S d_At_placeOfWanted_50 ?_
          refine aw_getf S I_At 2 a2 n_fl_At_23 d_At_placeOfWanted_51 rfl (by decide) ?_
          refine aw_alen S 2 rfl a6 d_At_placeOfWanted_54 ?_
          refine aw_icmp_lt S 61 d_At_placeOfWanted_55 (by decide) (fun c55 => ?_) (fun c55 => ?_)
          · have hL : ts.length < 60 := by rw [nI_ltI (by omega) (by omega)] at c55; exact c55
            refine aw_aload_0 S d_At_placeOfWanted_61 ?_
            refine aw_getf S I_At 8 a2 n_fl_At_57 d_At_placeOfWanted_62 rfl (by decide) ?_
            refine aw_istore_1 S d_At_placeOfWanted_65 ?_
            refine aw_aload_0 S d_At_placeOfWanted_66 ?_
            refine aw_getf S I_At 2 a2 n_fl_At_23 d_At_placeOfWanted_67 rfl (by decide) ?_
            refine aw_iload_1 S d_At_placeOfWanted_70 ?_
            refine aw_aload_0 S d_At_placeOfWanted_71 ?_
            refine aw_getf S I_At 4 a2 n_fl_At_36 d_At_placeOfWanted_72 rfl (by decide) ?_
            refine aw_callVqA S 5 2009 (ev_Tm_copy hW (by omega)) mb_Tm_copy mi_Tm_copy n_ml_At_165 d_At_placeOfWanted_75 I_Tm hW.2.1 rfl rfl rfl (fun v_ g2_ n2_ h_ => ?_)
            obtain ⟨rfl, rfl, h1, hF1⟩ := h_
            refine aw_aast S 2 I_Tm rfl ((hF1 _ (by omega)).trans a6) h1.2.1 d_At_placeOfWanted_78 (by omega) (vp_in_nI (by omega) (by omega)) ?_
            refine aw_aload_0 S d_At_placeOfWanted_79 ?_
            refine aw_iload_1 S d_At_placeOfWanted_80 ?_
            refine aw_iconst (v := 1) S d_At_placeOfWanted_81 (by decide) ?_
            refine aw_iadd S d_At_placeOfWanted_82 ?_
            refine aw_putf (fs2 := [.ref (o + 1), .ref (o + 3), .ref (o + 5), .ref (o + 6), .ref (o + 7), .ref (o + 12), .ref (o + 17), .ref (o + 22), .int (nI ts.length + 1), .int (nI ps.length), .int bt]) S I_At 8 (by rw [aw_up_n (by omega)]; exact (hF1 o (by omega)).trans a2) n_fl_At_57 d_At_placeOfWanted_83 rfl a1 rfl rfl rfl (by decide) (Nat.le_of_ble_eq_true rfl) ?_
            refine aw_iload_1 S d_At_placeOfWanted_86 ?_
            refine aw_iret S rfl d_At_placeOfWanted_87 ?_ (by decide) (by decide)
            refine ⟨by rw [op_place, ← hv]; dsimp only; rw [if_pos hL], tbN tb ts.length n, ?_, ?_⟩
            · rw [op_put, ← hv]
              dsimp only
              rw [if_pos hL]
              rw [nI_clamp (by omega)]
              refine AtS.add (ft := va_up ft ts.length (some n)) hA hT (fun x q1 q2 q3 => ?_) (by rw [aw_up_s, nI_1]) (by rw [aw_up_n (by omega), aw_up_s]) (fun i hi => ?_) (IsTv.keep h1 (fun x q1 q2 => ?_)) hL
              · rw [aw_up_n q1, aw_up_n q2]; exact hF1 x (by omega)
              · by_cases q : i = ts.length
                · subst q
                  rw [show va_up ft ts.length (some n) ts.length = some n from if_pos rfl, tbN_s]
                · rw [show va_up ft ts.length (some n) i = ft i from if_neg q, tbN_n q]
                  exact a7 i (by omega)
              · rw [aw_up_n (by omega), aw_up_n (by omega)]
            · intro x q1 q2
              rw [aw_up_n (by omega), aw_up_n (by omega)]
              exact hF1 x (by omega)
          · refine aw_bipush (v := -3) S d_At_placeOfWanted_58 (by decide) ?_
            refine aw_iret S rfl d_At_placeOfWanted_60 ?_ (by decide) (by decide)
            have hL : ¬ ts.length < 60 := by rw [nI_ltI (by omega) (by omega)] at c55; exact c55
            refine ⟨by rw [op_place, ← hv]; dsimp only; rw [if_neg hL], tb, ?_, aw_md.rf⟩
            rw [op_put, ← hv]
            dsimp only
            rw [if_neg hL]
            exact ⟨hA, hT⟩
      · exact absurd (nI_le (by omega) (by omega)) c7
    | succ j ih =>
      intro k x hk hv
      have hkx : k < ts.length := by omega
      rw [tdrop hkx, sp_findF] at hv
      obtain ⟨u1, u2, M1, M2, u3⟩ := hT.2.1 k hkx
      refine aw_iload_1 S d_At_placeOfWanted_2 ?_
      refine aw_aload_0 S d_At_placeOfWanted_3 ?_
      refine aw_getf S I_At 8 a2 n_fl_At_57 d_At_placeOfWanted_4 rfl (by decide) ?_
      refine aw_icmp_ge S 39 d_At_placeOfWanted_7 (by decide) (fun c7 => ?_) (fun c7 => ?_)
      · exact absurd c7 (nI_ge (by omega) (by omega))
      · refine aw_aload_0 S d_At_placeOfWanted_10 ?_
        refine aw_iload_1 S d_At_placeOfWanted_11 ?_
        refine aw_callVqR S (ev_At_termAt (nI k) hA) mb_At_termAt mi_At_termAt n_ml_At_122 d_At_placeOfWanted_12 I_At a2 rfl rfl rfl ?_
        rw [ixOf_nI (by omega) hkx]
        refine aw_astoreQ_2 S d_At_placeOfWanted_15 ?_
        refine aw_aloadQ_2 S d_At_placeOfWanted_16 ?_
        refine aw_ifnull S 33 d_At_placeOfWanted_17 (by decide) (fun c17 => ?_) (fun y17 c17 => ?_)
        · cases c17
        · refine aw_aload_2 S d_At_placeOfWanted_20 ?_
          refine aw_aload_0 S d_At_placeOfWanted_21 ?_
          refine aw_getf S I_At 4 a2 n_fl_At_36 d_At_placeOfWanted_22 rfl (by decide) ?_
          refine aw_callViR S (ev_Tm_order u3 hW) mb_Tm_order mi_Tm_order n_ml_At_138 d_At_placeOfWanted_25 I_Tm u3.2.1 rfl rfl rfl ?_
          refine aw_if_ne S 33 d_At_placeOfWanted_28 (by decide) (fun c28 => ?_) (fun c28 => ?_)
          · refine aw_iinc_1 (v := nI (k + 1)) S d_At_placeOfWanted_33 ((nI_succ k).symm) ?_
            refine aw_goto S 2 d_At_placeOfWanted_36 (by decide) ?_
            rw [if_neg (show ¬ tmO (tmG ts k) v = 0 from c28)] at hv
            exact ih (k + 1) _ (by omega) hv
          · refine aw_iload_1 S d_At_placeOfWanted_31 ?_
            refine aw_iret S rfl d_At_placeOfWanted_32 ?_ (by decide) (by decide)
            rw [if_pos (show tmO (tmG ts k) v = 0 from c28)] at hv
            refine ⟨by rw [op_place, ← hv], tb, ?_, aw_md.rf⟩
            rw [op_put, ← hv]
            exact ⟨hA, hT⟩
  refine aw_iconst (v := 0) S d_At_placeOfWanted_0 (by decide) ?_
  refine aw_topi nI_0.symm ?_
  refine aw_istore_1 S d_At_placeOfWanted_1 ?_
  exact loop ts.length 0 none (by omega) rfl
def lb_v (q : Int32) : Tmv := (1, 0, q, [], [])
def op_label (ts : List Tmv) (q : Int32) : Int32 := if sp_in q 0 999 then op_place ts (lb_v q) else -1
def op_labelT (ts : List Tmv) (q : Int32) : List Tmv := if sp_in q 0 999 then op_put ts (lb_v q) else ts
def op_base (ts : List Tmv) (q : Int32) : Int32 := if q = -1 then 1 else if (ixK ts 0 q).isSome then 1 else -1
def op_baseB (ts : List Tmv) (bt q : Int32) : Int32 := if q = -1 then q else if (ixK ts 0 q).isSome then q else bt
set_option maxRecDepth 100000 in
set_option maxHeartbeats 4000000 in
theorem ev_At_label {l : Launch} {E : aw_E} {g : AH} {n : Nat} {o : Nat} {tb pb : Nat → Nat} {tape pr : List Int32} {ts : List Tmv} {bt : Int32} {ps : List (List Int32 × Nat)} (q : Int32) (hS0 : AtS E g n o tb pb tape ts bt ps pr) : EV l E 5 5 2009 y_At_label c_At_label 2 (some .int) g n [.ref o, .int q] (aw_Pi (fun r_ g2 n2 => r_ = op_label ts q ∧ ∃ tb2 pb2, AtS E g2 n2 o tb2 pb2 (tape) (op_labelT ts q) (bt) (ps) (pr) ∧ aw_md o g g2)) := by
  obtain ⟨hA, hT⟩ := id hS0
  obtain ⟨a1, a2, a3, a4, ⟨a5, ft, a6, a7⟩, ⟨a8, fp, a9, a10⟩, a11, a12, a13, a14, a15⟩ := id hA
  have ht0 := hT.1
  have htp := a3.room
  refine aw_enter "AddressTerms" [some (.ref o), some (.int q)] (by decide) rfl rfl (Nat.le_of_ble_eq_true rfl) ?_
  intro p e s m args below meth c S hnm
  refine aw_iload_1 S d_At_label_0 ?_
  refine aw_if_lt S 11 d_At_label_1 (by decide) (fun c1 => ?_) (fun c1 => ?_)
  · refine aw_iconst (v := -1) S d_At_label_11 (by decide) ?_
    refine aw_iret S rfl d_At_label_12 ?_ (by decide) (by decide)
    have hq : sp_in q 0 999 = false := by simp [sp_in, *]
    exact ⟨by rw [op_label, hq]; rfl, tb, pb, by rw [op_labelT, hq]; exact hS0, aw_md.rf⟩
  · refine aw_iload_1 S d_At_label_4 ?_
    refine aw_sipush (v := 999) S d_At_label_5 (by decide) ?_
    refine aw_icmp_le S 13 d_At_label_8 (by decide) (fun c8 => ?_) (fun c8 => ?_)
    · refine aw_aload_0 S d_At_label_13 ?_
      refine aw_getf S I_At 4 a2 n_fl_At_36 d_At_label_14 rfl (by decide) ?_
      refine aw_iconst (v := 1) S d_At_label_17 (by decide) ?_
      refine aw_iconst (v := 0) S d_At_label_18 (by decide) ?_
      refine aw_iload_1 S d_At_label_19 ?_
      refine aw_callVv0 S (ev_Tm_begin 1 0 q (Exists.choose_spec a11)) mb_Tm_begin mi_Tm_begin n_ml_At_92 d_At_label_20 I_Tm (Exists.choose_spec a11).2.1 rfl rfl rfl (fun g2_ n2_ h_ => ?_)
      obtain ⟨rfl, h1, hF1⟩ := h_
      have hA2 := hA.wanted hF1 ⟨lb_v q, h1⟩
      have hT2 := hT.fix hF1 (by omega)
      refine aw_aload_0 S d_At_label_23 ?_
      refine aw_callViA S 5 2009 (ev_At_placeOfWanted (v := lb_v q) hA2 hT2 h1) mb_At_placeOfWanted mi_At_placeOfWanted n_ml_At_96 d_At_label_24 I_At hA2.2.1 rfl rfl rfl (fun v_ g2_ n2_ h_ => ?_)
      obtain ⟨rfl, tb2, hS2, hm2⟩ := h_
      refine aw_iret S rfl d_At_label_27 ?_ (by decide) (by decide)
      have hq : sp_in q 0 999 = true := by simp [sp_in, Int32.not_lt.mpr c8, c1]
      exact ⟨by rw [op_label, hq]; rfl, tb2, pb, by rw [op_labelT, hq]; exact hS2, (aw_md.fr hF1 (by omega)).tr hm2⟩
    · refine aw_iconst (v := -1) S d_At_label_11 (by decide) ?_
      refine aw_iret S rfl d_At_label_12 ?_ (by decide) (by decide)
      have hq : sp_in q 0 999 = false := by simp [sp_in, Int32.not_le.mp c8]
      exact ⟨by rw [op_label, hq]; rfl, tb, pb, by rw [op_labelT, hq]; exact hS0, aw_md.rf⟩
theorem AtF.obj {E : aw_E} {g : AH} {o L K L2 K2 : Nat} {tb pb : Nat → Nat} {tape pr : List Int32} {bt bt2 : Int32} (hA : AtF E g o tb pb tape L bt K pr) (h1 : L2 = L) (h2 : K2 = K) : AtF E (aw_up g o (.inr (5, [.ref (o + 1), .ref (o + 3), .ref (o + 5), .ref (o + 6), .ref (o + 7), .ref (o + 12), .ref (o + 17), .ref (o + 22), .int (nI L2), .int (nI K2), .int bt2]))) o tb pb tape L bt2 K pr := by
  subst h1 h2
  have hf : aw_fr g (aw_up g o (.inr (5, [.ref (o + 1), .ref (o + 3), .ref (o + 5), .ref (o + 6), .ref (o + 7), .ref (o + 12), .ref (o + 17), .ref (o + 22), .int (nI L2), .int (nI K2), .int bt2]))) o 1 := fun x hx => aw_up_n (by omega)
  obtain ⟨a1, a2, a3, a4, ⟨a5, ft, a6, a7⟩, ⟨a8, fp, a9, a10⟩, a11, a12, a13, a14, a15⟩ := hA
  exact ⟨a1, aw_up_s _ _ _, a3.fr hf (by omega), a4.fr hf (by omega), ⟨a5, ft, (hf _ (by omega)).trans a6, a7⟩, ⟨a8, fp, (hf _ (by omega)).trans a9, a10⟩, ⟨_, a11.choose_spec.fr hf (by omega)⟩, (by obtain ⟨r, fb, fe, h⟩ := a12; exact ⟨r, fb, fe, h.fr hf (by omega)⟩), (by obtain ⟨r, fb, fe, h⟩ := a13; exact ⟨r, fb, fe, h.fr hf (by omega)⟩), (hf _ (by omega)).trans a14, (by obtain ⟨zs, h⟩ := a15; exact ⟨zs, h.fr hf (by omega)⟩)⟩
set_option maxRecDepth 100000 in
set_option maxHeartbeats 4000000 in
theorem ev_At_base {l : Launch} {E : aw_E} {g : AH} {n : Nat} {o : Nat} {tb pb : Nat → Nat} {tape pr : List Int32} {ts : List Tmv} {bt : Int32} {ps : List (List Int32 × Nat)} (q : Int32) (hS0 : AtS E g n o tb pb tape ts bt ps pr) : EV l E 2 0 0 y_At_base c_At_base 2 (some .int) g n [.ref o, .int q] (aw_Pi (fun r_ g2 n2 => r_ = op_base ts q ∧ ∃ tb2 pb2, AtS E g2 n2 o tb2 pb2 (tape) (ts) (op_baseB ts bt q) (ps) (pr) ∧ aw_md o g g2)) := by
  obtain ⟨hA, hT⟩ := id hS0
  obtain ⟨a1, a2, a3, a4, ⟨a5, ft, a6, a7⟩, ⟨a8, fp, a9, a10⟩, a11, a12, a13, a14, a15⟩ := id hA
  have ht0 := hT.1
  have htp := a3.room
  refine aw_enter "AddressTerms" [some (.ref o), some (.int q)] (by decide) rfl rfl (Nat.le_of_ble_eq_true rfl) ?_
  intro p e s m args below meth c S hnm
  refine aw_iload_1 S d_At_base_0 ?_
  refine aw_iconst (v := -1) S d_At_base_1 (by decide) ?_
  refine aw_icmp_eq S 15 d_At_base_2 (by decide) (fun c2 => ?_) (fun c2 => ?_)
  · refine aw_aload_0 S d_At_base_15 ?_
    refine aw_iload_1 S d_At_base_16 ?_
    refine aw_putf (fs2 := [.ref (o + 1), .ref (o + 3), .ref (o + 5), .ref (o + 6), .ref (o + 7), .ref (o + 12), .ref (o + 17), .ref (o + 22), .int (nI ts.length), .int (nI ps.length), .int q]) S I_At 10 a2 n_fl_At_64 d_At_base_17 rfl a1 rfl rfl rfl (by decide) (Nat.le_of_ble_eq_true rfl) ?_
    refine aw_iconst (v := 1) S d_At_base_20 (by decide) ?_
    refine aw_iret S rfl d_At_base_21 ?_ (by decide) (by decide)
    have e1 : op_base ts q = 1 := by rw [op_base, if_pos c2]
    have e2 : op_baseB ts bt q = q := by rw [op_baseB, if_pos c2]
    rw [e1, e2]
    exact ⟨rfl, tb, pb, ⟨hA.obj rfl rfl, hT.fr (fun x q1 q2 => aw_up_n (by omega))⟩, fun x q1 q2 => aw_up_n (by omega)⟩
  · refine aw_aload_0 S d_At_base_5 ?_
    refine aw_iload_1 S d_At_base_6 ?_
    refine aw_callVqR S (ev_At_addressAt q hA hT) mb_At_addressAt mi_At_addressAt n_ml_At_88 d_At_base_7 I_At a2 rfl rfl rfl ?_
    refine aw_ifnonnull S 15 d_At_base_10 (by decide) (fun y10 c10 => ?_) (fun c10 => ?_)
    · refine aw_aload_0 S d_At_base_15 ?_
      refine aw_iload_1 S d_At_base_16 ?_
      refine aw_putf (fs2 := [.ref (o + 1), .ref (o + 3), .ref (o + 5), .ref (o + 6), .ref (o + 7), .ref (o + 12), .ref (o + 17), .ref (o + 22), .int (nI ts.length), .int (nI ps.length), .int q]) S I_At 10 a2 n_fl_At_64 d_At_base_17 rfl a1 rfl rfl rfl (by decide) (Nat.le_of_ble_eq_true rfl) ?_
      refine aw_iconst (v := 1) S d_At_base_20 (by decide) ?_
      refine aw_iret S rfl d_At_base_21 ?_ (by decide) (by decide)
      obtain ⟨i, hi, -⟩ := Option.map_eq_some_iff.mp c10
      have e1 : op_base ts q = 1 := by rw [op_base, if_neg c2, hi]; rfl
      have e2 : op_baseB ts bt q = q := by rw [op_baseB, if_neg c2, hi]; rfl
      rw [e1, e2]
      exact ⟨rfl, tb, pb, ⟨hA.obj rfl rfl, hT.fr (fun x q1 q2 => aw_up_n (by omega))⟩, fun x q1 q2 => aw_up_n (by omega)⟩
    · refine aw_iconst (v := -1) S d_At_base_13 (by decide) ?_
      refine aw_iret S rfl d_At_base_14 ?_ (by decide) (by decide)
      have e0 : (ixK ts 0 q).isSome = false := by rw [Option.map_eq_none_iff.mp c10]; rfl
      have e1 : op_base ts q = -1 := by rw [op_base, if_neg c2, e0]; rfl
      have e2 : op_baseB ts bt q = bt := by rw [op_baseB, if_neg c2, e0]; rfl
      rw [e1, e2]
      exact ⟨rfl, tb, pb, hS0, aw_md.rf⟩
def sp_byte (v : Int64) (k : Int32) : Int32 := ((v.toUInt64 >>> ((8 * k).toInt64.toUInt64 &&& Int64.toUInt64 63)).toInt64 &&& 255).toInt32
set_option maxRecDepth 100000 in
set_option maxHeartbeats 4000000 in
theorem ev_At_byteOf {l : Launch} {E : aw_E} {g : AH} {n : Nat} (v : Int64) (k : Int32)  : EV l E 0 0 0 y_At_byteOf c_At_byteOf 3 (some .int) g n [.long v, .int k] (aw_Pi (fun r_ g2 n2 => r_ = sp_byte v k ∧ g2 = g ∧ n2 = n)) := by
  refine aw_enter "AddressTerms" [some (.long v), none, some (.int k)] (by decide) rfl rfl (Nat.le_of_ble_eq_true rfl) ?_
  intro p e s m args below meth c S hnm
  refine aw_lload_0 S d_At_byteOf_0 ?_
  refine aw_bipush (v := 8) S d_At_byteOf_1 (by decide) ?_
  refine aw_iload_2 S d_At_byteOf_3 ?_
  refine aw_imul S d_At_byteOf_4 ?_
  refine aw_lushr S d_At_byteOf_5 ?_
  refine aw_ldc2 S n_ct_At_246 d_At_byteOf_6 ?_
  refine aw_land S d_At_byteOf_9 ?_
  refine aw_l2i S d_At_byteOf_10 ?_
  refine aw_iret S rfl d_At_byteOf_11 ?_ (by decide) (by decide)
  exact ⟨rfl, rfl, rfl⟩
/-- the lowest k bytes, the highest of them first -/
def sp_bys (v : Int64) : Nat → List Int32
  | 0 => []
  | k + 1 => sp_byte v (nI k) :: sp_bys v k
def op_tyOK (v : Int64) (k : Int32) : Bool := sp_in k 1 8 && (sp_bys v k.toNatClampNeg).all sp_tape
def op_type (tape : List Int32) (v : Int64) (k : Int32) : Int32 := if op_tyOK v k then (if tape.length + k.toNatClampNeg ≤ 96 then nI (tape.length + k.toNatClampNeg) else -3) else -1
def op_typeT (tape : List Int32) (v : Int64) (k : Int32) : List Int32 := if op_tyOK v k then (if tape.length + k.toNatClampNeg ≤ 96 then tape ++ sp_bys v k.toNatClampNeg else tape) else tape
theorem sp_bys_len (v : Int64) : ∀ k, (sp_bys v k).length = k := by
  intro k
  induction k with
  | zero => rfl
  | succ k ih => rw [sp_bys, List.length_cons, ih]
theorem tape_bt {b : Int32} (h : sp_tape b = true) : sp_bt b := by
  unfold sp_tape sp_in at h
  simp only [Bool.and_eq_true, Bool.not_eq_true', decide_eq_false_iff_not] at h
  have h1 := Int32.not_lt.mp h.1
  have h2 := Int32.not_lt.mp h.2
  exact ⟨Int32.le_trans (by decide) h1, Int32.le_trans h2 (by decide)⟩
theorem sp_bys_all {v : Int64} : ∀ {k i : Nat}, (sp_bys v k).all sp_tape = true → i < k → sp_tape (sp_byte v (nI i)) = true := by
  intro k
  induction k with
  | zero => intro i _ h; exact absurd h (Nat.not_lt_zero i)
  | succ k ih =>
    intro i h hi
    rw [sp_bys, List.all_cons, Bool.and_eq_true] at h
    by_cases q : i = k
    · subst q; exact h.1
    · exact ih h.2 (by omega)
theorem tyIn {j : Nat} (h1 : 1 ≤ j) (h8 : j ≤ 8) : sp_in (nI j) 1 8 = true := by
  have : ∀ j, j < 9 → 1 ≤ j → sp_in (nI j) 1 8 = true := by decide +kernel
  exact this j (by omega) h1
set_option maxRecDepth 100000 in
set_option maxHeartbeats 4000000 in
theorem ev_At_type {l : Launch} {E : aw_E} {g : AH} {n : Nat} {o : Nat} {tb pb : Nat → Nat} {tape pr : List Int32} {ts : List Tmv} {bt : Int32} {ps : List (List Int32 × Nat)} (v : Int64) (k : Int32) (hS0 : AtS E g n o tb pb tape ts bt ps pr) : EV l E 1 0 0 y_At_type c_At_type 5 (some .int) g n [.ref o, .long v, .int k] (aw_Pi (fun r_ g2 n2 => r_ = op_type tape v k ∧ ∃ tb2 pb2, AtS E g2 n2 o tb2 pb2 (op_typeT tape v k) (ts) (bt) (ps) (pr) ∧ aw_md o g g2)) := by
  obtain ⟨hA, hT⟩ := id hS0
  obtain ⟨a1, a2, a3, a4, ⟨a5, ft, a6, a7⟩, ⟨a8, fp, a9, a10⟩, a11, a12, a13, a14, a15⟩ := id hA
  have ht0 := hT.1
  have htp := a3.room
  refine aw_enter "AddressTerms" [some (.ref o), some (.long v), none, some (.int k), none] (by decide) rfl rfl (Nat.le_of_ble_eq_true rfl) ?_
  intro p e s m args below meth c S hnm
  by_cases hk : sp_in k 1 8 = true
  · have hq1 : ¬ k < 1 ∧ ¬ 8 < k := by unfold sp_in at hk; simpa using hk
    obtain ⟨j0, hj0, rfl⟩ := nI_of2 (M := 8) (n := 8) (by decide) (fun h => hq1.1 (Int32.lt_trans h (by decide))) (Int32.not_lt.mp hq1.2)
    have h1j : 1 ≤ j0 := by
      rcases Nat.eq_zero_or_pos j0 with h | h
      · subst h; exact absurd (by decide) hq1.1
      · exact h
    have loop2 : ∀ (i : Nat) (g1 : AH) (zs : List Int32), op_tyOK v (nI j0) = true → tape.length + j0 ≤ 96 → i ≤ j0 → zs ++ sp_bys v i = tape ++ sp_bys v j0 → AtS E g1 n o tb pb zs ts bt ps pr → aw_md o g g1 → AW p l e { frames := 1, cells := 0, slots := 0, locals := 40 * 1 } s m args below meth c E 5 (aw_Z E (aw_Pi (fun r_ g2 n2 => r_ = op_type tape v (nI j0) ∧ ∃ tb2 pb2, AtS E g2 n2 o tb2 pb2 (op_typeT tape v (nI j0)) (ts) (bt) (ps) (pr) ∧ aw_md o g g2)) below args s 0 0) 0 0 g1 n 64 [some (.ref o), some (.long v), none, some (.int (nI j0)), some (.int (nI i - 1))] [] := by
      intro i
      induction i with
      | zero =>
        intro g1 zs hok hlen hi hz hS1 hm1
        rw [sp_bys, List.append_nil] at hz
        refine aw_iload_4 S d_At_type_64 ?_
        refine aw_if_lt S 88 d_At_type_66 (by decide) (fun c66 => ?_) (fun c66 => ?_)
        · refine aw_aload_0 S d_At_type_88 ?_
          refine aw_getf S I_At 0 hS1.1.2.1 n_fl_At_14 d_At_type_89 rfl (by decide) ?_
          refine aw_callViR S (ev_Rw_size hS1.1.2.2.1) mb_Rw_size mi_Rw_size n_ml_At_75 d_At_type_92 I_Rw hS1.1.2.2.1.cell rfl rfl rfl ?_
          refine aw_iret S rfl d_At_type_95 ?_ (by decide) (by decide)
          have e1 : op_type tape v (nI j0) = nI zs.length := by rw [op_type, hok, nI_clamp (by omega), if_pos rfl, if_pos hlen, hz, List.length_append, sp_bys_len]
          have e2 : op_typeT tape v (nI j0) = zs := by rw [op_typeT, hok, nI_clamp (by omega), if_pos rfl, if_pos hlen, hz]
          rw [e1, e2]
          exact ⟨rfl, tb, pb, hS1, hm1⟩
        · exact absurd (by decide) c66
      | succ i ih =>
        intro g1 zs hok hlen hi hz hS1 hm1
        rw [nI_pred]
        rw [sp_bys] at hz
        have hb : sp_bt (sp_byte v (nI i)) := by
          have h1 := (Bool.and_eq_true_iff.mp hok).2
          rw [nI_clamp (by omega)] at h1
          exact tape_bt (sp_bys_all h1 (by omega))
        have hl := congrArg List.length hz
        rw [List.length_append, List.length_cons, List.length_append, sp_bys_len, sp_bys_len] at hl
        refine aw_iload_4 S d_At_type_64 ?_
        refine aw_if_lt S 88 d_At_type_66 (by decide) (fun c66 => ?_) (fun c66 => ?_)
        · exact absurd c66 (nI_pos (by omega))
        · refine aw_aload_0 S d_At_type_69 ?_
          refine aw_getf S I_At 0 hS1.1.2.1 n_fl_At_14 d_At_type_70 rfl (by decide) ?_
          refine aw_lload_1 S d_At_type_73 ?_
          refine aw_iload_4 S d_At_type_74 ?_
          refine aw_callSiR S (ev_At_byteOf v (nI i)) mb_At_byteOf n_st_At_byteOf n_ml_At_67 d_At_type_76 rfl rfl ?_
          refine aw_callVv0 S (ev_Rw_add (sp_byte v (nI i)) hS1.1.2.2.1 hb (by omega)) mb_Rw_add mi_Rw_add n_ml_At_79 d_At_type_79 I_Rw hS1.1.2.2.1.cell rfl rfl rfl (fun g2_ n2_ h_ => ?_)
          obtain ⟨rfl, h1, hF1⟩ := h_
          refine aw_iinc_4 (v := nI i - 1) S d_At_type_82 (dec_i (nI i)) ?_
          refine aw_goto S 64 d_At_type_85 (by decide) ?_
          exact ih _ (zs ++ [sp_byte v (nI i)]) hok hlen (by omega) (by rw [← hz, List.append_assoc]; rfl) ⟨hS1.1.tape hF1 h1, hS1.2.fix hF1 (by omega)⟩ (hm1.tr (aw_md.fr hF1 (by omega)))
    have loop1 : ∀ (j i : Nat), 1 ≤ j0 → j0 ≤ 8 → i + j = j0 → (sp_bys v i).all sp_tape = true → AW p l e { frames := 1, cells := 0, slots := 0, locals := 40 * 1 } s m args below meth c E 5 (aw_Z E (aw_Pi (fun r_ g2 n2 => r_ = op_type tape v (nI j0) ∧ ∃ tb2 pb2, AtS E g2 n2 o tb2 pb2 (op_typeT tape v (nI j0)) (ts) (bt) (ps) (pr) ∧ aw_md o g g2)) below args s 0 0) 0 0 g n 16 [some (.ref o), some (.long v), none, some (.int (nI j0)), some (.int (nI i))] [] := by
      intro j
      induction j with
      | zero =>
        intro i h1 h8 hi hall
        have hij : i = j0 := by omega
        subst hij
        have hok : op_tyOK v (nI i) = true := by rw [op_tyOK, nI_clamp (by omega), hall, tyIn h1 h8]; rfl
        refine aw_iload_4 S d_At_type_16 ?_
        refine aw_iload_3 S d_At_type_18 ?_
        refine aw_icmp_ge S 42 d_At_type_19 (by decide) (fun c19 => ?_) (fun c19 => ?_)
        · refine aw_aload_0 S d_At_type_42 ?_
          refine aw_getf S I_At 0 a2 n_fl_At_14 d_At_type_43 rfl (by decide) ?_
          refine aw_callViR S (ev_Rw_size a3) mb_Rw_size mi_Rw_size n_ml_At_75 d_At_type_46 I_Rw a3.cell rfl rfl rfl ?_
          refine aw_iload_3 S d_At_type_49 ?_
          refine aw_iadd S d_At_type_50 ?_
          rw [nI_add]
          refine aw_bipush (v := 96) S d_At_type_51 (by decide) ?_
          refine aw_icmp_le S 59 d_At_type_53 (by decide) (fun c53 => ?_) (fun c53 => ?_)
          · rw [show (96 : Int32) = nI 96 from rfl, nI_leI (by omega) (by omega)] at c53
            refine aw_iload_3 S d_At_type_59 ?_
            refine aw_iconst (v := 1) S d_At_type_60 (by decide) ?_
            refine aw_isub S d_At_type_61 ?_
            refine aw_istore_4 S d_At_type_62 ?_
            exact loop2 i g tape hok c53 (Nat.le_refl _) rfl hS0 aw_md.rf
          · rw [show (96 : Int32) = nI 96 from rfl, nI_leI (by omega) (by omega)] at c53
            refine aw_bipush (v := -3) S d_At_type_56 (by decide) ?_
            refine aw_iret S rfl d_At_type_58 ?_ (by decide) (by decide)
            have e1 : op_type tape v (nI i) = -3 := by rw [op_type, hok, nI_clamp (by omega), if_pos rfl, if_neg c53]
            have e2 : op_typeT tape v (nI i) = tape := by rw [op_typeT, hok, nI_clamp (by omega), if_pos rfl, if_neg c53]
            rw [e1, e2]
            exact ⟨rfl, tb, pb, hS0, aw_md.rf⟩
        · exact absurd (nI_le (by omega) (by omega)) c19
      | succ j ih =>
        intro i h1 h8 hi hall
        refine aw_iload_4 S d_At_type_16 ?_
        refine aw_iload_3 S d_At_type_18 ?_
        refine aw_icmp_ge S 42 d_At_type_19 (by decide) (fun c19 => ?_) (fun c19 => ?_)
        · exact absurd c19 (nI_ge (by omega) (by omega))
        · refine aw_lload_1 S d_At_type_22 ?_
          refine aw_iload_4 S d_At_type_23 ?_
          refine aw_callSiR S (ev_At_byteOf v (nI i)) mb_At_byteOf n_st_At_byteOf n_ml_At_67 d_At_type_25 rfl rfl ?_
          refine aw_callSiR S (ev_At_isTapeByte (sp_byte v (nI i))) mb_At_isTapeByte n_st_At_isTapeByte n_ml_At_71 d_At_type_28 rfl rfl ?_
          refine aw_if_ne S 36 d_At_type_31 (by decide) (fun c31 => ?_) (fun c31 => ?_)
          · refine aw_iinc_4 (v := nI (i + 1)) S d_At_type_36 (inc_1 i) ?_
            refine aw_goto S 16 d_At_type_39 (by decide) ?_
            exact ih (i + 1) h1 h8 (by omega) (by rw [sp_bys, List.all_cons, aw_b_t c31, hall]; rfl)
          · refine aw_iconst (v := -1) S d_At_type_34 (by decide) ?_
            refine aw_iret S rfl d_At_type_35 ?_ (by decide) (by decide)
            have hok : op_tyOK v (nI j0) = false := by
              rw [op_tyOK, nI_clamp (by omega)]
              cases h : (sp_bys v j0).all sp_tape with
              | false => exact Bool.and_false _
              | true => have h2 := sp_bys_all h (show i < j0 by omega); rw [aw_b_f c31] at h2; cases h2
            have e1 : op_type tape v (nI j0) = -1 := by rw [op_type, hok]; rfl
            have e2 : op_typeT tape v (nI j0) = tape := by rw [op_typeT, hok]; rfl
            rw [e1, e2]
            exact ⟨rfl, tb, pb, hS0, aw_md.rf⟩
    refine aw_iload_3 S d_At_type_0 ?_
    refine aw_iconst (v := 1) S d_At_type_1 (by decide) ?_
    refine aw_icmp_lt S 11 d_At_type_2 (by decide) (fun c2 => ?_) (fun c2 => ?_)
    · exact absurd c2 hq1.1
    · refine aw_iload_3 S d_At_type_5 ?_
      refine aw_bipush (v := 8) S d_At_type_6 (by decide) ?_
      refine aw_icmp_le S 13 d_At_type_8 (by decide) (fun c8 => ?_) (fun c8 => ?_)
      · refine aw_iconst (v := 0) S d_At_type_13 (by decide) ?_
        refine aw_topi nI_0.symm ?_
        refine aw_istore_4 S d_At_type_14 ?_
        exact loop1 j0 0 h1j hj0 (by omega) rfl
      · exact absurd (Int32.not_lt.mp hq1.2) c8
  · have hq : sp_in k 1 8 = false := by cases h : sp_in k 1 8 with
      | false => rfl
      | true => exact absurd h hk
    refine aw_iload_3 S d_At_type_0 ?_
    refine aw_iconst (v := 1) S d_At_type_1 (by decide) ?_
    refine aw_icmp_lt S 11 d_At_type_2 (by decide) (fun c2 => ?_) (fun c2 => ?_)
    · refine aw_iconst (v := -1) S d_At_type_11 (by decide) ?_
      refine aw_iret S rfl d_At_type_12 ?_ (by decide) (by decide)
      have e1 : op_type tape v k = -1 := by rw [op_type, op_tyOK, hq]; rfl
      have e2 : op_typeT tape v k = tape := by rw [op_typeT, op_tyOK, hq]; rfl
      rw [e1, e2]
      exact ⟨rfl, tb, pb, hS0, aw_md.rf⟩
    · refine aw_iload_3 S d_At_type_5 ?_
      refine aw_bipush (v := 8) S d_At_type_6 (by decide) ?_
      refine aw_icmp_le S 13 d_At_type_8 (by decide) (fun c8 => ?_) (fun c8 => ?_)
      · exfalso
        apply hk
        unfold sp_in
        simp [c2, Int32.not_lt.mpr c8]
      · refine aw_iconst (v := -1) S d_At_type_11 (by decide) ?_
        refine aw_iret S rfl d_At_type_12 ?_ (by decide) (by decide)
        have e1 : op_type tape v k = -1 := by rw [op_type, op_tyOK, hq]; rfl
        have e2 : op_typeT tape v k = tape := by rw [op_typeT, op_tyOK, hq]; rfl
        rw [e1, e2]
        exact ⟨rfl, tb, pb, hS0, aw_md.rf⟩
