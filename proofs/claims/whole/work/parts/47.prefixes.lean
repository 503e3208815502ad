/-! the class: prefixes -/
abbrev Pfv : Type := List Int32 × Nat
def pfG (ps : List Pfv) (j : Nat) : Pfv := ps.getD j ([], 0)
def sp_pfF (nm : List Int32) : List Pfv → Nat → Option Nat
  | [], _ => none
  | p :: r, k => if sp_cmp p.1 nm = 0 then some k else sp_pfF nm r (k + 1)
def op_preR (tape : List Int32) (ts : List Tmv) (ps : List Pfv) (q : Int32) : Int32 := match ixK ts 0 q with
  | none => -1
  | some _ => if sp_name tape then (match sp_pfF tape ps 0 with
    | some _ => 0
    | none => if ps.length < 8 then 1 else -3) else -1
def op_preP (tape : List Int32) (ts : List Tmv) (ps : List Pfv) (q : Int32) : List Pfv := match ixK ts 0 q with
  | none => ps
  | some i => if sp_name tape then (match sp_pfF tape ps 0 with
    | some j => ps.set j ((pfG ps j).1, i)
    | none => if ps.length < 8 then ps ++ [(tape, i)] else ps) else ps
theorem pdrop {ps : List Pfv} {k : Nat} (h : k < ps.length) : ps.drop k = pfG ps k :: ps.drop (k + 1) := by
  rw [List.drop_eq_getElem_cons h, pfG]
  simp [List.getD_eq_getElem?_getD, List.getElem?_eq_getElem h]
theorem pfG_app {ps : List Pfv} {v : Pfv} {i : Nat} (h : i < ps.length) : pfG (ps ++ [v]) i = pfG ps i := by
  simp [pfG, List.getD_eq_getElem?_getD, List.getElem?_append_left h]
theorem pfG_new {ps : List Pfv} {v : Pfv} : pfG (ps ++ [v]) ps.length = v := by
  simp [pfG, List.getD_eq_getElem?_getD]
theorem pfG_set {ps : List Pfv} {v : Pfv} {i : Nat} (h : i < ps.length) : pfG (ps.set i v) i = v := by
  simp [pfG, List.getD_eq_getElem?_getD, h]
theorem pfG_ne {ps : List Pfv} {v : Pfv} {i j : Nat} (h : i ≠ j) : pfG (ps.set i v) j = pfG ps j := by
  simp [pfG, List.getD_eq_getElem?_getD, List.getElem?_set_ne h]
theorem AtS.setp {E : aw_E} {g : AH} {n o i j : Nat} {tb pb : Nat → Nat} {tape pr : List Int32} {ts : List Tmv} {bt : Int32} {ps : List Pfv} (hS : AtS E g n o tb pb tape ts bt ps pr) (hj : j < ps.length) (hi : i < ts.length) (hk : (tmG ts i).1 = 0) : AtS E (aw_up g (pb j) (.inr (0, [.ref (pb j + 1), .ref (tb i + 1)]))) n o tb pb tape ts bt (ps.set j ((pfG ps j).1, i)) pr ∧ aw_md o g (aw_up g (pb j) (.inr (0, [.ref (pb j + 1), .ref (tb i + 1)]))) := by
  obtain ⟨hA, t0, t1, t2, t3, t4⟩ := hS
  obtain ⟨p1, p2, p3, p4, p5, N, p6⟩ := t2 j hj
  have hf : aw_fr g (aw_up g (pb j) (.inr (0, [.ref (pb j + 1), .ref (tb i + 1)]))) (pb j) 1 := fun x hx => aw_up_n (by omega)
  have e : (ps.set j ((pfG ps j).1, i)).length = ps.length := List.length_set
  refine ⟨⟨?_, t0, fun k hk2 => ?_, fun k hk2 => ?_, fun k m q1 q2 => t3 k m q1 (by omega), fun k m q1 q2 q3 => t4 k m (by omega) (by omega) q3⟩, fun x q1 q2 => hf x (by omega)⟩
  · rw [e]
    obtain ⟨a1, a2, a3, a4, ⟨a5, ft, a6, a7⟩, ⟨a8, fp, a9, a10⟩, a11, a12, a13, a14, a15⟩ := hA
    exact ⟨a1, (hf o (by omega)).trans a2, a3.fr hf (by omega), a4.fr hf (by omega), ⟨a5, ft, (hf _ (by omega)).trans a6, a7⟩, ⟨a8, fp, (hf _ (by omega)).trans a9, a10⟩, ⟨_, a11.choose_spec.fr hf (by omega)⟩, (by obtain ⟨r, fb, fe, h⟩ := a12; exact ⟨r, fb, fe, h.fr hf (by omega)⟩), (by obtain ⟨r, fb, fe, h⟩ := a13; exact ⟨r, fb, fe, h.fr hf (by omega)⟩), (hf _ (by omega)).trans a14, (by obtain ⟨zs, h⟩ := a15; exact ⟨zs, h.fr hf (by omega)⟩)⟩
  · obtain ⟨q1, q2, M1, M2, q3⟩ := t1 k hk2
    exact ⟨q1, q2, M1, M2, q3.fr hf (by have := t3 k j hk2 hj; omega)⟩
  · rw [e] at hk2
    obtain ⟨q1, q2, q3, q4, q5, M, q6⟩ := t2 k hk2
    by_cases hkj : k = j
    · subst hkj
      have e2 : (ps.set k ((pfG ps k).1, i)).getD k ([], 0) = ((pfG ps k).1, i) := pfG_set hk2
      rw [e2]
      exact ⟨q1, q2, hi, hk, ⟨q5.1, aw_up_s _ _ _⟩, M, q6.fr hf (by omega)⟩
    · have e2 : (ps.set j ((pfG ps j).1, i)).getD k ([], 0) = ps.getD k ([], 0) := pfG_ne (fun z => hkj z.symm)
      have := t4 k j hk2 hj hkj
      rw [e2]
      exact ⟨q1, q2, q3, q4, q5.keep (hf _ (by omega)), M, q6.fr hf (by omega)⟩
theorem AtS.addp {E : aw_E} {g g3 : AH} {n o N i : Nat} {tb pb : Nat → Nat} {tape pr nm : List Int32} {ts : List Tmv} {bt : Int32} {ps : List Pfv} {fp : Nat → Option Nat} (hA : AtF E g o tb pb tape ts.length bt ps.length pr) (hT : AtT E g n o tb pb ts ps) (hf : ∀ x, x ≠ o → x ≠ o + 6 → x < n → g3 x = g x)
    (h1 : g3 o = some (.inr (5, [.ref (o + 1), .ref (o + 3), .ref (o + 5), .ref (o + 6), .ref (o + 7), .ref (o + 12), .ref (o + 17), .ref (o + 22), .int (nI ts.length), .int (nI (ps.length + 1)), .int bt]))) (h2 : g3 (o + 6) = some (.inl (E.2.1 3, 8, .inr (.inr (.inr (.inr fp)))))) (h3 : ∀ i, i < ps.length + 1 → fp i = some (tbN pb ps.length n i)) (h4 : IsPx E g3 n (tb i + 1)) (h5 : IsRow E g3 (n + 1) N nm) (hi : i < ts.length) (hk : (tmG ts i).1 = 0) (hL : ps.length < 8) : AtS E g3 (n + 3) o tb (tbN pb ps.length n) tape ts bt (ps ++ [(nm, i)]) pr := by
  obtain ⟨a1, a2, a3, a4, ⟨a5, ft, a6, a7⟩, -, a11, a12, a13, a14, a15⟩ := hA
  obtain ⟨t0, t1, t2, t3, t4⟩ := hT
  have e : (ps ++ [(nm, i)]).length = ps.length + 1 := by simp
  have kp : ∀ x, o < x → x < o + 46 → x ≠ o + 6 → g3 x = g x := fun x q1 q2 q3 => hf x (by omega) q3 (by omega)
  refine ⟨⟨a1, by rw [e]; exact h1, a3.keep (kp _ (by omega) (by omega) (by omega)) (kp _ (by omega) (by omega) (by omega)), a4.keep (kp _ (by omega) (by omega) (by omega)) (kp _ (by omega) (by omega) (by omega)), ⟨a5, ft, (kp _ (by omega) (by omega) (by omega)).trans a6, a7⟩, ⟨by omega, fp, h2, by rw [e]; exact h3⟩, ?_, ?_, ?_, (kp _ (by omega) (by omega) (by omega)).trans a14, ?_⟩, ⟨by omega, ?_, ?_, ?_, ?_⟩⟩
  · obtain ⟨w, hw⟩ := a11
    exact ⟨w, hw.keep (fun x q1 q2 => kp x (by omega) (by omega) (by omega))⟩
  · obtain ⟨r, fb, fe, h⟩ := a12
    exact ⟨r, fb, fe, h.1, (kp _ (by omega) (by omega) (by omega)).trans h.2.1, (kp _ (by omega) (by omega) (by omega)).trans h.2.2.1, (kp _ (by omega) (by omega) (by omega)).trans h.2.2.2⟩
  · obtain ⟨r, fb, fe, h⟩ := a13
    exact ⟨r, fb, fe, h.1, (kp _ (by omega) (by omega) (by omega)).trans h.2.1, (kp _ (by omega) (by omega) (by omega)).trans h.2.2.1, (kp _ (by omega) (by omega) (by omega)).trans h.2.2.2⟩
  · obtain ⟨zs, h⟩ := a15
    exact ⟨zs, h.keep (kp _ (by omega) (by omega) (by omega)) (kp _ (by omega) (by omega) (by omega))⟩
  · intro k hk2
    obtain ⟨q1, q2, M1, M2, q3⟩ := t1 k hk2
    exact ⟨q1, by omega, M1, M2, q3.keep (fun x y1 y2 => hf x (by omega) (by omega) (by omega))⟩
  · intro j hj
    by_cases q : j = ps.length
    · subst q
      have e2 : (ps ++ [(nm, i)]).getD ps.length ([], 0) = (nm, i) := pfG_new
      rw [e2, tbN_s]
      exact ⟨t0, Nat.le_refl _, hi, hk, h4, N, h5⟩
    · have e2 : (ps ++ [(nm, i)]).getD j ([], 0) = ps.getD j ([], 0) := pfG_app (by omega)
      obtain ⟨q1, q2, q3, q4, q5, M, q6⟩ := t2 j (by omega)
      rw [e2, tbN_n q]
      exact ⟨q1, by omega, q3, q4, q5.keep (hf _ (by omega) (by omega) (by omega)), M, q6.keep (hf _ (by omega) (by omega) (by omega)) (hf _ (by omega) (by omega) (by omega))⟩
  · intro k j hk2 hj
    by_cases q : j = ps.length
    · subst q
      rw [tbN_s]
      have := (t1 k hk2).2.1
      omega
    · rw [tbN_n q]
      exact t3 k j hk2 (by omega)
  · intro k j hk2 hj hne
    by_cases q : j = ps.length
    · subst q
      rw [tbN_s, tbN_n hne]
      have := (t2 k (by omega)).2.1
      omega
    · rw [tbN_n q]
      by_cases q2 : k = ps.length
      · subst q2
        rw [tbN_s]
        have := (t2 j (by omega)).2.1
        omega
      · rw [tbN_n q2]
        exact t4 k j (by omega) (by omega) hne
set_option maxRecDepth 100000 in
set_option maxHeartbeats 4000000 in
theorem ev_At_nameOnTape {l : Launch} {E : aw_E} {g : AH} {n : Nat} {o : Nat} {tb pb : Nat → Nat} {tape pr : List Int32} {ts : List Tmv} {bt : Int32} {ps : List (List Int32 × Nat)} (q : Int32) (hS0 : AtS E g n o tb pb tape ts bt ps pr) : EV l E 3 3 1004 y_At_nameOnTape c_At_nameOnTape 5 (some .int) g n [.ref o, .int q] (aw_Pi (fun r_ g2 n2 => r_ = op_preR tape ts ps q ∧ ∃ tb2 pb2, AtS E g2 n2 o tb2 pb2 (tape) (ts) (bt) (op_preP tape ts ps q) (pr) ∧ aw_md o g g2)) := by
  obtain ⟨hA, hT⟩ := id hS0
  obtain ⟨a1, a2, a3, a4, ⟨a5, ft, a6, a7⟩, ⟨a8, fp, a9, a10⟩, a11, a12, a13, a14, a15⟩ := id hA
  have ht0 := hT.1
  have htp := a3.room
  refine aw_enter "AddressTerms" [some (.ref o), some (.int q), none, none, none] (by decide) rfl rfl (Nat.le_of_ble_eq_true rfl) ?_
  intro p e s m args below meth c S hnm
  refine aw_aload_0 S d_At_nameOnTape_0 ?_
  refine aw_iload_1 S d_At_nameOnTape_1 ?_
  refine aw_callVqR S (ev_At_addressAt q hA hT) mb_At_addressAt mi_At_addressAt n_ml_At_88 d_At_nameOnTape_2 I_At a2 rfl rfl rfl ?_
  refine aw_astoreQ_2 S d_At_nameOnTape_5 ?_
  refine aw_aloadQ_2 S d_At_nameOnTape_6 ?_
  refine aw_ifnull S 20 d_At_nameOnTape_7 (by decide) (fun c7 => ?_) (fun y7 c7 => ?_)
  · refine aw_iconst (v := -1) S d_At_nameOnTape_20 (by decide) ?_
    refine aw_iret S rfl d_At_nameOnTape_21 ?_ (by decide) (by decide)
    have hn := Option.map_eq_none_iff.mp c7
    have e1 : op_preR tape ts ps q = -1 := by rw [op_preR, hn]
    have e2 : op_preP tape ts ps q = ps := by rw [op_preP, hn]
    rw [e1, e2]
    exact ⟨rfl, tb, pb, hS0, aw_md.rf⟩
  · obtain ⟨i, hi, rfl⟩ := Option.map_eq_some_iff.mp c7
    obtain ⟨hia, hib⟩ := ixK_some hi
    have hilt := (ixOf_lt (by omega) hia).1
    obtain ⟨q1, q2, N1, N2, hB⟩ := hT.2.1 i hilt
    rw [hi]
    refine aw_aload_0 S d_At_nameOnTape_10 ?_
    refine aw_getf S I_At 0 a2 n_fl_At_14 d_At_nameOnTape_11 rfl (by decide) ?_
    refine aw_callSiR S (ev_At_isName a3) mb_At_isName n_st_At_isName n_ml_At_194 d_At_nameOnTape_14 rfl rfl ?_
    refine aw_if_ne S 22 d_At_nameOnTape_17 (by decide) (fun c17 => ?_) (fun c17 => ?_)
    · have hnm2 : sp_name tape = true := aw_b_t c17
      have loop : ∀ (j k : Nat) (x : Option Value), k + j = ps.length → sp_pfF tape (ps.drop k) k = sp_pfF tape ps 0 → AW p l e { frames := 3, cells := 3, slots := 1004, locals := 40 * 3 } s m args below meth c E 5 (aw_Z E (aw_Pi (fun r_ g2 n2 => r_ = op_preR tape ts ps q ∧ ∃ tb2 pb2, AtS E g2 n2 o tb2 pb2 (tape) (ts) (bt) (op_preP tape ts ps q) (pr) ∧ aw_md o g g2)) below args s 3 1004) 0 0 g n 24 [some (.ref o), some (.int q), some (.ref (tb i)), some (.int (nI k)), x] [] := by
        intro j
        induction j with
        | zero =>
          intro k x hk hv
          rw [List.drop_eq_nil_iff.mpr (show ps.length ≤ k by omega), sp_pfF] at hv
          refine aw_iload_3 S d_At_nameOnTape_24 ?_
          refine aw_aload_0 S d_At_nameOnTape_25 ?_
          refine aw_getf S I_At 9 a2 n_fl_At_61 d_At_nameOnTape_26 rfl (by decide) ?_
          refine aw_icmp_ge S 76 d_At_nameOnTape_29 (by decide) (fun c29 => ?_) (fun c29 => ?_)
          · refine aw_aload_0 S d_At_nameOnTape_76 ?_
            refine aw_getf S I_At 9 a2 n_fl_At_61 d_At_nameOnTape_77 rfl (by decide) ?_
            refine aw_if_lt S 95 d_At_nameOnTape_80 (by decide) (fun c80 => ?_) (fun c80 => ?_)
            · exact absurd c80 (nI_pos (by omega))
            · refine aw_aload_0 S d_At_nameOnTape_83 ?_
              refine aw_getf S I_At 9 a2 n_fl_At_61 d_At_nameOnTape_84 rfl (by decide) ?_
              refine aw_aload_0 S d_At_nameOnTape_87 ?_
              refine aw_getf S I_At 3 a2 n_fl_At_29 d_At_nameOnTape_88 rfl (by decide) ?_
              refine aw_alen S 3 rfl a9 d_At_nameOnTape_91 ?_
              refine aw_icmp_lt S 98 d_At_nameOnTape_92 (by decide) (fun c92 => ?_) (fun c92 => ?_)
              · rw [nI_ltI (by omega) (by omega)] at c92
                refine aw_aload_0 S d_At_nameOnTape_98 ?_
                refine aw_getf S I_At 3 a2 n_fl_At_29 d_At_nameOnTape_99 rfl (by decide) ?_
                refine aw_aload_0 S d_At_nameOnTape_102 ?_
                refine aw_getf S I_At 9 a2 n_fl_At_61 d_At_nameOnTape_103 rfl (by decide) ?_
                refine aw_new S I_Px n_cl_At_27 n_ib_Px n_ini_Px d_At_nameOnTape_106 [.null, .null] (fun j hj => by rcases (show j = 0 ∨ j = 1 by omega) with rfl | rfl <;> rfl) (by decide) (by decide) ?_
                obtain ⟨g0, hg0⟩ : ∃ z, z = aw_up g n (.inr (0, [.null, .null])) := ⟨_, rfl⟩
                rw [← hg0]
                have hF0 : aw_fr g g0 n 1 := fun x hx => by rw [hg0, aw_up_n (by omega)]
                have hc0 : g0 n = some (.inr (0, [.null, .null])) := by rw [hg0, aw_up_s]
                refine aw_dup S d_At_nameOnTape_109 rfl ?_
                refine aw_aload_0 S d_At_nameOnTape_110 ?_
                refine aw_getf S I_At 0 ((hF0 o (by omega)).trans a2) n_fl_At_14 d_At_nameOnTape_111 rfl (by decide) ?_
                refine aw_callVqA S 3 1004 (ev_Rw_copy (a3.fr hF0 (by omega)) (by omega)) mb_Rw_copy mi_Rw_copy n_ml_At_210 d_At_nameOnTape_114 I_Rw (a3.fr hF0 (by omega)).cell rfl rfl rfl (fun v_ g2_ n2_ h_ => ?_)
                obtain ⟨rfl, rfl, h1, hF1⟩ := h_
                refine aw_aload_2 S d_At_nameOnTape_117 ?_
                refine aw_getf S I_Tm 0 ((hF1 _ (by omega)).trans ((hF0 _ (by omega)).trans hB.2.1)) n_fl_At_109 d_At_nameOnTape_118 rfl (by decide) ?_
                refine aw_callIv0 S (ev_Px_init (a := n) (b := tb i + 1) (by omega) ((hF1 n (by omega)).trans hc0)) mb_Px_init n_im_Px_init rfl n_ml_At_213 d_At_nameOnTape_121 rfl rfl (fun g2_ n2_ h_ => ?_)
                obtain ⟨rfl, h2, hF2⟩ := h_
                have hk : ∀ x, x < n → g2_ x = g x := fun x hx => (hF2 x (by omega)).trans ((hF1 x (by omega)).trans (hF0 x (by omega)))
                refine aw_aast S 3 I_Px rfl ((hk _ (by omega)).trans a9) h2.2 d_At_nameOnTape_124 (by omega) (vp_in_nI (by omega) (by omega)) ?_
                refine aw_aload_0 S d_At_nameOnTape_125 ?_
                refine aw_dup S d_At_nameOnTape_126 rfl ?_
                refine aw_getf S I_At 9 (by rw [aw_up_n (by omega)]; exact (hk o (by omega)).trans a2) n_fl_At_61 d_At_nameOnTape_127 rfl (by decide) ?_
                refine aw_iconst (v := 1) S d_At_nameOnTape_130 (by decide) ?_
                refine aw_iadd S d_At_nameOnTape_131 ?_
                refine aw_putf (fs2 := [.ref (o + 1), .ref (o + 3), .ref (o + 5), .ref (o + 6), .ref (o + 7), .ref (o + 12), .ref (o + 17), .ref (o + 22), .int (nI ts.length), .int (nI ps.length + 1), .int bt]) S I_At 9 (by rw [aw_up_n (by omega)]; exact (hk o (by omega)).trans a2) n_fl_At_61 d_At_nameOnTape_132 rfl a1 rfl rfl rfl (by decide) (Nat.le_of_ble_eq_true rfl) ?_
                refine aw_iconst (v := 1) S d_At_nameOnTape_135 (by decide) ?_
                refine aw_iret S rfl d_At_nameOnTape_136 ?_ (by decide) (by decide)
                have e1 : op_preR tape ts ps q = 1 := by rw [op_preR, hi]; dsimp only; rw [hnm2, if_pos rfl, ← hv]; dsimp only; rw [if_pos c92]
                have e2 : op_preP tape ts ps q = ps ++ [(tape, i)] := by rw [op_preP, hi]; dsimp only; rw [hnm2, if_pos rfl, ← hv]; dsimp only; rw [if_pos c92]
                rw [e1, e2, nI_clamp (by omega)]
                refine ⟨rfl, tb, tbN pb ps.length n, AtS.addp (fp := va_up fp ps.length (some n)) hA hT (fun x y1 y2 y3 => ?_) (by rw [aw_up_s, nI_1]) (by rw [aw_up_n (by omega), aw_up_s]) (fun k hk2 => ?_) (h2.keep ?_) (h1.keep ?_ ?_) hilt hib c92, ?_⟩
                · rw [aw_up_n y1, aw_up_n y2]; exact hk x y3
                · by_cases z : k = ps.length
                  · subst z
                    rw [show va_up fp ps.length (some n) ps.length = some n from if_pos rfl, tbN_s]
                  · rw [show va_up fp ps.length (some n) k = fp k from if_neg z, tbN_n z]
                    exact a10 k (by omega)
                · rw [aw_up_n (by omega), aw_up_n (by omega)]
                · rw [aw_up_n (by omega), aw_up_n (by omega)]; exact hF2 _ (by omega)
                · rw [aw_up_n (by omega), aw_up_n (by omega)]; exact hF2 _ (by omega)
                · intro x y1 y2
                  rw [aw_up_n (by omega), aw_up_n (by omega)]; exact hk x (by omega)
              · rw [nI_ltI (by omega) (by omega)] at c92
                refine aw_bipush (v := -3) S d_At_nameOnTape_95 (by decide) ?_
                refine aw_iret S rfl d_At_nameOnTape_97 ?_ (by decide) (by decide)
                have e1 : op_preR tape ts ps q = -3 := by rw [op_preR, hi]; dsimp only; rw [hnm2, if_pos rfl, ← hv]; dsimp only; rw [if_neg c92]
                have e2 : op_preP tape ts ps q = ps := by rw [op_preP, hi]; dsimp only; rw [hnm2, if_pos rfl, ← hv]; dsimp only; rw [if_neg c92]
                rw [e1, e2]
                exact ⟨rfl, tb, pb, hS0, aw_md.rf⟩
          · exact absurd (nI_le (by omega) (by omega)) c29
        | succ j ih =>
          intro k x hk hv
          have hkx : k < ps.length := by omega
          rw [pdrop hkx, sp_pfF] at hv
          obtain ⟨u1, u2, u3, u4, u5, M, u6⟩ := hT.2.2.1 k hkx
          refine aw_iload_3 S d_At_nameOnTape_24 ?_
          refine aw_aload_0 S d_At_nameOnTape_25 ?_
          refine aw_getf S I_At 9 a2 n_fl_At_61 d_At_nameOnTape_26 rfl (by decide) ?_
          refine aw_icmp_ge S 76 d_At_nameOnTape_29 (by decide) (fun c29 => ?_) (fun c29 => ?_)
          · exact absurd c29 (nI_ge (by omega) (by omega))
          · refine aw_aload_0 S d_At_nameOnTape_32 ?_
            refine aw_iload_3 S d_At_nameOnTape_33 ?_
            refine aw_callVqR S (ev_At_prefixAt (nI k) hA) mb_At_prefixAt mi_At_prefixAt n_ml_At_198 d_At_nameOnTape_34 I_At a2 rfl rfl rfl ?_
            rw [ixOf_nI (by omega) hkx]
            refine aw_astoreQ_4 S d_At_nameOnTape_37 ?_
            refine aw_aloadQ_4 S d_At_nameOnTape_39 ?_
            refine aw_ifnull S 70 d_At_nameOnTape_41 (by decide) (fun c41 => ?_) (fun y41 c41 => ?_)
            · cases c41
            · refine aw_aload_4 S d_At_nameOnTape_44 ?_
              refine aw_getf S I_Px 0 u5.2 n_fl_At_202 d_At_nameOnTape_46 rfl (by decide) ?_
              refine aw_aload_0 S d_At_nameOnTape_49 ?_
              refine aw_getf S I_At 0 a2 n_fl_At_14 d_At_nameOnTape_50 rfl (by decide) ?_
              refine aw_callViR S (ev_Rw_order u6 a3) mb_Rw_order mi_Rw_order n_ml_At_205 d_At_nameOnTape_53 I_Rw u6.cell rfl rfl rfl ?_
              refine aw_if_ne S 70 d_At_nameOnTape_56 (by decide) (fun c56 => ?_) (fun c56 => ?_)
              · refine aw_iinc_3 (v := nI (k + 1)) S d_At_nameOnTape_70 (inc_1 k) ?_
                refine aw_goto S 24 d_At_nameOnTape_73 (by decide) ?_
                rw [if_neg (show ¬ sp_cmp (pfG ps k).1 tape = 0 from c56)] at hv
                exact ih (k + 1) _ (by omega) hv
              · refine aw_aload_4 S d_At_nameOnTape_59 ?_
                refine aw_aload_2 S d_At_nameOnTape_61 ?_
                refine aw_getf S I_Tm 0 hB.2.1 n_fl_At_109 d_At_nameOnTape_62 rfl (by decide) ?_
                refine aw_putf (fs2 := [.ref (pb k + 1), .ref (tb i + 1)]) S I_Px 1 u5.2 n_fl_At_207 d_At_nameOnTape_65 rfl u5.1 rfl rfl rfl (by decide) (Nat.le_of_ble_eq_true rfl) ?_
                refine aw_iconst (v := 0) S d_At_nameOnTape_68 (by decide) ?_
                refine aw_iret S rfl d_At_nameOnTape_69 ?_ (by decide) (by decide)
                rw [if_pos (show sp_cmp (pfG ps k).1 tape = 0 from c56)] at hv
                have e1 : op_preR tape ts ps q = 0 := by rw [op_preR, hi]; dsimp only; rw [hnm2, if_pos rfl, ← hv]
                have e2 : op_preP tape ts ps q = ps.set k ((pfG ps k).1, i) := by rw [op_preP, hi]; dsimp only; rw [hnm2, if_pos rfl, ← hv]
                rw [e1, e2]
                obtain ⟨z1, z2⟩ := hS0.setp hkx hilt hib
                exact ⟨rfl, tb, pb, z1, z2⟩
      refine aw_iconst (v := 0) S d_At_nameOnTape_22 (by decide) ?_
      refine aw_topi nI_0.symm ?_
      refine aw_istore_3 S d_At_nameOnTape_23 ?_
      exact loop ps.length 0 none (by omega) rfl
    · refine aw_iconst (v := -1) S d_At_nameOnTape_20 (by decide) ?_
      refine aw_iret S rfl d_At_nameOnTape_21 ?_ (by decide) (by decide)
      have e1 : op_preR tape ts ps q = -1 := by rw [op_preR, hi]; dsimp only; rw [aw_b_f c17]; rfl
      have e2 : op_preP tape ts ps q = ps := by rw [op_preP, hi]; dsimp only; rw [aw_b_f c17]; rfl
      rw [e1, e2]
      exact ⟨rfl, tb, pb, hS0, aw_md.rf⟩
set_option maxRecDepth 100000 in
set_option maxHeartbeats 4000000 in
theorem ev_At_prefix {l : Launch} {E : aw_E} {g : AH} {n : Nat} {o : Nat} {tb pb : Nat → Nat} {tape pr : List Int32} {ts : List Tmv} {bt : Int32} {ps : List (List Int32 × Nat)} (q : Int32) (hS0 : AtS E g n o tb pb tape ts bt ps pr) : EV l E 4 3 1004 y_At_prefix c_At_prefix 3 (some .int) g n [.ref o, .int q] (aw_Pi (fun r_ g2 n2 => r_ = op_preR tape ts ps q ∧ ∃ tb2 pb2, AtS E g2 n2 o tb2 pb2 ([]) (ts) (bt) (op_preP tape ts ps q) (pr) ∧ aw_md o g g2)) := by
  obtain ⟨hA, hT⟩ := id hS0
  obtain ⟨a1, a2, a3, a4, ⟨a5, ft, a6, a7⟩, ⟨a8, fp, a9, a10⟩, a11, a12, a13, a14, a15⟩ := id hA
  have ht0 := hT.1
  have htp := a3.room
  refine aw_enter "AddressTerms" [some (.ref o), some (.int q), none] (by decide) rfl rfl (Nat.le_of_ble_eq_true rfl) ?_
  intro p e s m args below meth c S hnm
  refine aw_aload_0 S d_At_prefix_0 ?_
  refine aw_iload_1 S d_At_prefix_1 ?_
  refine aw_callViA S 3 1004 (ev_At_nameOnTape q hS0) mb_At_nameOnTape mi_At_nameOnTape n_ml_At_106 d_At_prefix_2 I_At a2 rfl rfl rfl (fun v_ g2_ n2_ h_ => ?_)
  obtain ⟨rfl, tb2, pb2, hS2, hm2⟩ := h_
  refine aw_istore_2 S d_At_prefix_5 ?_
  refine aw_aload_0 S d_At_prefix_6 ?_
  refine aw_getf S I_At 0 hS2.1.2.1 n_fl_At_14 d_At_prefix_7 rfl (by decide) ?_
  refine aw_iconst (v := 0) S d_At_prefix_10 (by decide) ?_
  refine aw_topi nI_0.symm ?_
  refine aw_callVv0 S (ev_Rw_cutTo 0 hS2.1.2.2.1 (by decide)) mb_Rw_cutTo mi_Rw_cutTo n_ml_At_85 d_At_prefix_11 I_Rw hS2.1.2.2.1.cell rfl rfl rfl (fun g2_ n2_ h_ => ?_)
  obtain ⟨rfl, h3, hF3⟩ := h_
  refine aw_iload_2 S d_At_prefix_14 ?_
  refine aw_iret S rfl d_At_prefix_15 ?_ (by decide) (by decide)
  exact ⟨rfl, tb2, pb2, ⟨hS2.1.tape hF3 (by simpa using h3), hS2.2.fix hF3 (by omega)⟩, hm2.tr (aw_md.fr hF3 (by omega))⟩
