/-! the class's state -/
/-- a term: kind, sort, number, text, tag -/
abbrev Tmv : Type := Int32 × Int32 × Int32 × List Int32 × List Int32
def tm_d : Tmv := (0, 0, 0, [], [])
def tmG (ts : List Tmv) (i : Nat) : Tmv := ts.getD i tm_d
def IsTv (E : aw_E) (g : AH) (a N1 N2 : Nat) (v : Tmv) : Prop := IsTm E g a N1 N2 v.1 v.2.1 v.2.2.1 v.2.2.2.1 v.2.2.2.2
def ixOf (L : Nat) (p : Int32) : Option Nat := if p < 0 then none else if nI L ≤ p then none else some p.toNatClampNeg
def ixK (ts : List Tmv) (k p : Int32) : Option Nat := match ixOf ts.length p with
  | some i => if (tmG ts i).1 = k then some i else none
  | none => none
theorem ixOf_lt {L : Nat} {p : Int32} {i : Nat} (hL : L < 2 ^ 31) (h : ixOf L p = some i) : i < L ∧ p = nI i := by
  unfold ixOf at h
  split at h
  · cases h
  · split at h
    · cases h
    · next h1 h2 =>
      obtain ⟨j, hj, rfl⟩ := ix_of hL h1 h2
      rw [nI_clamp (by omega)] at h
      cases h
      exact ⟨hj, rfl⟩
theorem ixOf_nI {L i : Nat} (hL : L < 2 ^ 31) (h : i < L) : ixOf L (nI i) = some i := by
  unfold ixOf
  rw [if_neg (nI_pos (by omega)), if_neg (nI_ge h hL), nI_clamp (by omega)]
theorem ixK_some {ts : List Tmv} {k p : Int32} {i : Nat} (h : ixK ts k p = some i) : ixOf ts.length p = some i ∧ (tmG ts i).1 = k := by
  unfold ixK at h
  cases h1 : ixOf ts.length p with
  | none => rw [h1] at h; cases h
  | some j =>
    rw [h1] at h
    dsimp only at h
    split at h
    · cases h; exact ⟨rfl, by assumption⟩
    · cases h
/-- the cells that are made once: tape, printed, the two tables, what is made up, the two readings, the resolver -/
def AtF (E : aw_E) (g : AH) (o : Nat) (tb pb : Nat → Nat) (tape : List Int32) (L : Nat) (bt : Int32) (K : Nat) (pr : List Int32) : Prop :=
  E.2.2.1 ≤ o ∧ g o = some (.inr (5, [.ref (o + 1), .ref (o + 3), .ref (o + 5), .ref (o + 6), .ref (o + 7), .ref (o + 12), .ref (o + 17), .ref (o + 22), .int (nI L), .int (nI K), .int bt])) ∧
  IsRow E g (o + 1) 96 tape ∧ IsRow E g (o + 3) 108 pr ∧
  (L ≤ 60 ∧ ∃ ft : Nat → Option Nat, g (o + 5) = some (.inl (E.2.1 2, 60, .inr (.inr (.inr (.inr ft))))) ∧ ∀ i, i < L → ft i = some (tb i)) ∧
  (K ≤ 8 ∧ ∃ fp : Nat → Option Nat, g (o + 6) = some (.inl (E.2.1 3, 8, .inr (.inr (.inr (.inr fp))))) ∧ ∀ i, i < K → fp i = some (pb i)) ∧
  (∃ v : Tmv, IsTv E g (o + 7) 197 16 v) ∧ (∃ r fb fe, IsRf E g (o + 12) r fb fe) ∧ (∃ r fb fe, IsRf E g (o + 17) r fb fe) ∧
  g (o + 22) = some (.inr (2, [.ref (o + 23)])) ∧ ∃ zs, IsRow E g (o + 23) 197 zs
/-- the terms and the prefixes: their cells, apart from each other and behind all else -/
def AtT (E : aw_E) (g : AH) (n o : Nat) (tb pb : Nat → Nat) (ts : List Tmv) (ps : List (List Int32 × Nat)) : Prop :=
  o + 46 ≤ n ∧ (∀ i, i < ts.length → o + 46 ≤ tb i ∧ tb i + 5 ≤ n ∧ ∃ N1 N2, IsTv E g (tb i) N1 N2 (tmG ts i)) ∧
  (∀ j, j < ps.length → o + 46 ≤ pb j ∧ pb j + 3 ≤ n ∧ (ps.getD j ([], 0)).2 < ts.length ∧ (tmG ts (ps.getD j ([], 0)).2).1 = 0 ∧ IsPx E g (pb j) (tb (ps.getD j ([], 0)).2 + 1) ∧ ∃ N, IsRow E g (pb j + 1) N (ps.getD j ([], 0)).1) ∧
  (∀ i j, i < ts.length → j < ps.length → tb i + 5 ≤ pb j ∨ pb j + 3 ≤ tb i) ∧ (∀ i j, i < ps.length → j < ps.length → i ≠ j → pb i + 3 ≤ pb j ∨ pb j + 3 ≤ pb i)
theorem IsPx.keep {E : aw_E} {g g2 : AH} {a b : Nat} (h : IsPx E g a b) (h1 : g2 a = g a) : IsPx E g2 a b := ⟨h.1, h1.trans h.2⟩
theorem IsTv.keep {E : aw_E} {g g2 : AH} {a N1 N2 : Nat} {v : Tmv} (h : IsTv E g a N1 N2 v) (h1 : ∀ x, a ≤ x → x < a + 5 → g2 x = g x) : IsTv E g2 a N1 N2 v :=
  ⟨h.1, (h1 a (by omega) (by omega)).trans h.2.1, h.2.2.1.keep (h1 _ (by omega) (by omega)) (h1 _ (by omega) (by omega)), h.2.2.2.keep (h1 _ (by omega) (by omega)) (h1 _ (by omega) (by omega))⟩
theorem AtT.fr {E : aw_E} {g g2 : AH} {n o : Nat} {tb pb : Nat → Nat} {ts : List Tmv} {ps : List (List Int32 × Nat)} (h : AtT E g n o tb pb ts ps) (hf : ∀ x, o + 46 ≤ x → x < n → g2 x = g x) : AtT E g2 n o tb pb ts ps := by
  obtain ⟨h0, h1, h2, h3, h4⟩ := h
  refine ⟨h0, fun i hi => ?_, fun j hj => ?_, h3, h4⟩
  · obtain ⟨q1, q2, N1, N2, q3⟩ := h1 i hi
    exact ⟨q1, q2, N1, N2, q3.keep (fun x _ _ => hf x (by omega) (by omega))⟩
  · obtain ⟨q1, q2, q3, q4, q5, N, q6⟩ := h2 j hj
    exact ⟨q1, q2, q3, q4, q5.keep (hf _ (by omega) (by omega)), N, q6.keep (hf _ (by omega) (by omega)) (hf _ (by omega) (by omega))⟩
theorem IsTv.fr {E : aw_E} {g g2 : AH} {a N1 N2 b j : Nat} {v : Tmv} (h : IsTv E g a N1 N2 v) (hf : aw_fr g g2 b j) (hd : a + 5 ≤ b ∨ b + j ≤ a) : IsTv E g2 a N1 N2 v := IsTm.fr h hf hd
theorem AtF.tape {E : aw_E} {g g2 : AH} {o L K : Nat} {tb pb : Nat → Nat} {tape pr : List Int32} {bt : Int32} {tape2 : List Int32} (hA : AtF E g o tb pb tape L bt K pr) (hf : aw_fr g g2 (o + 1) 2) (hn : IsRow E g2 (o + 1) 96 tape2) : AtF E g2 o tb pb tape2 L bt K pr := by
  obtain ⟨a1, a2, a3, a4, ⟨a5, ft, a6, a7⟩, ⟨a8, fp, a9, a10⟩, a11, a12, a13, a14, a15⟩ := hA
  exact ⟨a1, (hf o (by omega)).trans a2, hn, a4.fr hf (by omega), ⟨a5, ft, (hf _ (by omega)).trans a6, a7⟩, ⟨a8, fp, (hf _ (by omega)).trans a9, a10⟩, ⟨_, a11.choose_spec.fr hf (by omega)⟩, (by obtain ⟨r, fb, fe, h⟩ := a12; exact ⟨r, fb, fe, h.fr hf (by omega)⟩), (by obtain ⟨r, fb, fe, h⟩ := a13; exact ⟨r, fb, fe, h.fr hf (by omega)⟩), (hf _ (by omega)).trans a14, (by obtain ⟨zs, h⟩ := a15; exact ⟨zs, h.fr hf (by omega)⟩)⟩
theorem AtF.printed {E : aw_E} {g g2 : AH} {o L K : Nat} {tb pb : Nat → Nat} {tape pr : List Int32} {bt : Int32} {pr2 : List Int32} (hA : AtF E g o tb pb tape L bt K pr) (hf : aw_fr g g2 (o + 3) 2) (hn : IsRow E g2 (o + 3) 108 pr2) : AtF E g2 o tb pb tape L bt K pr2 := by
  obtain ⟨a1, a2, a3, a4, ⟨a5, ft, a6, a7⟩, ⟨a8, fp, a9, a10⟩, a11, a12, a13, a14, a15⟩ := hA
  exact ⟨a1, (hf o (by omega)).trans a2, a3.fr hf (by omega), hn, ⟨a5, ft, (hf _ (by omega)).trans a6, a7⟩, ⟨a8, fp, (hf _ (by omega)).trans a9, a10⟩, ⟨_, a11.choose_spec.fr hf (by omega)⟩, (by obtain ⟨r, fb, fe, h⟩ := a12; exact ⟨r, fb, fe, h.fr hf (by omega)⟩), (by obtain ⟨r, fb, fe, h⟩ := a13; exact ⟨r, fb, fe, h.fr hf (by omega)⟩), (hf _ (by omega)).trans a14, (by obtain ⟨zs, h⟩ := a15; exact ⟨zs, h.fr hf (by omega)⟩)⟩
theorem AtF.wanted {E : aw_E} {g g2 : AH} {o L K : Nat} {tb pb : Nat → Nat} {tape pr : List Int32} {bt : Int32} (hA : AtF E g o tb pb tape L bt K pr) (hf : aw_fr g g2 (o + 7) 5) (hn : ∃ v : Tmv, IsTv E g2 (o + 7) 197 16 v) : AtF E g2 o tb pb tape L bt K pr := by
  obtain ⟨a1, a2, a3, a4, ⟨a5, ft, a6, a7⟩, ⟨a8, fp, a9, a10⟩, a11, a12, a13, a14, a15⟩ := hA
  exact ⟨a1, (hf o (by omega)).trans a2, a3.fr hf (by omega), a4.fr hf (by omega), ⟨a5, ft, (hf _ (by omega)).trans a6, a7⟩, ⟨a8, fp, (hf _ (by omega)).trans a9, a10⟩, hn, (by obtain ⟨r, fb, fe, h⟩ := a12; exact ⟨r, fb, fe, h.fr hf (by omega)⟩), (by obtain ⟨r, fb, fe, h⟩ := a13; exact ⟨r, fb, fe, h.fr hf (by omega)⟩), (hf _ (by omega)).trans a14, (by obtain ⟨zs, h⟩ := a15; exact ⟨zs, h.fr hf (by omega)⟩)⟩
theorem AtF.given {E : aw_E} {g g2 : AH} {o L K : Nat} {tb pb : Nat → Nat} {tape pr : List Int32} {bt : Int32} (hA : AtF E g o tb pb tape L bt K pr) (hf : aw_fr g g2 (o + 12) 3) (hn : ∃ r fb fe, IsRf E g2 (o + 12) r fb fe) : AtF E g2 o tb pb tape L bt K pr := by
  obtain ⟨a1, a2, a3, a4, ⟨a5, ft, a6, a7⟩, ⟨a8, fp, a9, a10⟩, a11, a12, a13, a14, a15⟩ := hA
  exact ⟨a1, (hf o (by omega)).trans a2, a3.fr hf (by omega), a4.fr hf (by omega), ⟨a5, ft, (hf _ (by omega)).trans a6, a7⟩, ⟨a8, fp, (hf _ (by omega)).trans a9, a10⟩, ⟨_, a11.choose_spec.fr hf (by omega)⟩, hn, (by obtain ⟨r, fb, fe, h⟩ := a13; exact ⟨r, fb, fe, h.fr hf (by omega)⟩), (hf _ (by omega)).trans a14, (by obtain ⟨zs, h⟩ := a15; exact ⟨zs, h.fr hf (by omega)⟩)⟩
theorem AtF.known {E : aw_E} {g g2 : AH} {o L K : Nat} {tb pb : Nat → Nat} {tape pr : List Int32} {bt : Int32} (hA : AtF E g o tb pb tape L bt K pr) (hf : aw_fr g g2 (o + 17) 3) (hn : ∃ r fb fe, IsRf E g2 (o + 17) r fb fe) : AtF E g2 o tb pb tape L bt K pr := by
  obtain ⟨a1, a2, a3, a4, ⟨a5, ft, a6, a7⟩, ⟨a8, fp, a9, a10⟩, a11, a12, a13, a14, a15⟩ := hA
  exact ⟨a1, (hf o (by omega)).trans a2, a3.fr hf (by omega), a4.fr hf (by omega), ⟨a5, ft, (hf _ (by omega)).trans a6, a7⟩, ⟨a8, fp, (hf _ (by omega)).trans a9, a10⟩, ⟨_, a11.choose_spec.fr hf (by omega)⟩, (by obtain ⟨r, fb, fe, h⟩ := a12; exact ⟨r, fb, fe, h.fr hf (by omega)⟩), hn, (hf _ (by omega)).trans a14, (by obtain ⟨zs, h⟩ := a15; exact ⟨zs, h.fr hf (by omega)⟩)⟩
theorem AtF.path {E : aw_E} {g g2 : AH} {o L K : Nat} {tb pb : Nat → Nat} {tape pr : List Int32} {bt : Int32} (hA : AtF E g o tb pb tape L bt K pr) (hf : aw_fr g g2 (o + 23) 2) (hn : ∃ zs, IsRow E g2 (o + 23) 197 zs) : AtF E g2 o tb pb tape L bt K pr := by
  obtain ⟨a1, a2, a3, a4, ⟨a5, ft, a6, a7⟩, ⟨a8, fp, a9, a10⟩, a11, a12, a13, a14, a15⟩ := hA
  exact ⟨a1, (hf o (by omega)).trans a2, a3.fr hf (by omega), a4.fr hf (by omega), ⟨a5, ft, (hf _ (by omega)).trans a6, a7⟩, ⟨a8, fp, (hf _ (by omega)).trans a9, a10⟩, ⟨_, a11.choose_spec.fr hf (by omega)⟩, (by obtain ⟨r, fb, fe, h⟩ := a12; exact ⟨r, fb, fe, h.fr hf (by omega)⟩), (by obtain ⟨r, fb, fe, h⟩ := a13; exact ⟨r, fb, fe, h.fr hf (by omega)⟩), (hf _ (by omega)).trans a14, hn⟩
theorem AtT.fix {E : aw_E} {g g2 : AH} {n o b k : Nat} {tb pb : Nat → Nat} {ts : List Tmv} {ps : List (List Int32 × Nat)} (h : AtT E g n o tb pb ts ps) (hf : aw_fr g g2 b k) (hd : b + k ≤ o + 46) : AtT E g2 n o tb pb ts ps := h.fr (fun x _ _ => hf x (by omega))
set_option maxRecDepth 100000 in
set_option maxHeartbeats 4000000 in
theorem ev_At_termAt {l : Launch} {E : aw_E} {g : AH} {n : Nat} {o : Nat} {tb pb : Nat → Nat} {tape pr : List Int32} {ts : List Tmv} {bt : Int32} {ps : List (List Int32 × Nat)} (q : Int32) (hA : AtF E g o tb pb tape ts.length bt ps.length pr) : EV l E 0 0 0 y_At_termAt c_At_termAt 2 (some (.object "AddressTerms$Term")) g n [.ref o, .int q] (aw_Pq (fun r_ g2 n2 => r_ = (ixOf ts.length q).map tb ∧ g2 = g ∧ n2 = n)) := by
  obtain ⟨a1, a2, a3, a4, ⟨a5, ft, a6, a7⟩, ⟨a8, fp, a9, a10⟩, a11, a12, a13, a14, a15⟩ := id hA
  refine aw_enter "AddressTerms" [some (.ref o), some (.int q)] (by decide) rfl rfl (Nat.le_of_ble_eq_true rfl) ?_
  intro p e s m args below meth c S hnm
  refine aw_iload_1 S d_At_termAt_0 ?_
  refine aw_if_lt S 30 d_At_termAt_1 (by decide) (fun c1 => ?_) (fun c1 => ?_)
  · refine aw_null S d_At_termAt_30 ?_
    refine aw_aret (v := none) S _ rfl d_At_termAt_31 ?_ (by decide) (by decide)
    exact ⟨by rw [ixOf, if_pos c1]; rfl, rfl, rfl⟩
  · refine aw_iload_1 S d_At_termAt_4 ?_
    refine aw_aload_0 S d_At_termAt_5 ?_
    refine aw_getf S I_At 8 a2 n_fl_At_57 d_At_termAt_6 rfl (by decide) ?_
    refine aw_icmp_ge S 30 d_At_termAt_9 (by decide) (fun c9 => ?_) (fun c9 => ?_)
    · refine aw_null S d_At_termAt_30 ?_
      refine aw_aret (v := none) S _ rfl d_At_termAt_31 ?_ (by decide) (by decide)
      exact ⟨by rw [ixOf, if_neg c1, if_pos c9]; rfl, rfl, rfl⟩
    · obtain ⟨j, hj, rfl⟩ := ix_of (by omega) c1 c9
      refine aw_iload_1 S d_At_termAt_12 ?_
      refine aw_aload_0 S d_At_termAt_13 ?_
      refine aw_getf S I_At 2 a2 n_fl_At_23 d_At_termAt_14 rfl (by decide) ?_
      refine aw_alen S 2 rfl a6 d_At_termAt_17 ?_
      refine aw_icmp_ge S 30 d_At_termAt_18 (by decide) (fun c18 => ?_) (fun c18 => ?_)
      · exact absurd c18 (nI_ge (by omega) (by omega))
      · refine aw_aload_0 S d_At_termAt_21 ?_
        refine aw_getf S I_At 2 a2 n_fl_At_23 d_At_termAt_22 rfl (by decide) ?_
        refine aw_iload_1 S d_At_termAt_25 ?_
        refine aw_aald S 2 rfl a6 d_At_termAt_26 (vp_in_nI (by omega) (by omega)) ?_
        refine aw_goto S 31 d_At_termAt_27 (by decide) ?_
        refine aw_aret (v := ft (nI j).toNatClampNeg) S _ rfl d_At_termAt_31 ?_ (by decide) (by decide)
        refine ⟨?_, rfl, rfl⟩
        rw [ixOf_nI (by omega) hj, nI_clamp (by omega), a7 j hj]
        rfl
set_option maxRecDepth 100000 in
set_option maxHeartbeats 4000000 in
theorem ev_At_prefixAt {l : Launch} {E : aw_E} {g : AH} {n : Nat} {o : Nat} {tb pb : Nat → Nat} {tape pr : List Int32} {ts : List Tmv} {bt : Int32} {ps : List (List Int32 × Nat)} (q : Int32) (hA : AtF E g o tb pb tape ts.length bt ps.length pr) : EV l E 0 0 0 y_At_prefixAt c_At_prefixAt 2 (some (.object "AddressTerms$Prefix")) g n [.ref o, .int q] (aw_Pq (fun r_ g2 n2 => r_ = (ixOf ps.length q).map pb ∧ g2 = g ∧ n2 = n)) := by
  obtain ⟨a1, a2, a3, a4, ⟨a5, ft, a6, a7⟩, ⟨a8, fp, a9, a10⟩, a11, a12, a13, a14, a15⟩ := id hA
  refine aw_enter "AddressTerms" [some (.ref o), some (.int q)] (by decide) rfl rfl (Nat.le_of_ble_eq_true rfl) ?_
  intro p e s m args below meth c S hnm
  refine aw_iload_1 S d_At_prefixAt_0 ?_
  refine aw_if_lt S 30 d_At_prefixAt_1 (by decide) (fun c1 => ?_) (fun c1 => ?_)
  · refine aw_null S d_At_prefixAt_30 ?_
    refine aw_aret (v := none) S _ rfl d_At_prefixAt_31 ?_ (by decide) (by decide)
    exact ⟨by rw [ixOf, if_pos c1]; rfl, rfl, rfl⟩
  · refine aw_iload_1 S d_At_prefixAt_4 ?_
    refine aw_aload_0 S d_At_prefixAt_5 ?_
    refine aw_getf S I_At 9 a2 n_fl_At_61 d_At_prefixAt_6 rfl (by decide) ?_
    refine aw_icmp_ge S 30 d_At_prefixAt_9 (by decide) (fun c9 => ?_) (fun c9 => ?_)
    · refine aw_null S d_At_prefixAt_30 ?_
      refine aw_aret (v := none) S _ rfl d_At_prefixAt_31 ?_ (by decide) (by decide)
      exact ⟨by rw [ixOf, if_neg c1, if_pos c9]; rfl, rfl, rfl⟩
    · obtain ⟨j, hj, rfl⟩ := ix_of (by omega) c1 c9
      refine aw_iload_1 S d_At_prefixAt_12 ?_
      refine aw_aload_0 S d_At_prefixAt_13 ?_
      refine aw_getf S I_At 3 a2 n_fl_At_29 d_At_prefixAt_14 rfl (by decide) ?_
      refine aw_alen S 3 rfl a9 d_At_prefixAt_17 ?_
      refine aw_icmp_ge S 30 d_At_prefixAt_18 (by decide) (fun c18 => ?_) (fun c18 => ?_)
      · exact absurd c18 (nI_ge (by omega) (by omega))
      · refine aw_aload_0 S d_At_prefixAt_21 ?_
        refine aw_getf S I_At 3 a2 n_fl_At_29 d_At_prefixAt_22 rfl (by decide) ?_
        refine aw_iload_1 S d_At_prefixAt_25 ?_
        refine aw_aald S 3 rfl a9 d_At_prefixAt_26 (vp_in_nI (by omega) (by omega)) ?_
        refine aw_goto S 31 d_At_prefixAt_27 (by decide) ?_
        refine aw_aret (v := fp (nI j).toNatClampNeg) S _ rfl d_At_prefixAt_31 ?_ (by decide) (by decide)
        refine ⟨?_, rfl, rfl⟩
        rw [ixOf_nI (by omega) hj, nI_clamp (by omega), a10 j hj]
        rfl
set_option maxRecDepth 100000 in
set_option maxHeartbeats 4000000 in
theorem ev_At_addressAt {l : Launch} {E : aw_E} {g : AH} {n : Nat} {o : Nat} {tb pb : Nat → Nat} {tape pr : List Int32} {ts : List Tmv} {bt : Int32} {ps : List (List Int32 × Nat)} (q : Int32) (hA : AtF E g o tb pb tape ts.length bt ps.length pr) (hT : AtT E g n o tb pb ts ps) : EV l E 1 0 0 y_At_addressAt c_At_addressAt 3 (some (.object "AddressTerms$Term")) g n [.ref o, .int q] (aw_Pq (fun r_ g2 n2 => r_ = (ixK ts 0 q).map tb ∧ g2 = g ∧ n2 = n)) := by
  obtain ⟨a1, a2, a3, a4, ⟨a5, ft, a6, a7⟩, ⟨a8, fp, a9, a10⟩, a11, a12, a13, a14, a15⟩ := id hA
  refine aw_enter "AddressTerms" [some (.ref o), some (.int q), none] (by decide) rfl rfl (Nat.le_of_ble_eq_true rfl) ?_
  intro p e s m args below meth c S hnm
  refine aw_aload_0 S d_At_addressAt_0 ?_
  refine aw_iload_1 S d_At_addressAt_1 ?_
  refine aw_callVqR S (ev_At_termAt q hA) mb_At_termAt mi_At_termAt n_ml_At_122 d_At_addressAt_2 I_At a2 rfl rfl rfl ?_
  refine aw_astoreQ_2 S d_At_addressAt_5 ?_
  refine aw_aloadQ_2 S d_At_addressAt_6 ?_
  refine aw_ifnull S 21 d_At_addressAt_7 (by decide) (fun c7 => ?_) (fun y7 c7 => ?_)
  · refine aw_null S d_At_addressAt_21 ?_
    refine aw_aret (v := none) S _ rfl d_At_addressAt_22 ?_ (by decide) (by decide)
    refine ⟨?_, rfl, rfl⟩
    rw [ixK, Option.map_eq_none_iff.mp c7]
    rfl
  · obtain ⟨i, hi, rfl⟩ := Option.map_eq_some_iff.mp c7
    obtain ⟨q1, q2, N1, N2, q3⟩ := hT.2.1 i (ixOf_lt (by omega) hi).1
    have hc0 := q3.2.1
    rw [hi]
    refine aw_aload_2 S d_At_addressAt_10 ?_
    refine aw_getf S I_Tm 2 hc0 n_fl_At_125 d_At_addressAt_11 rfl (by decide) ?_
    refine aw_if_ne S 21 d_At_addressAt_14 (by decide) (fun c14 => ?_) (fun c14 => ?_)
    · refine aw_null S d_At_addressAt_21 ?_
      refine aw_aret (v := none) S _ rfl d_At_addressAt_22 ?_ (by decide) (by decide)
      refine ⟨?_, rfl, rfl⟩
      rw [ixK, hi]
      dsimp only
      rw [if_neg c14]
      rfl
    · refine aw_aload_2 S d_At_addressAt_17 ?_
      refine aw_goto S 22 d_At_addressAt_18 (by decide) ?_
      refine aw_aret (v := some (tb i)) S _ rfl d_At_addressAt_22 ?_ (by decide) (by decide)
      refine ⟨?_, rfl, rfl⟩
      rw [ixK, hi]
      dsimp only
      rw [if_pos c14]
      rfl
set_option maxRecDepth 100000 in
set_option maxHeartbeats 4000000 in
theorem ev_At_literalAt {l : Launch} {E : aw_E} {g : AH} {n : Nat} {o : Nat} {tb pb : Nat → Nat} {tape pr : List Int32} {ts : List Tmv} {bt : Int32} {ps : List (List Int32 × Nat)} (q : Int32) (hA : AtF E g o tb pb tape ts.length bt ps.length pr) (hT : AtT E g n o tb pb ts ps) : EV l E 1 0 0 y_At_literalAt c_At_literalAt 3 (some (.object "AddressTerms$Term")) g n [.ref o, .int q] (aw_Pq (fun r_ g2 n2 => r_ = (ixK ts 2 q).map tb ∧ g2 = g ∧ n2 = n)) := by
  obtain ⟨a1, a2, a3, a4, ⟨a5, ft, a6, a7⟩, ⟨a8, fp, a9, a10⟩, a11, a12, a13, a14, a15⟩ := id hA
  refine aw_enter "AddressTerms" [some (.ref o), some (.int q), none] (by decide) rfl rfl (Nat.le_of_ble_eq_true rfl) ?_
  intro p e s m args below meth c S hnm
  refine aw_aload_0 S d_At_literalAt_0 ?_
  refine aw_iload_1 S d_At_literalAt_1 ?_
  refine aw_callVqR S (ev_At_termAt q hA) mb_At_termAt mi_At_termAt n_ml_At_122 d_At_literalAt_2 I_At a2 rfl rfl rfl ?_
  refine aw_astoreQ_2 S d_At_literalAt_5 ?_
  refine aw_aloadQ_2 S d_At_literalAt_6 ?_
  refine aw_ifnull S 22 d_At_literalAt_7 (by decide) (fun c7 => ?_) (fun y7 c7 => ?_)
  · refine aw_null S d_At_literalAt_22 ?_
    refine aw_aret (v := none) S _ rfl d_At_literalAt_23 ?_ (by decide) (by decide)
    refine ⟨?_, rfl, rfl⟩
    rw [ixK, Option.map_eq_none_iff.mp c7]
    rfl
  · obtain ⟨i, hi, rfl⟩ := Option.map_eq_some_iff.mp c7
    obtain ⟨q1, q2, N1, N2, q3⟩ := hT.2.1 i (ixOf_lt (by omega) hi).1
    have hc0 := q3.2.1
    rw [hi]
    refine aw_aload_2 S d_At_literalAt_10 ?_
    refine aw_getf S I_Tm 2 hc0 n_fl_At_125 d_At_literalAt_11 rfl (by decide) ?_
    refine aw_iconst (v := 2) S d_At_literalAt_14 (by decide) ?_
    refine aw_icmp_ne S 22 d_At_literalAt_15 (by decide) (fun c15 => ?_) (fun c15 => ?_)
    · refine aw_null S d_At_literalAt_22 ?_
      refine aw_aret (v := none) S _ rfl d_At_literalAt_23 ?_ (by decide) (by decide)
      refine ⟨?_, rfl, rfl⟩
      rw [ixK, hi]
      dsimp only
      rw [if_neg c15]
      rfl
    · refine aw_aload_2 S d_At_literalAt_18 ?_
      refine aw_goto S 23 d_At_literalAt_19 (by decide) ?_
      refine aw_aret (v := some (tb i)) S _ rfl d_At_literalAt_23 ?_ (by decide) (by decide)
      refine ⟨?_, rfl, rfl⟩
      rw [ixK, hi]
      dsimp only
      rw [if_pos c15]
      rfl
