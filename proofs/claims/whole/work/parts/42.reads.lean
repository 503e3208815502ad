/-! the class's reads -/
section AWStr2
variable {p : Program} {l : Launch} {e : Env} {R : Room} {s : State} {m : MethodId} {args : Array Value} {below : List Frame} {meth : Method} {c : Code} {E : aw_E} {cc : ByteArray} {nL : Nat} {own : String} {ret : Option FieldType} {Q : State → Prop} {mc ms : Nat} {g : AH} {n pc : Nat} {lv : List (Option Value)} {st st0 : List Value}
theorem aw_ldcwS (S : aw_C p s m args meth c E cc nL own ret) (i : Nat) (hi : i < 30) {k : Nat} (hs : st_s i = (own, k)) (hd : decode cc pc = .ok (.ldc_w k, 3)) (kk : AW p l e R s m args below meth c E nL Q mc ms g n (pc + 3) lv (.ref (E.2.2.2.1 i) :: st)) : AW p l e R s m args below meth c E nL Q mc ms g n pc lv st := by
  intro H locs ls hR hS hl
  obtain ⟨⟨tx, h1⟩, -⟩ := S.2.2.1.1 i hi
  rw [hs] at h1
  intro T hT X
  obtain ⟨t, a1, b1⟩ := kk H locs ls hR hS hl T hT X
  exact ⟨t, X.ldcStringW S.1.1 (text := tx) (a := E.2.2.2.1 i) S.1.2.2.2.1 h1.1 h1.2 (g := F0 m pc ls st) rfl (by rw [S.1.2.1]; exact hd) t a1, b1⟩
end AWStr2
def AtS (E : aw_E) (g : AH) (n o : Nat) (tb pb : Nat → Nat) (tape : List Int32) (ts : List Tmv) (bt : Int32) (ps : List (List Int32 × Nat)) (pr : List Int32) : Prop := AtF E g o tb pb tape ts.length bt ps.length pr ∧ AtT E g n o tb pb ts ps
/-- the reference's own cells stay -/
def aw_md (o : Nat) (g g2 : AH) : Prop := ∀ x, o + 25 ≤ x → x < o + 46 → g2 x = g x
theorem aw_md.fr {o b k : Nat} {g g2 : AH} (h : aw_fr g g2 b k) (hb : b + k ≤ o + 25 ∨ o + 46 ≤ b) : aw_md o g g2 := fun x h1 h2 => h x (by omega)
theorem aw_md.tr {o : Nat} {g g2 g3 : AH} (h : aw_md o g g2) (h2 : aw_md o g2 g3) : aw_md o g g3 := fun x h3 h4 => (h2 x h3 h4).trans (h x h3 h4)
theorem aw_md.rf {o : Nat} {g : AH} : aw_md o g g := fun _ _ _ => rfl
def op_kind (ts : List Tmv) (a : Int32) : Int32 := match ixOf ts.length a with
  | some i => (tmG ts i).1
  | none => -1
def op_sort (ts : List Tmv) (a : Int32) : Int32 := match ixK ts 2 a with
  | some i => (tmG ts i).2.1
  | none => -1
def op_at (pr : List Int32) (i : Int32) : Int32 := if sp_at pr i = -1 then -2 else sp_at pr i
def op_count (tape : List Int32) (ts : List Tmv) (ps : List (List Int32 × Nat)) (w : Int32) : Int32 := if w = 0 then nI ts.length else if w = 1 then nI ps.length else if w = 2 then nI tape.length else -1
def tmO (u v : Tmv) : Int32 := sp_tord u.1 u.2.1 u.2.2.1 u.2.2.2.1 u.2.2.2.2 v.1 v.2.1 v.2.2.1 v.2.2.2.1 v.2.2.2.2
def op_cmp (ts : List Tmv) (a b : Int32) : Int32 := match ixOf ts.length a, ixOf ts.length b with
  | some i, some j => tmO (tmG ts i) (tmG ts j)
  | _, _ => -2
def sp_sgn (xs : List Int32) : Nat := if xs.getD 0 (-1) = 43 ∨ xs.getD 0 (-1) = 45 then 1 else 0
def sp_wh (xs : List Int32) : Bool := decide (1 ≤ xs.length - sp_sgn xs) && (decide (xs.length - sp_sgn xs ≤ 18) && (xs.drop (sp_sgn xs)).all sp_dig)
def sp_wvF : Int64 → List Int32 → Int64
  | v, [] => v
  | v, b :: r => sp_wvF (v * 10 + (b - 48).toInt64) r
def sp_wv (xs : List Int32) : Int64 := if xs.getD 0 (-1) = 45 then -(sp_wvF 0 (xs.drop (sp_sgn xs))) else sp_wvF 0 (xs.drop (sp_sgn xs))
def sp_tr (xs : List Int32) : Bool := decide (xs = [116, 114, 117, 101]) || decide (xs = [49])
def sp_fa (xs : List Int32) : Bool := decide (xs = [102, 97, 108, 115, 101]) || decide (xs = [48])
def sp_same (u v : Tmv) : Bool := if u.1 = 2 ∧ v.1 = 2 ∧ u.2.1 = v.2.1 then (if u.2.1 = 2 then (sp_wh u.2.2.2.1 && (sp_wh v.2.2.2.1 && decide (sp_wv u.2.2.2.1 = sp_wv v.2.2.2.1))) else if u.2.1 = 3 then ((sp_tr u.2.2.2.1 && sp_tr v.2.2.2.1) || (sp_fa u.2.2.2.1 && sp_fa v.2.2.2.1)) else false) else false
def op_alike (ts : List Tmv) (a b : Int32) : Int32 := match ixOf ts.length a, ixOf ts.length b with
  | some i, some j => if a = b then 1 else aw_b (sp_same (tmG ts i) (tmG ts j))
  | _, _ => -1
theorem cmp0 {x y : Int64} : lg_cmp x y = 0 ↔ x = y := by
  unfold lg_cmp
  constructor
  · intro h
    split at h
    · exact absurd h (by decide)
    · split at h
      · assumption
      · exact absurd h (by decide)
  · rintro rfl
    rw [if_neg (show ¬ x > x from Int64.lt_irrefl), if_pos rfl]
theorem aw_nlq (x : Option Nat) : (!((va_rf x).category == 2)) = true := by cases x <;> rfl
theorem sp_sgn_le (xs : List Int32) : sp_sgn xs ≤ xs.length := by
  unfold sp_sgn
  split
  · cases xs with
    | nil => next h => rcases h with h | h <;> exact absurd h (by decide)
    | cons b q => simp
  · exact Nat.zero_le _
set_option maxRecDepth 100000 in
set_option maxHeartbeats 4000000 in
theorem ev_At_kind {l : Launch} {E : aw_E} {g : AH} {n : Nat} {o : Nat} {tb pb : Nat → Nat} {tape pr : List Int32} {ts : List Tmv} {bt : Int32} {ps : List (List Int32 × Nat)} (q : Int32) (hA : AtF E g o tb pb tape ts.length bt ps.length pr) (hT : AtT E g n o tb pb ts ps) : EV l E 1 0 0 y_At_kind c_At_kind 3 (some .int) g n [.ref o, .int q] (aw_Pi (fun r_ g2 n2 => r_ = op_kind ts q ∧ g2 = g ∧ n2 = n)) := by
  obtain ⟨a1, a2, a3, a4, ⟨a5, ft, a6, a7⟩, ⟨a8, fp, a9, a10⟩, a11, a12, a13, a14, a15⟩ := id hA
  refine aw_enter "AddressTerms" [some (.ref o), some (.int q), none] (by decide) rfl rfl (Nat.le_of_ble_eq_true rfl) ?_
  intro p e s m args below meth c S hnm
  refine aw_aload_0 S d_At_kind_0 ?_
  refine aw_iload_1 S d_At_kind_1 ?_
  refine aw_callVqR S (ev_At_termAt q hA) mb_At_termAt mi_At_termAt n_ml_At_122 d_At_kind_2 I_At a2 rfl rfl rfl ?_
  refine aw_astoreQ_2 S d_At_kind_5 ?_
  refine aw_aloadQ_2 S d_At_kind_6 ?_
  refine aw_ifnonnull S 14 d_At_kind_7 (by decide) (fun y7 c7 => ?_) (fun c7 => ?_)
  · obtain ⟨i, hi, rfl⟩ := Option.map_eq_some_iff.mp c7
    obtain ⟨qi1, qi2, Ni1, Ni2, qi3⟩ := hT.2.1 i (ixOf_lt (by omega) hi).1
    rw [hi]
    refine aw_aload_2 S d_At_kind_14 ?_
    refine aw_getf S I_Tm 2 qi3.2.1 n_fl_At_125 d_At_kind_15 rfl (by decide) ?_
    refine aw_iret S rfl d_At_kind_18 ?_ (by decide) (by decide)
    exact ⟨by rw [op_kind, hi], rfl, rfl⟩
  · refine aw_iconst (v := -1) S d_At_kind_10 (by decide) ?_
    refine aw_goto S 18 d_At_kind_11 (by decide) ?_
    refine aw_iret S rfl d_At_kind_18 ?_ (by decide) (by decide)
    exact ⟨by rw [op_kind, Option.map_eq_none_iff.mp c7], rfl, rfl⟩
set_option maxRecDepth 100000 in
set_option maxHeartbeats 4000000 in
theorem ev_At_sort {l : Launch} {E : aw_E} {g : AH} {n : Nat} {o : Nat} {tb pb : Nat → Nat} {tape pr : List Int32} {ts : List Tmv} {bt : Int32} {ps : List (List Int32 × Nat)} (q : Int32) (hA : AtF E g o tb pb tape ts.length bt ps.length pr) (hT : AtT E g n o tb pb ts ps) : EV l E 2 0 0 y_At_sort c_At_sort 3 (some .int) g n [.ref o, .int q] (aw_Pi (fun r_ g2 n2 => r_ = op_sort ts q ∧ g2 = g ∧ n2 = n)) := by
  obtain ⟨a1, a2, a3, a4, ⟨a5, ft, a6, a7⟩, ⟨a8, fp, a9, a10⟩, a11, a12, a13, a14, a15⟩ := id hA
  refine aw_enter "AddressTerms" [some (.ref o), some (.int q), none] (by decide) rfl rfl (Nat.le_of_ble_eq_true rfl) ?_
  intro p e s m args below meth c S hnm
  refine aw_aload_0 S d_At_sort_0 ?_
  refine aw_iload_1 S d_At_sort_1 ?_
  refine aw_callVqR S (ev_At_literalAt q hA hT) mb_At_literalAt mi_At_literalAt n_ml_At_128 d_At_sort_2 I_At a2 rfl rfl rfl ?_
  refine aw_astoreQ_2 S d_At_sort_5 ?_
  refine aw_aloadQ_2 S d_At_sort_6 ?_
  refine aw_ifnonnull S 14 d_At_sort_7 (by decide) (fun y7 c7 => ?_) (fun c7 => ?_)
  · obtain ⟨i, hi, rfl⟩ := Option.map_eq_some_iff.mp c7
    obtain ⟨hia, hib⟩ := ixK_some hi
    obtain ⟨qi1, qi2, Ni1, Ni2, qi3⟩ := hT.2.1 i (ixOf_lt (by omega) hia).1
    rw [hi]
    refine aw_aload_2 S d_At_sort_14 ?_
    refine aw_getf S I_Tm 3 qi3.2.1 n_fl_At_131 d_At_sort_15 rfl (by decide) ?_
    refine aw_iret S rfl d_At_sort_18 ?_ (by decide) (by decide)
    exact ⟨by rw [op_sort, hi], rfl, rfl⟩
  · refine aw_iconst (v := -1) S d_At_sort_10 (by decide) ?_
    refine aw_goto S 18 d_At_sort_11 (by decide) ?_
    refine aw_iret S rfl d_At_sort_18 ?_ (by decide) (by decide)
    exact ⟨by rw [op_sort, Option.map_eq_none_iff.mp c7], rfl, rfl⟩
set_option maxRecDepth 100000 in
set_option maxHeartbeats 4000000 in
theorem ev_At_at {l : Launch} {E : aw_E} {g : AH} {n : Nat} {o : Nat} {tb pb : Nat → Nat} {tape pr : List Int32} {ts : List Tmv} {bt : Int32} {ps : List (List Int32 × Nat)} (q : Int32) (hA : AtF E g o tb pb tape ts.length bt ps.length pr) : EV l E 1 0 0 y_At_at c_At_at 3 (some .int) g n [.ref o, .int q] (aw_Pi (fun r_ g2 n2 => r_ = op_at pr q ∧ g2 = g ∧ n2 = n)) := by
  obtain ⟨a1, a2, a3, a4, ⟨a5, ft, a6, a7⟩, ⟨a8, fp, a9, a10⟩, a11, a12, a13, a14, a15⟩ := id hA
  refine aw_enter "AddressTerms" [some (.ref o), some (.int q), none] (by decide) rfl rfl (Nat.le_of_ble_eq_true rfl) ?_
  intro p e s m args below meth c S hnm
  refine aw_aload_0 S d_At_at_0 ?_
  refine aw_getf S I_At 1 a2 n_fl_At_18 d_At_at_1 rfl (by decide) ?_
  refine aw_iload_1 S d_At_at_4 ?_
  refine aw_callViR S (ev_Rw_byteAt q a4) mb_Rw_byteAt mi_Rw_byteAt n_ml_At_162 d_At_at_5 I_Rw a4.cell rfl rfl rfl ?_
  refine aw_istore_2 S d_At_at_8 ?_
  refine aw_iload_2 S d_At_at_9 ?_
  refine aw_iconst (v := -1) S d_At_at_10 (by decide) ?_
  refine aw_icmp_ne S 19 d_At_at_11 (by decide) (fun c11 => ?_) (fun c11 => ?_)
  · refine aw_iload_2 S d_At_at_19 ?_
    refine aw_iret S rfl d_At_at_20 ?_ (by decide) (by decide)
    exact ⟨by simp [op_at, *], rfl, rfl⟩
  · refine aw_bipush (v := -2) S d_At_at_14 (by decide) ?_
    refine aw_goto S 20 d_At_at_16 (by decide) ?_
    refine aw_iret S rfl d_At_at_20 ?_ (by decide) (by decide)
    exact ⟨by simp [op_at, *], rfl, rfl⟩
set_option maxRecDepth 100000 in
set_option maxHeartbeats 4000000 in
theorem ev_At_count {l : Launch} {E : aw_E} {g : AH} {n : Nat} {o : Nat} {tb pb : Nat → Nat} {tape pr : List Int32} {ts : List Tmv} {bt : Int32} {ps : List (List Int32 × Nat)} (w : Int32) (hA : AtF E g o tb pb tape ts.length bt ps.length pr) : EV l E 1 0 0 y_At_count c_At_count 2 (some .int) g n [.ref o, .int w] (aw_Pi (fun r_ g2 n2 => r_ = op_count tape ts ps w ∧ g2 = g ∧ n2 = n)) := by
  obtain ⟨a1, a2, a3, a4, ⟨a5, ft, a6, a7⟩, ⟨a8, fp, a9, a10⟩, a11, a12, a13, a14, a15⟩ := id hA
  refine aw_enter "AddressTerms" [some (.ref o), some (.int w)] (by decide) rfl rfl (Nat.le_of_ble_eq_true rfl) ?_
  intro p e s m args below meth c S hnm
  refine aw_iload_1 S d_At_count_0 ?_
  by_cases h0 : w = 0
  · subst h0
    refine aw_tableIn S 28 d_At_count_1 (by decide) (by decide) rfl (by decide) ?_
    refine aw_aload_0 S d_At_count_28 ?_
    refine aw_getf S I_At 8 a2 n_fl_At_57 d_At_count_29 rfl (by decide) ?_
    refine aw_iret S rfl d_At_count_32 ?_ (by decide) (by decide)
    exact ⟨by rw [op_count, if_pos rfl], rfl, rfl⟩
  · by_cases h1 : w = 1
    · subst h1
      refine aw_tableIn S 33 d_At_count_1 (by decide) (by decide) rfl (by decide) ?_
      refine aw_aload_0 S d_At_count_33 ?_
      refine aw_getf S I_At 9 a2 n_fl_At_61 d_At_count_34 rfl (by decide) ?_
      refine aw_iret S rfl d_At_count_37 ?_ (by decide) (by decide)
      exact ⟨by rw [op_count, if_neg h0, if_pos rfl], rfl, rfl⟩
    · by_cases h2 : w = 2
      · subst h2
        refine aw_tableIn S 38 d_At_count_1 (by decide) (by decide) rfl (by decide) ?_
        refine aw_aload_0 S d_At_count_38 ?_
        refine aw_getf S I_At 0 a2 n_fl_At_14 d_At_count_39 rfl (by decide) ?_
        refine aw_callViR S (ev_Rw_size a3) mb_Rw_size mi_Rw_size n_ml_At_75 d_At_count_42 I_Rw a3.cell rfl rfl rfl ?_
        refine aw_iret S rfl d_At_count_45 ?_ (by decide) (by decide)
        exact ⟨by rw [op_count, if_neg h0, if_neg h1, if_pos rfl], rfl, rfl⟩
      · have hout : w.toInt < 0 ∨ 2 < w.toInt := by
          rcases Int.lt_or_le w.toInt 0 with h | h
          · exact Or.inl h
          · rcases Int.lt_or_le 2 w.toInt with h' | h'
            · exact Or.inr h'
            · exfalso
              have e0 : ¬ w.toInt = 0 := fun z => h0 (Int32.toInt_inj.mp z)
              have e1 : ¬ w.toInt = 1 := fun z => h1 (Int32.toInt_inj.mp z)
              have e2 : ¬ w.toInt = 2 := fun z => h2 (Int32.toInt_inj.mp z)
              omega
        refine aw_tableOut S 46 d_At_count_1 hout (by decide) ?_
        refine aw_iconst (v := -1) S d_At_count_46 (by decide) ?_
        refine aw_iret S rfl d_At_count_47 ?_ (by decide) (by decide)
        exact ⟨by rw [op_count, if_neg h0, if_neg h1, if_neg h2], rfl, rfl⟩
set_option maxRecDepth 100000 in
set_option maxHeartbeats 4000000 in
theorem ev_At_compare {l : Launch} {E : aw_E} {g : AH} {n : Nat} {o : Nat} {tb pb : Nat → Nat} {tape pr : List Int32} {ts : List Tmv} {bt : Int32} {ps : List (List Int32 × Nat)} (q1 q2 : Int32) (hA : AtF E g o tb pb tape ts.length bt ps.length pr) (hT : AtT E g n o tb pb ts ps) : EV l E 3 0 0 y_At_compare c_At_compare 5 (some .int) g n [.ref o, .int q1, .int q2] (aw_Pi (fun r_ g2 n2 => r_ = op_cmp ts q1 q2 ∧ g2 = g ∧ n2 = n)) := by
  obtain ⟨a1, a2, a3, a4, ⟨a5, ft, a6, a7⟩, ⟨a8, fp, a9, a10⟩, a11, a12, a13, a14, a15⟩ := id hA
  refine aw_enter "AddressTerms" [some (.ref o), some (.int q1), some (.int q2), none, none] (by decide) rfl rfl (Nat.le_of_ble_eq_true rfl) ?_
  intro p e s m args below meth c S hnm
  refine aw_aload_0 S d_At_compare_0 ?_
  refine aw_iload_1 S d_At_compare_1 ?_
  refine aw_callVqR S (ev_At_termAt q1 hA) mb_At_termAt mi_At_termAt n_ml_At_122 d_At_compare_2 I_At a2 rfl rfl rfl ?_
  refine aw_astoreQ_3 S d_At_compare_5 ?_
  refine aw_aload_0 S d_At_compare_6 ?_
  refine aw_iload_2 S d_At_compare_7 ?_
  refine aw_callVqR S (ev_At_termAt q2 hA) mb_At_termAt mi_At_termAt n_ml_At_122 d_At_compare_8 I_At a2 rfl rfl rfl ?_
  refine aw_astoreQ_4 S d_At_compare_11 ?_ (hp := aw_nlq _)
  refine aw_aloadQ_3 S d_At_compare_13 ?_
  refine aw_ifnull S 22 d_At_compare_14 (by decide) (fun c14 => ?_) (fun y14 c14 => ?_)
  · refine aw_bipush (v := -2) S d_At_compare_22 (by decide) ?_
    refine aw_iret S rfl d_At_compare_24 ?_ (by decide) (by decide)
    exact ⟨by rw [op_cmp, Option.map_eq_none_iff.mp c14], rfl, rfl⟩
  · obtain ⟨i, hi, rfl⟩ := Option.map_eq_some_iff.mp c14
    obtain ⟨qi1, qi2, Ni1, Ni2, qi3⟩ := hT.2.1 i (ixOf_lt (by omega) hi).1
    refine aw_aloadQ_4 S d_At_compare_17 ?_
    refine aw_ifnonnull S 25 d_At_compare_19 (by decide) (fun y19 c19 => ?_) (fun c19 => ?_)
    · obtain ⟨j, hj, rfl⟩ := Option.map_eq_some_iff.mp c19
      obtain ⟨qj1, qj2, Nj1, Nj2, qj3⟩ := hT.2.1 j (ixOf_lt (by omega) hj).1
      rw [hi, hj]
      refine aw_aload_3 S d_At_compare_25 ?_
      refine aw_aload_4 S d_At_compare_26 ?_
      refine aw_callViR S (ev_Tm_order qi3 qj3) mb_Tm_order mi_Tm_order n_ml_At_138 d_At_compare_28 I_Tm qi3.2.1 rfl rfl rfl ?_
      refine aw_iret S rfl d_At_compare_31 ?_ (by decide) (by decide)
      exact ⟨by rw [op_cmp, hi, hj]; rfl, rfl, rfl⟩
    · refine aw_bipush (v := -2) S d_At_compare_22 (by decide) ?_
      refine aw_iret S rfl d_At_compare_24 ?_ (by decide) (by decide)
      refine ⟨?_, rfl, rfl⟩
      rw [op_cmp, Option.map_eq_none_iff.mp c19]
      cases ixOf ts.length q1 <;> rfl
set_option maxRecDepth 100000 in
set_option maxHeartbeats 4000000 in
theorem ev_At_signLength {l : Launch} {E : aw_E} {g : AH} {n : Nat} {a N : Nat} {xs : List Int32} (hR : IsRow E g a N xs) : EV l E 1 0 0 y_At_signLength c_At_signLength 1 (some .int) g n [.ref a] (aw_Pi (fun r_ g2 n2 => r_ = nI (sp_sgn xs) ∧ g2 = g ∧ n2 = n)) := by
  refine aw_enter "AddressTerms" [some (.ref a)] (by decide) rfl rfl (Nat.le_of_ble_eq_true rfl) ?_
  intro p e s m args below meth c S hnm
  refine aw_aload_0 S d_At_signLength_0 ?_
  refine aw_iconst (v := 0) S d_At_signLength_1 (by decide) ?_
  refine aw_topi nI_0.symm ?_
  refine aw_callViR S (ev_Rw_byteAt (nI 0) hR) mb_Rw_byteAt mi_Rw_byteAt n_ml_At_162 d_At_signLength_2 I_Rw hR.cell rfl rfl rfl ?_
  rw [sp_at_nI (by decide)]
  refine aw_bipush (v := 43) S d_At_signLength_5 (by decide) ?_
  refine aw_icmp_eq S 20 d_At_signLength_7 (by decide) (fun c7 => ?_) (fun c7 => ?_)
  · refine aw_iconst (v := 1) S d_At_signLength_20 (by decide) ?_
    refine aw_goto S 25 d_At_signLength_21 (by decide) ?_
    refine aw_iret S rfl d_At_signLength_25 ?_ (by decide) (by decide)
    exact ⟨by unfold sp_sgn; rw [if_pos (Or.inl c7)]; rfl, rfl, rfl⟩
  · refine aw_aload_0 S d_At_signLength_10 ?_
    refine aw_iconst (v := 0) S d_At_signLength_11 (by decide) ?_
    refine aw_topi nI_0.symm ?_
    refine aw_callViR S (ev_Rw_byteAt (nI 0) hR) mb_Rw_byteAt mi_Rw_byteAt n_ml_At_162 d_At_signLength_12 I_Rw hR.cell rfl rfl rfl ?_
    rw [sp_at_nI (by decide)]
    refine aw_bipush (v := 45) S d_At_signLength_15 (by decide) ?_
    refine aw_icmp_ne S 24 d_At_signLength_17 (by decide) (fun c17 => ?_) (fun c17 => ?_)
    · refine aw_iconst (v := 0) S d_At_signLength_24 (by decide) ?_
      refine aw_iret S rfl d_At_signLength_25 ?_ (by decide) (by decide)
      exact ⟨by unfold sp_sgn; rw [if_neg (fun h => h.elim c7 c17)]; rfl, rfl, rfl⟩
    · refine aw_iconst (v := 1) S d_At_signLength_20 (by decide) ?_
      refine aw_goto S 25 d_At_signLength_21 (by decide) ?_
      refine aw_iret S rfl d_At_signLength_25 ?_ (by decide) (by decide)
      exact ⟨by unfold sp_sgn; rw [if_pos (Or.inr c17)]; rfl, rfl, rfl⟩
set_option maxRecDepth 100000 in
set_option maxHeartbeats 4000000 in
theorem ev_At_isTrue {l : Launch} {E : aw_E} {g : AH} {n : Nat} {a N : Nat} {xs : List Int32} (hR : IsRow E g a N xs) : EV l E 6 0 0 y_At_isTrue c_At_isTrue 1 (some .boolean) g n [.ref a] (aw_Pi (fun r_ g2 n2 => r_ = aw_b (sp_tr xs) ∧ g2 = g ∧ n2 = n)) := by
  refine aw_enter "AddressTerms" [some (.ref a)] (by decide) rfl rfl (Nat.le_of_ble_eq_true rfl) ?_
  intro p e s m args below meth c S hnm
  refine aw_aload_0 S d_At_isTrue_0 ?_
  refine aw_iconst (v := 0) S d_At_isTrue_1 (by decide) ?_
  refine aw_topi nI_0.symm ?_
  refine aw_ldcwS S 1 (by decide) rfl d_At_isTrue_2 ?_
  refine aw_callViR S (ev_Rw_isRest 0 1 hR (by decide) (Nat.zero_le _)) mb_Rw_isRest mi_Rw_isRest n_ml_At_301 d_At_isTrue_5 I_Rw hR.cell rfl rfl rfl ?_
  refine aw_if_ne S 22 d_At_isTrue_8 (by decide) (fun c8 => ?_) (fun c8 => ?_)
  · refine aw_iconst (v := 1) S d_At_isTrue_22 (by decide) ?_
    refine aw_goto S 27 d_At_isTrue_23 (by decide) ?_
    refine aw_zret S .boolean rfl (by rfl) d_At_isTrue_27 ?_ (by decide) (by decide)
    exact ⟨aw_b1 (by rw [sp_tr]; exact Bool.or_eq_true_iff.mpr (Or.inl (aw_b_t c8))), rfl, rfl⟩
  · refine aw_aload_0 S d_At_isTrue_11 ?_
    refine aw_iconst (v := 0) S d_At_isTrue_12 (by decide) ?_
    refine aw_topi nI_0.symm ?_
    refine aw_ldcwS S 2 (by decide) rfl d_At_isTrue_13 ?_
    refine aw_callViR S (ev_Rw_isRest 0 2 hR (by decide) (Nat.zero_le _)) mb_Rw_isRest mi_Rw_isRest n_ml_At_301 d_At_isTrue_16 I_Rw hR.cell rfl rfl rfl ?_
    refine aw_if_eq S 26 d_At_isTrue_19 (by decide) (fun c19 => ?_) (fun c19 => ?_)
    · refine aw_iconst (v := 0) S d_At_isTrue_26 (by decide) ?_
      refine aw_zret S .boolean rfl (by rfl) d_At_isTrue_27 ?_ (by decide) (by decide)
      refine ⟨aw_b0 ?_, rfl, rfl⟩
      have h1 := aw_b_f c8
      have h2 := aw_b_f c19
      rw [List.drop_zero] at h1 h2
      rw [sp_tr]
      exact Bool.or_eq_false_iff.mpr ⟨h1, h2⟩
    · refine aw_iconst (v := 1) S d_At_isTrue_22 (by decide) ?_
      refine aw_goto S 27 d_At_isTrue_23 (by decide) ?_
      refine aw_zret S .boolean rfl (by rfl) d_At_isTrue_27 ?_ (by decide) (by decide)
      exact ⟨aw_b1 (by rw [sp_tr]; exact Bool.or_eq_true_iff.mpr (Or.inr (aw_b_t c19))), rfl, rfl⟩
set_option maxRecDepth 100000 in
set_option maxHeartbeats 4000000 in
theorem ev_At_isFalse {l : Launch} {E : aw_E} {g : AH} {n : Nat} {a N : Nat} {xs : List Int32} (hR : IsRow E g a N xs) : EV l E 6 0 0 y_At_isFalse c_At_isFalse 1 (some .boolean) g n [.ref a] (aw_Pi (fun r_ g2 n2 => r_ = aw_b (sp_fa xs) ∧ g2 = g ∧ n2 = n)) := by
  refine aw_enter "AddressTerms" [some (.ref a)] (by decide) rfl rfl (Nat.le_of_ble_eq_true rfl) ?_
  intro p e s m args below meth c S hnm
  refine aw_aload_0 S d_At_isFalse_0 ?_
  refine aw_iconst (v := 0) S d_At_isFalse_1 (by decide) ?_
  refine aw_topi nI_0.symm ?_
  refine aw_ldcwS S 3 (by decide) rfl d_At_isFalse_2 ?_
  refine aw_callViR S (ev_Rw_isRest 0 3 hR (by decide) (Nat.zero_le _)) mb_Rw_isRest mi_Rw_isRest n_ml_At_301 d_At_isFalse_5 I_Rw hR.cell rfl rfl rfl ?_
  refine aw_if_ne S 22 d_At_isFalse_8 (by decide) (fun c8 => ?_) (fun c8 => ?_)
  · refine aw_iconst (v := 1) S d_At_isFalse_22 (by decide) ?_
    refine aw_goto S 27 d_At_isFalse_23 (by decide) ?_
    refine aw_zret S .boolean rfl (by rfl) d_At_isFalse_27 ?_ (by decide) (by decide)
    exact ⟨aw_b1 (by rw [sp_fa]; exact Bool.or_eq_true_iff.mpr (Or.inl (aw_b_t c8))), rfl, rfl⟩
  · refine aw_aload_0 S d_At_isFalse_11 ?_
    refine aw_iconst (v := 0) S d_At_isFalse_12 (by decide) ?_
    refine aw_topi nI_0.symm ?_
    refine aw_ldcwS S 4 (by decide) rfl d_At_isFalse_13 ?_
    refine aw_callViR S (ev_Rw_isRest 0 4 hR (by decide) (Nat.zero_le _)) mb_Rw_isRest mi_Rw_isRest n_ml_At_301 d_At_isFalse_16 I_Rw hR.cell rfl rfl rfl ?_
    refine aw_if_eq S 26 d_At_isFalse_19 (by decide) (fun c19 => ?_) (fun c19 => ?_)
    · refine aw_iconst (v := 0) S d_At_isFalse_26 (by decide) ?_
      refine aw_zret S .boolean rfl (by rfl) d_At_isFalse_27 ?_ (by decide) (by decide)
      refine ⟨aw_b0 ?_, rfl, rfl⟩
      have h1 := aw_b_f c8
      have h2 := aw_b_f c19
      rw [List.drop_zero] at h1 h2
      rw [sp_fa]
      exact Bool.or_eq_false_iff.mpr ⟨h1, h2⟩
    · refine aw_iconst (v := 1) S d_At_isFalse_22 (by decide) ?_
      refine aw_goto S 27 d_At_isFalse_23 (by decide) ?_
      refine aw_zret S .boolean rfl (by rfl) d_At_isFalse_27 ?_ (by decide) (by decide)
      exact ⟨aw_b1 (by rw [sp_fa]; exact Bool.or_eq_true_iff.mpr (Or.inr (aw_b_t c19))), rfl, rfl⟩
set_option maxRecDepth 100000 in
set_option maxHeartbeats 4000000 in
theorem ev_At_isWhole {l : Launch} {E : aw_E} {g : AH} {n : Nat} {a N : Nat} {xs : List Int32} (hR : IsRow E g a N xs) : EV l E 2 0 0 y_At_isWhole c_At_isWhole 3 (some .boolean) g n [.ref a] (aw_Pi (fun r_ g2 n2 => r_ = aw_b (sp_wh xs) ∧ g2 = g ∧ n2 = n)) := by
  have hN := hR.room
  have hsg := sp_sgn_le xs
  refine aw_enter "AddressTerms" [some (.ref a), none, none] (by decide) rfl rfl (Nat.le_of_ble_eq_true rfl) ?_
  intro p e s m args below meth c S hnm
  have loop : ∀ (j k : Nat), k + j = xs.length → 1 ≤ xs.length - sp_sgn xs → xs.length - sp_sgn xs ≤ 18 → (xs.drop k).all sp_dig = (xs.drop (sp_sgn xs)).all sp_dig → AW p l e { frames := 2, cells := 0, slots := 0, locals := 40 * 2 } s m args below meth c E 3 (aw_Z E (aw_Pi (fun r_ g2 n2 => r_ = aw_b (sp_wh xs) ∧ g2 = g ∧ n2 = n)) below args s 0 0) 0 0 g n 28 [some (.ref a), some (.int (nI (xs.length - sp_sgn xs))), some (.int (nI k))] [] := by
    intro j
    induction j with
    | zero =>
      intro k hk g1 g2 hv
      rw [List.drop_eq_nil_iff.mpr (show xs.length ≤ k by omega)] at hv
      refine aw_iload_2 S d_At_isWhole_28 ?_
      refine aw_aload_0 S d_At_isWhole_29 ?_
      refine aw_callViR S (ev_Rw_size hR) mb_Rw_size mi_Rw_size n_ml_At_75 d_At_isWhole_30 I_Rw hR.cell rfl rfl rfl ?_
      refine aw_icmp_ge S 55 d_At_isWhole_33 (by decide) (fun c33 => ?_) (fun c33 => ?_)
      · refine aw_iconst (v := 1) S d_At_isWhole_55 (by decide) ?_
        refine aw_zret S .boolean rfl (by rfl) d_At_isWhole_56 ?_ (by decide) (by decide)
        refine ⟨aw_b1 ?_, rfl, rfl⟩
        rw [sp_wh, decide_eq_true g1, decide_eq_true g2, ← hv]
        rfl
      · exact absurd (nI_le (by omega) (by omega)) c33
    | succ j ih =>
      intro k hk g1 g2 hv
      have hkx : k < xs.length := by omega
      rw [drop_cons hkx, List.all_cons] at hv
      refine aw_iload_2 S d_At_isWhole_28 ?_
      refine aw_aload_0 S d_At_isWhole_29 ?_
      refine aw_callViR S (ev_Rw_size hR) mb_Rw_size mi_Rw_size n_ml_At_75 d_At_isWhole_30 I_Rw hR.cell rfl rfl rfl ?_
      refine aw_icmp_ge S 55 d_At_isWhole_33 (by decide) (fun c33 => ?_) (fun c33 => ?_)
      · exact absurd c33 (nI_ge (by omega) (by omega))
      · refine aw_aload_0 S d_At_isWhole_36 ?_
        refine aw_iload_2 S d_At_isWhole_37 ?_
        refine aw_callViR S (ev_Rw_byteAt (nI k) hR) mb_Rw_byteAt mi_Rw_byteAt n_ml_At_162 d_At_isWhole_38 I_Rw hR.cell rfl rfl rfl ?_
        rw [sp_at_nI (by omega)]
        refine aw_callSiR S (ev_At_isDigit (xs.getD k (-1))) mb_At_isDigit n_st_At_isDigit n_ml_At_264 d_At_isWhole_41 rfl rfl ?_
        refine aw_if_ne S 49 d_At_isWhole_44 (by decide) (fun c44 => ?_) (fun c44 => ?_)
        · refine aw_iinc_2 (v := nI (k + 1)) S d_At_isWhole_49 ((nI_succ k).symm) ?_
          refine aw_goto S 28 d_At_isWhole_52 (by decide) ?_
          rw [aw_b_t c44, Bool.true_and] at hv
          exact ih (k + 1) (by omega) g1 g2 hv
        · refine aw_iconst (v := 0) S d_At_isWhole_47 (by decide) ?_
          refine aw_zret S .boolean rfl (by rfl) d_At_isWhole_48 ?_ (by decide) (by decide)
          rw [aw_b_f c44, Bool.false_and] at hv
          refine ⟨aw_b0 ?_, rfl, rfl⟩
          rw [sp_wh, ← hv, Bool.and_false, Bool.and_false]
  refine aw_aload_0 S d_At_isWhole_0 ?_
  refine aw_callViR S (ev_Rw_size hR) mb_Rw_size mi_Rw_size n_ml_At_75 d_At_isWhole_1 I_Rw hR.cell rfl rfl rfl ?_
  refine aw_aload_0 S d_At_isWhole_4 ?_
  refine aw_callSiR S (ev_At_signLength hR) mb_At_signLength n_st_At_signLength n_ml_At_311 d_At_isWhole_5 rfl rfl ?_
  refine aw_isub S d_At_isWhole_8 ?_
  rw [pk_sub hsg]
  refine aw_istore_1 S d_At_isWhole_9 ?_
  refine aw_iload_1 S d_At_isWhole_10 ?_
  refine aw_iconst (v := 1) S d_At_isWhole_11 (by decide) ?_
  refine aw_icmp_lt S 21 d_At_isWhole_12 (by decide) (fun c12 => ?_) (fun c12 => ?_)
  · rw [show (1 : Int32) = nI 1 from rfl, nI_ltI (by omega) (by omega)] at c12
    refine aw_iconst (v := 0) S d_At_isWhole_21 (by decide) ?_
    refine aw_zret S .boolean rfl (by rfl) d_At_isWhole_22 ?_ (by decide) (by decide)
    exact ⟨aw_b0 (by rw [sp_wh, decide_eq_false (by omega), Bool.false_and]), rfl, rfl⟩
  · rw [show (1 : Int32) = nI 1 from rfl, nI_ltI (by omega) (by omega)] at c12
    refine aw_iload_1 S d_At_isWhole_15 ?_
    refine aw_bipush (v := 18) S d_At_isWhole_16 (by decide) ?_
    refine aw_icmp_le S 23 d_At_isWhole_18 (by decide) (fun c18 => ?_) (fun c18 => ?_)
    · rw [show (18 : Int32) = nI 18 from rfl, nI_leI (by omega) (by omega)] at c18
      refine aw_aload_0 S d_At_isWhole_23 ?_
      refine aw_callSiR S (ev_At_signLength hR) mb_At_signLength n_st_At_signLength n_ml_At_311 d_At_isWhole_24 rfl rfl ?_
      refine aw_istore_2 S d_At_isWhole_27 ?_
      exact loop (xs.length - sp_sgn xs) (sp_sgn xs) (by omega) (by omega) c18 rfl
    · rw [show (18 : Int32) = nI 18 from rfl, nI_leI (by omega) (by omega)] at c18
      refine aw_iconst (v := 0) S d_At_isWhole_21 (by decide) ?_
      refine aw_zret S .boolean rfl (by rfl) d_At_isWhole_22 ?_ (by decide) (by decide)
      exact ⟨aw_b0 (by rw [sp_wh, decide_eq_false c18, Bool.false_and, Bool.and_false]), rfl, rfl⟩
set_option maxRecDepth 100000 in
set_option maxHeartbeats 4000000 in
theorem ev_At_wholeValue {l : Launch} {E : aw_E} {g : AH} {n : Nat} {a N : Nat} {xs : List Int32} (hR : IsRow E g a N xs) : EV l E 2 0 0 y_At_wholeValue c_At_wholeValue 4 (some .long) g n [.ref a] (aw_Pl (fun r_ g2 n2 => r_ = sp_wv xs ∧ g2 = g ∧ n2 = n)) := by
  have hN := hR.room
  have hsg := sp_sgn_le xs
  refine aw_enter "AddressTerms" [some (.ref a), none, none, none] (by decide) rfl rfl (Nat.le_of_ble_eq_true rfl) ?_
  intro p e s m args below meth c S hnm
  have loop : ∀ (j k : Nat) (v : Int64), k + j = xs.length → sp_wvF v (xs.drop k) = sp_wvF 0 (xs.drop (sp_sgn xs)) → AW p l e { frames := 2, cells := 0, slots := 0, locals := 40 * 2 } s m args below meth c E 4 (aw_Z E (aw_Pl (fun r_ g2 n2 => r_ = sp_wv xs ∧ g2 = g ∧ n2 = n)) below args s 0 0) 0 0 g n 7 [some (.ref a), some (.long v), none, some (.int (nI k))] [] := by
    intro j
    induction j with
    | zero =>
      intro k v hk hv
      rw [List.drop_eq_nil_iff.mpr (show xs.length ≤ k by omega), sp_wvF] at hv
      refine aw_iload_3 S d_At_wholeValue_7 ?_
      refine aw_aload_0 S d_At_wholeValue_8 ?_
      refine aw_callViR S (ev_Rw_size hR) mb_Rw_size mi_Rw_size n_ml_At_75 d_At_wholeValue_9 I_Rw hR.cell rfl rfl rfl ?_
      refine aw_icmp_ge S 37 d_At_wholeValue_12 (by decide) (fun c12 => ?_) (fun c12 => ?_)
      · refine aw_aload_0 S d_At_wholeValue_37 ?_
        refine aw_iconst (v := 0) S d_At_wholeValue_38 (by decide) ?_
        refine aw_topi nI_0.symm ?_
        refine aw_callViR S (ev_Rw_byteAt (nI 0) hR) mb_Rw_byteAt mi_Rw_byteAt n_ml_At_162 d_At_wholeValue_39 I_Rw hR.cell rfl rfl rfl ?_
        rw [sp_at_nI (by decide)]
        refine aw_bipush (v := 45) S d_At_wholeValue_42 (by decide) ?_
        refine aw_icmp_ne S 52 d_At_wholeValue_44 (by decide) (fun c44 => ?_) (fun c44 => ?_)
        · refine aw_lload_1 S d_At_wholeValue_52 ?_
          refine aw_lret S rfl d_At_wholeValue_53 ?_ (by decide) (by decide)
          exact ⟨by rw [sp_wv, if_neg c44, hv], rfl, rfl⟩
        · refine aw_lload_1 S d_At_wholeValue_47 ?_
          refine aw_lneg S d_At_wholeValue_48 ?_
          refine aw_goto S 53 d_At_wholeValue_49 (by decide) ?_
          refine aw_lret S rfl d_At_wholeValue_53 ?_ (by decide) (by decide)
          exact ⟨by rw [sp_wv, if_pos c44, hv], rfl, rfl⟩
      · exact absurd (nI_le (by omega) (by omega)) c12
    | succ j ih =>
      intro k v hk hv
      have hkx : k < xs.length := by omega
      rw [drop_cons hkx, sp_wvF] at hv
      refine aw_iload_3 S d_At_wholeValue_7 ?_
      refine aw_aload_0 S d_At_wholeValue_8 ?_
      refine aw_callViR S (ev_Rw_size hR) mb_Rw_size mi_Rw_size n_ml_At_75 d_At_wholeValue_9 I_Rw hR.cell rfl rfl rfl ?_
      refine aw_icmp_ge S 37 d_At_wholeValue_12 (by decide) (fun c12 => ?_) (fun c12 => ?_)
      · exact absurd c12 (nI_ge (by omega) (by omega))
      · refine aw_lload_1 S d_At_wholeValue_15 ?_
        refine aw_ldc2 S n_ct_At_314 d_At_wholeValue_16 ?_
        refine aw_lmul S d_At_wholeValue_19 ?_
        refine aw_aload_0 S d_At_wholeValue_20 ?_
        refine aw_iload_3 S d_At_wholeValue_21 ?_
        refine aw_callViR S (ev_Rw_byteAt (nI k) hR) mb_Rw_byteAt mi_Rw_byteAt n_ml_At_162 d_At_wholeValue_22 I_Rw hR.cell rfl rfl rfl ?_
        rw [sp_at_nI (by omega)]
        refine aw_bipush (v := 48) S d_At_wholeValue_25 (by decide) ?_
        refine aw_isub S d_At_wholeValue_27 ?_
        refine aw_i2l S d_At_wholeValue_28 ?_
        refine aw_ladd S d_At_wholeValue_29 ?_
        refine aw_lstore_1 S d_At_wholeValue_30 ?_
        refine aw_iinc_3 (v := nI (k + 1)) S d_At_wholeValue_31 ((nI_succ k).symm) ?_
        refine aw_goto S 7 d_At_wholeValue_34 (by decide) ?_
        exact ih (k + 1) _ (by omega) hv
  refine aw_lconst (v := 0) S d_At_wholeValue_0 (by decide) ?_
  refine aw_lstore_1 S d_At_wholeValue_1 ?_
  refine aw_aload_0 S d_At_wholeValue_2 ?_
  refine aw_callSiR S (ev_At_signLength hR) mb_At_signLength n_st_At_signLength n_ml_At_311 d_At_wholeValue_3 rfl rfl ?_
  refine aw_istore_3 S d_At_wholeValue_6 ?_
  exact loop (xs.length - sp_sgn xs) (sp_sgn xs) 0 (by omega) rfl
set_option maxRecDepth 100000 in
set_option maxHeartbeats 4000000 in
theorem ev_At_haveSameValue {l : Launch} {E : aw_E} {g : AH} {n : Nat} {a a2 N1 N2 N3 N4 : Nat} {u v : Tmv} (h1 : IsTv E g a N1 N2 u) (h2 : IsTv E g a2 N3 N4 v) : EV l E 7 0 0 y_At_haveSameValue c_At_haveSameValue 2 (some .boolean) g n [.ref a, .ref a2] (aw_Pi (fun r_ g2 n2 => r_ = aw_b (sp_same u v) ∧ g2 = g ∧ n2 = n)) := by
  refine aw_enter "AddressTerms" [some (.ref a), some (.ref a2)] (by decide) rfl rfl (Nat.le_of_ble_eq_true rfl) ?_
  intro p e s m args below meth c S hnm
  refine aw_aload_0 S d_At_haveSameValue_0 ?_
  refine aw_getf S I_Tm 2 h1.2.1 n_fl_At_125 d_At_haveSameValue_1 rfl (by decide) ?_
  refine aw_iconst (v := 2) S d_At_haveSameValue_4 (by decide) ?_
  refine aw_icmp_ne S 27 d_At_haveSameValue_5 (by decide) (fun c5 => ?_) (fun c5 => ?_)
  · refine aw_iconst (v := 0) S d_At_haveSameValue_27 (by decide) ?_
    refine aw_zret S .boolean rfl (by rfl) d_At_haveSameValue_28 ?_ (by decide) (by decide)
    refine ⟨?_, rfl, rfl⟩
    simp_all [sp_same, cmp0, aw_b]
  · refine aw_aload_1 S d_At_haveSameValue_8 ?_
    refine aw_getf S I_Tm 2 h2.2.1 n_fl_At_125 d_At_haveSameValue_9 rfl (by decide) ?_
    refine aw_iconst (v := 2) S d_At_haveSameValue_12 (by decide) ?_
    refine aw_icmp_ne S 27 d_At_haveSameValue_13 (by decide) (fun c13 => ?_) (fun c13 => ?_)
    · refine aw_iconst (v := 0) S d_At_haveSameValue_27 (by decide) ?_
      refine aw_zret S .boolean rfl (by rfl) d_At_haveSameValue_28 ?_ (by decide) (by decide)
      refine ⟨?_, rfl, rfl⟩
      simp_all [sp_same, cmp0, aw_b]
    · refine aw_aload_0 S d_At_haveSameValue_16 ?_
      refine aw_getf S I_Tm 3 h1.2.1 n_fl_At_131 d_At_haveSameValue_17 rfl (by decide) ?_
      refine aw_aload_1 S d_At_haveSameValue_20 ?_
      refine aw_getf S I_Tm 3 h2.2.1 n_fl_At_131 d_At_haveSameValue_21 rfl (by decide) ?_
      refine aw_icmp_eq S 29 d_At_haveSameValue_24 (by decide) (fun c24 => ?_) (fun c24 => ?_)
      · refine aw_aload_0 S d_At_haveSameValue_29 ?_
        refine aw_getf S I_Tm 3 h1.2.1 n_fl_At_131 d_At_haveSameValue_30 rfl (by decide) ?_
        refine aw_iconst (v := 2) S d_At_haveSameValue_33 (by decide) ?_
        refine aw_icmp_ne S 81 d_At_haveSameValue_34 (by decide) (fun c34 => ?_) (fun c34 => ?_)
        · refine aw_aload_0 S d_At_haveSameValue_81 ?_
          refine aw_getf S I_Tm 3 h1.2.1 n_fl_At_131 d_At_haveSameValue_82 rfl (by decide) ?_
          refine aw_iconst (v := 3) S d_At_haveSameValue_85 (by decide) ?_
          refine aw_icmp_ne S 135 d_At_haveSameValue_86 (by decide) (fun c86 => ?_) (fun c86 => ?_)
          · refine aw_iconst (v := 0) S d_At_haveSameValue_135 (by decide) ?_
            refine aw_zret S .boolean rfl (by rfl) d_At_haveSameValue_136 ?_ (by decide) (by decide)
            refine ⟨?_, rfl, rfl⟩
            simp_all [sp_same, cmp0, aw_b]
          · refine aw_aload_0 S d_At_haveSameValue_89 ?_
            refine aw_getf S I_Tm 0 h1.2.1 n_fl_At_109 d_At_haveSameValue_90 rfl (by decide) ?_
            refine aw_callSiR S (ev_At_isTrue h1.2.2.1) mb_At_isTrue n_st_At_isTrue n_ml_At_293 d_At_haveSameValue_93 rfl rfl ?_
            refine aw_if_eq S 109 d_At_haveSameValue_96 (by decide) (fun c96 => ?_) (fun c96 => ?_)
            · refine aw_aload_0 S d_At_haveSameValue_109 ?_
              refine aw_getf S I_Tm 0 h1.2.1 n_fl_At_109 d_At_haveSameValue_110 rfl (by decide) ?_
              refine aw_callSiR S (ev_At_isFalse h1.2.2.1) mb_At_isFalse n_st_At_isFalse n_ml_At_296 d_At_haveSameValue_113 rfl rfl ?_
              refine aw_if_eq S 133 d_At_haveSameValue_116 (by decide) (fun c116 => ?_) (fun c116 => ?_)
              · refine aw_iconst (v := 0) S d_At_haveSameValue_133 (by decide) ?_
                refine aw_zret S .boolean rfl (by rfl) d_At_haveSameValue_134 ?_ (by decide) (by decide)
                refine ⟨?_, rfl, rfl⟩
                simp_all [sp_same, cmp0, aw_b]
              · refine aw_aload_1 S d_At_haveSameValue_119 ?_
                refine aw_getf S I_Tm 0 h2.2.1 n_fl_At_109 d_At_haveSameValue_120 rfl (by decide) ?_
                refine aw_callSiR S (ev_At_isFalse h2.2.2.1) mb_At_isFalse n_st_At_isFalse n_ml_At_296 d_At_haveSameValue_123 rfl rfl ?_
                refine aw_if_eq S 133 d_At_haveSameValue_126 (by decide) (fun c126 => ?_) (fun c126 => ?_)
                · refine aw_iconst (v := 0) S d_At_haveSameValue_133 (by decide) ?_
                  refine aw_zret S .boolean rfl (by rfl) d_At_haveSameValue_134 ?_ (by decide) (by decide)
                  refine ⟨?_, rfl, rfl⟩
                  simp_all [sp_same, cmp0, aw_b]
                · refine aw_iconst (v := 1) S d_At_haveSameValue_129 (by decide) ?_
                  refine aw_goto S 134 d_At_haveSameValue_130 (by decide) ?_
                  refine aw_zret S .boolean rfl (by rfl) d_At_haveSameValue_134 ?_ (by decide) (by decide)
                  refine ⟨?_, rfl, rfl⟩
                  simp_all [sp_same, cmp0, aw_b]
            · refine aw_aload_1 S d_At_haveSameValue_99 ?_
              refine aw_getf S I_Tm 0 h2.2.1 n_fl_At_109 d_At_haveSameValue_100 rfl (by decide) ?_
              refine aw_callSiR S (ev_At_isTrue h2.2.2.1) mb_At_isTrue n_st_At_isTrue n_ml_At_293 d_At_haveSameValue_103 rfl rfl ?_
              refine aw_if_ne S 129 d_At_haveSameValue_106 (by decide) (fun c106 => ?_) (fun c106 => ?_)
              · refine aw_iconst (v := 1) S d_At_haveSameValue_129 (by decide) ?_
                refine aw_goto S 134 d_At_haveSameValue_130 (by decide) ?_
                refine aw_zret S .boolean rfl (by rfl) d_At_haveSameValue_134 ?_ (by decide) (by decide)
                refine ⟨?_, rfl, rfl⟩
                simp_all [sp_same, cmp0, aw_b]
              · refine aw_aload_0 S d_At_haveSameValue_109 ?_
                refine aw_getf S I_Tm 0 h1.2.1 n_fl_At_109 d_At_haveSameValue_110 rfl (by decide) ?_
                refine aw_callSiR S (ev_At_isFalse h1.2.2.1) mb_At_isFalse n_st_At_isFalse n_ml_At_296 d_At_haveSameValue_113 rfl rfl ?_
                refine aw_if_eq S 133 d_At_haveSameValue_116 (by decide) (fun c116 => ?_) (fun c116 => ?_)
                · refine aw_iconst (v := 0) S d_At_haveSameValue_133 (by decide) ?_
                  refine aw_zret S .boolean rfl (by rfl) d_At_haveSameValue_134 ?_ (by decide) (by decide)
                  refine ⟨?_, rfl, rfl⟩
                  simp_all [sp_same, cmp0, aw_b]
                · refine aw_aload_1 S d_At_haveSameValue_119 ?_
                  refine aw_getf S I_Tm 0 h2.2.1 n_fl_At_109 d_At_haveSameValue_120 rfl (by decide) ?_
                  refine aw_callSiR S (ev_At_isFalse h2.2.2.1) mb_At_isFalse n_st_At_isFalse n_ml_At_296 d_At_haveSameValue_123 rfl rfl ?_
                  refine aw_if_eq S 133 d_At_haveSameValue_126 (by decide) (fun c126 => ?_) (fun c126 => ?_)
                  · refine aw_iconst (v := 0) S d_At_haveSameValue_133 (by decide) ?_
                    refine aw_zret S .boolean rfl (by rfl) d_At_haveSameValue_134 ?_ (by decide) (by decide)
                    refine ⟨?_, rfl, rfl⟩
                    simp_all [sp_same, cmp0, aw_b]
                  · refine aw_iconst (v := 1) S d_At_haveSameValue_129 (by decide) ?_
                    refine aw_goto S 134 d_At_haveSameValue_130 (by decide) ?_
                    refine aw_zret S .boolean rfl (by rfl) d_At_haveSameValue_134 ?_ (by decide) (by decide)
                    refine ⟨?_, rfl, rfl⟩
                    simp_all [sp_same, cmp0, aw_b]
        · refine aw_aload_0 S d_At_haveSameValue_37 ?_
          refine aw_getf S I_Tm 0 h1.2.1 n_fl_At_109 d_At_haveSameValue_38 rfl (by decide) ?_
          refine aw_callSiR S (ev_At_isWhole h1.2.2.1) mb_At_isWhole n_st_At_isWhole n_ml_At_286 d_At_haveSameValue_41 rfl rfl ?_
          refine aw_if_eq S 79 d_At_haveSameValue_44 (by decide) (fun c44 => ?_) (fun c44 => ?_)
          · refine aw_iconst (v := 0) S d_At_haveSameValue_79 (by decide) ?_
            refine aw_zret S .boolean rfl (by rfl) d_At_haveSameValue_80 ?_ (by decide) (by decide)
            refine ⟨?_, rfl, rfl⟩
            simp_all [sp_same, cmp0, aw_b]
          · refine aw_aload_1 S d_At_haveSameValue_47 ?_
            refine aw_getf S I_Tm 0 h2.2.1 n_fl_At_109 d_At_haveSameValue_48 rfl (by decide) ?_
            refine aw_callSiR S (ev_At_isWhole h2.2.2.1) mb_At_isWhole n_st_At_isWhole n_ml_At_286 d_At_haveSameValue_51 rfl rfl ?_
            refine aw_if_eq S 79 d_At_haveSameValue_54 (by decide) (fun c54 => ?_) (fun c54 => ?_)
            · refine aw_iconst (v := 0) S d_At_haveSameValue_79 (by decide) ?_
              refine aw_zret S .boolean rfl (by rfl) d_At_haveSameValue_80 ?_ (by decide) (by decide)
              refine ⟨?_, rfl, rfl⟩
              simp_all [sp_same, cmp0, aw_b]
            · refine aw_aload_0 S d_At_haveSameValue_57 ?_
              refine aw_getf S I_Tm 0 h1.2.1 n_fl_At_109 d_At_haveSameValue_58 rfl (by decide) ?_
              refine aw_callSlR S (ev_At_wholeValue h1.2.2.1) mb_At_wholeValue n_st_At_wholeValue n_ml_At_289 d_At_haveSameValue_61 rfl rfl ?_
              refine aw_aload_1 S d_At_haveSameValue_64 ?_
              refine aw_getf S I_Tm 0 h2.2.1 n_fl_At_109 d_At_haveSameValue_65 rfl (by decide) ?_
              refine aw_callSlR S (ev_At_wholeValue h2.2.2.1) mb_At_wholeValue n_st_At_wholeValue n_ml_At_289 d_At_haveSameValue_68 rfl rfl ?_
              refine aw_lcmp S d_At_haveSameValue_71 ?_
              refine aw_if_ne S 79 d_At_haveSameValue_72 (by decide) (fun c72 => ?_) (fun c72 => ?_)
              · refine aw_iconst (v := 0) S d_At_haveSameValue_79 (by decide) ?_
                refine aw_zret S .boolean rfl (by rfl) d_At_haveSameValue_80 ?_ (by decide) (by decide)
                refine ⟨?_, rfl, rfl⟩
                simp_all [sp_same, cmp0, aw_b]
              · refine aw_iconst (v := 1) S d_At_haveSameValue_75 (by decide) ?_
                refine aw_goto S 80 d_At_haveSameValue_76 (by decide) ?_
                refine aw_zret S .boolean rfl (by rfl) d_At_haveSameValue_80 ?_ (by decide) (by decide)
                refine ⟨?_, rfl, rfl⟩
                simp_all [sp_same, cmp0, aw_b]
      · refine aw_iconst (v := 0) S d_At_haveSameValue_27 (by decide) ?_
        refine aw_zret S .boolean rfl (by rfl) d_At_haveSameValue_28 ?_ (by decide) (by decide)
        refine ⟨?_, rfl, rfl⟩
        simp_all [sp_same, cmp0, aw_b]
set_option maxRecDepth 100000 in
set_option maxHeartbeats 4000000 in
theorem ev_At_alike {l : Launch} {E : aw_E} {g : AH} {n : Nat} {o : Nat} {tb pb : Nat → Nat} {tape pr : List Int32} {ts : List Tmv} {bt : Int32} {ps : List (List Int32 × Nat)} (q1 q2 : Int32) (hA : AtF E g o tb pb tape ts.length bt ps.length pr) (hT : AtT E g n o tb pb ts ps) : EV l E 8 0 0 y_At_alike c_At_alike 5 (some .int) g n [.ref o, .int q1, .int q2] (aw_Pi (fun r_ g2 n2 => r_ = op_alike ts q1 q2 ∧ g2 = g ∧ n2 = n)) := by
  obtain ⟨a1, a2, a3, a4, ⟨a5, ft, a6, a7⟩, ⟨a8, fp, a9, a10⟩, a11, a12, a13, a14, a15⟩ := id hA
  refine aw_enter "AddressTerms" [some (.ref o), some (.int q1), some (.int q2), none, none] (by decide) rfl rfl (Nat.le_of_ble_eq_true rfl) ?_
  intro p e s m args below meth c S hnm
  refine aw_aload_0 S d_At_alike_0 ?_
  refine aw_iload_1 S d_At_alike_1 ?_
  refine aw_callVqR S (ev_At_termAt q1 hA) mb_At_termAt mi_At_termAt n_ml_At_122 d_At_alike_2 I_At a2 rfl rfl rfl ?_
  refine aw_astoreQ_3 S d_At_alike_5 ?_
  refine aw_aload_0 S d_At_alike_6 ?_
  refine aw_iload_2 S d_At_alike_7 ?_
  refine aw_callVqR S (ev_At_termAt q2 hA) mb_At_termAt mi_At_termAt n_ml_At_122 d_At_alike_8 I_At a2 rfl rfl rfl ?_
  refine aw_astoreQ_4 S d_At_alike_11 ?_ (hp := aw_nlq _)
  refine aw_aloadQ_3 S d_At_alike_13 ?_
  refine aw_ifnull S 22 d_At_alike_14 (by decide) (fun c14 => ?_) (fun y14 c14 => ?_)
  · refine aw_iconst (v := -1) S d_At_alike_22 (by decide) ?_
    refine aw_iret S rfl d_At_alike_23 ?_ (by decide) (by decide)
    exact ⟨by rw [op_alike, Option.map_eq_none_iff.mp c14], rfl, rfl⟩
  · obtain ⟨i, hi, rfl⟩ := Option.map_eq_some_iff.mp c14
    obtain ⟨qi1, qi2, Ni1, Ni2, qi3⟩ := hT.2.1 i (ixOf_lt (by omega) hi).1
    refine aw_aloadQ_4 S d_At_alike_17 ?_
    refine aw_ifnonnull S 24 d_At_alike_19 (by decide) (fun y19 c19 => ?_) (fun c19 => ?_)
    · obtain ⟨j, hj, rfl⟩ := Option.map_eq_some_iff.mp c19
      obtain ⟨qj1, qj2, Nj1, Nj2, qj3⟩ := hT.2.1 j (ixOf_lt (by omega) hj).1
      rw [hi, hj]
      refine aw_iload_1 S d_At_alike_24 ?_
      refine aw_iload_2 S d_At_alike_25 ?_
      refine aw_icmp_eq S 38 d_At_alike_26 (by decide) (fun c26 => ?_) (fun c26 => ?_)
      · refine aw_iconst (v := 1) S d_At_alike_38 (by decide) ?_
        refine aw_goto S 43 d_At_alike_39 (by decide) ?_
        refine aw_iret S rfl d_At_alike_43 ?_ (by decide) (by decide)
        refine ⟨?_, rfl, rfl⟩
        rw [op_alike, hi, hj]
        dsimp only
        rw [if_pos c26]
      · refine aw_aload_3 S d_At_alike_29 ?_
        refine aw_aload_4 S d_At_alike_30 ?_
        refine aw_callSiR S (ev_At_haveSameValue qi3 qj3) mb_At_haveSameValue n_st_At_haveSameValue n_ml_At_134 d_At_alike_32 rfl rfl ?_
        refine aw_if_eq S 42 d_At_alike_35 (by decide) (fun c35 => ?_) (fun c35 => ?_)
        · refine aw_iconst (v := 0) S d_At_alike_42 (by decide) ?_
          refine aw_iret S rfl d_At_alike_43 ?_ (by decide) (by decide)
          refine ⟨?_, rfl, rfl⟩
          rw [op_alike, hi, hj]
          dsimp only
          rw [if_neg c26, aw_b_f c35]
          rfl
        · refine aw_iconst (v := 1) S d_At_alike_38 (by decide) ?_
          refine aw_goto S 43 d_At_alike_39 (by decide) ?_
          refine aw_iret S rfl d_At_alike_43 ?_ (by decide) (by decide)
          refine ⟨?_, rfl, rfl⟩
          rw [op_alike, hi, hj]
          dsimp only
          rw [if_neg c26, aw_b_t c35]
          rfl
    · refine aw_iconst (v := -1) S d_At_alike_22 (by decide) ?_
      refine aw_iret S rfl d_At_alike_23 ?_ (by decide) (by decide)
      refine ⟨?_, rfl, rfl⟩
      rw [op_alike, Option.map_eq_none_iff.mp c19]
      cases ixOf ts.length q1 <;> rfl
