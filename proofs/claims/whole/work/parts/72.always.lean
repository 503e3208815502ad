/-! WHAT ALWAYS HOLDS of terms, prefixes, base and tape -/
def okTp (tape : List Int32) : Prop := ∀ x ∈ tape, sp_tape x = true
theorem okTp.bt {tape : List Int32} (h : okTp tape) : ∀ x ∈ tape, sp_bt x := fun x hx => tape_bt (h x hx)
theorem okTp.nil : okTp [] := fun x hx => by cases hx
theorem okTp.type {tape : List Int32} (h : okTp tape) (w : Int64) (k : Int32) : okTp (op_typeT tape w k) := by
  unfold op_typeT
  split
  · next h1 =>
    split
    · intro x hx
      rcases List.mem_append.mp hx with q | q
      · exact h x q
      · unfold op_tyOK at h1
        rw [Bool.and_eq_true, List.all_eq_true] at h1
        exact h1.2 x q
    · exact h
  · exact h
theorem okT.put {ts : List Tmv} {w : Tmv} (h : okT ts) (hw : okV w) : okT (op_put ts w) := by
  unfold op_put
  split
  · exact h
  · split
    · intro i hi
      by_cases e : i = ts.length
      · subst e; rw [tmG_new]; exact hw
      · have hi : i < ts.length := by rw [List.length_append, List.length_singleton] at hi; omega
        rw [tmG_app hi]; exact h i hi
    · exact h
theorem put_len (ts : List Tmv) (w : Tmv) : ts.length ≤ (op_put ts w).length := by
  unfold op_put
  split
  · exact Nat.le_refl _
  · split
    · simp
    · exact Nat.le_refl _
theorem put_get {ts : List Tmv} {w : Tmv} {i : Nat} (hi : i < ts.length) : tmG (op_put ts w) i = tmG ts i := by
  unfold op_put
  split
  · rfl
  · split
    · exact tmG_app hi
    · rfl
theorem okP.put {ts : List Tmv} {ps : List Pfv} (h : okP ts ps) (w : Tmv) : okP (op_put ts w) ps := by
  intro j hj
  obtain ⟨h1, h2⟩ := h j hj
  exact ⟨Nat.lt_of_lt_of_le h1 (put_len ts w), by rw [put_get h1]; exact h2⟩
theorem okB.put {ts : List Tmv} {bt : Int32} (h : okB ts bt) (w : Tmv) (hl : ts.length < 2 ^ 31) (hl2 : (op_put ts w).length < 2 ^ 31) : okB (op_put ts w) bt := by
  rcases h with h | ⟨t, h⟩
  · exact Or.inl h
  · obtain ⟨h1, h2⟩ := ixK_some h
    obtain ⟨h3, rfl⟩ := ixOf_lt hl h1
    refine Or.inr ⟨t, ?_⟩
    rw [ixK, ixOf_nI hl2 (Nat.lt_of_lt_of_le h3 (put_len ts w))]
    dsimp only
    rw [put_get h3, if_pos h2]
theorem put_60 {ts : List Tmv} (w : Tmv) (h : ts.length ≤ 60) : (op_put ts w).length ≤ 60 := by
  unfold op_put
  split
  · exact h
  · split
    · simp; omega
    · exact h
theorem okV_lab {q : Int32} (h : sp_in q 0 999 = true) : okV (lb_v q) := by
  refine Or.inr (Or.inl ⟨rfl, rfl, ?_, rfl, rfl⟩)
  unfold sp_in at h
  rw [Bool.and_eq_true] at h
  have h1 : ¬ q < 0 := by simpa using h.1
  have h2 : ¬ 999 < q := by simpa using h.2
  obtain ⟨j, hj, e⟩ := nI_of2 (x := q) (M := 999) (n := 999) (by decide) h1 (Int32.not_lt.mp h2)
  exact ⟨j, by omega, e⟩
theorem tape_txt {b : Int32} (h : sp_tape b = true) : sp_txt b = true := by rw [sp_txt, h]; simp
theorem hxF_txt (xs : List Int32) : ∀ (j p : Nat) (t : Int32), ¬ sp_hxF xs p j t = -1 → sp_txt (sp_hxF xs p j t) = true := by
  intro j
  induction j with
  | zero =>
    intro p t h
    rw [sp_hxF] at h ⊢
    split
    · next q => exact q
    · next q => rw [if_neg q] at h; exact absurd rfl h
  | succ j ih =>
    intro p t h
    rw [sp_hxF] at h ⊢
    split
    · next q => rw [if_pos q] at h; exact absurd rfl h
    · next q => rw [if_neg q] at h; exact ih _ _ h
theorem rdB_txt {xs : List Int32} {p : Nat} (hx : okTp xs) (hp : p < xs.length) (h : ¬ sp_rdB xs p = -1) : sp_txt (sp_rdB xs p) = true := by
  unfold sp_rdB at h ⊢
  split
  · next q =>
    rw [if_pos q] at h
    unfold sp_esc at h ⊢
    split
    · decide
    · next q1 =>
      rw [if_neg q1] at h
      split
      · decide
      · next q2 =>
        rw [if_neg q2] at h
        split
        · decide
        · next q3 =>
          rw [if_neg q3] at h
          split
          · decide
          · next q4 =>
            rw [if_neg q4] at h
            split
            · decide
            · next q5 =>
              rw [if_neg q5] at h
              split
              · next q6 => rw [if_pos q6] at h; exact hxF_txt _ _ _ _ h
              · next q6 => rw [if_neg q6] at h; exact absurd rfl h
  · next q =>
    rw [if_neg q] at h
    split
    · next q1 => rw [if_pos q1] at h; exact absurd rfl h
    · exact tape_txt (hx _ (getD_mem hp))
theorem rd_txt {xs : List Int32} (hx : okTp xs) : ∀ (f p : Nat) (acc : List Int32), (∀ x ∈ acc, sp_txt x = true) → ∀ x ∈ (sp_rd xs f p acc).2, sp_txt x = true := by
  intro f
  induction f with
  | zero => intro p acc h; exact h
  | succ f ih =>
    intro p acc h
    rw [sp_rd]
    split
    · exact h
    · next h1 =>
      split
      · exact h
      · next h2 =>
        refine ih _ _ (fun x hx2 => ?_)
        rcases List.mem_append.mp hx2 with q | q
        · exact h x q
        · rw [List.mem_singleton.mp q]; exact rdB_txt hx (by omega) h2
theorem okV_lit {tape : List Int32} {s : Int32} (hx : okTp tape) (hs : s = 0 ∨ s = 2 ∨ s = 3 ∨ s = 4) (hl : (sp_rdr tape).2.length ≤ 40) : okV (lt_v s (sp_rdr tape).2) := by
  refine Or.inr (Or.inr ⟨rfl, rfl, ?_, hl, Nat.zero_le _, rd_txt hx _ _ _ (fun x h => by cases h), fun _ => rfl⟩)
  rcases hs with h | h | h | h
  · exact Or.inl h
  · exact Or.inr (Or.inr (Or.inl h))
  · exact Or.inr (Or.inr (Or.inr (Or.inl h)))
  · exact Or.inr (Or.inr (Or.inr (Or.inr h)))
theorem okV_tag {ts : List Tmv} {i : Nat} {tape : List Int32} (h : okT ts) (hi : i < ts.length) (hk : (tmG ts i).1 = 2) (hw : sp_wtag tape = none) : okV (tg_v (tmG ts i).2.2.2.1 (tape.map sp_low)) := by
  have ho : (tmG ts i).2.2.2.1.length ≤ 40 ∧ ∀ x ∈ (tmG ts i).2.2.2.1, sp_txt x = true := by
    rcases h i hi with q | q | q
    · rw [q.1] at hk; exact absurd hk (by decide)
    · rw [q.1] at hk; exact absurd hk (by decide)
    · exact ⟨q.2.2.2.1, q.2.2.2.2.2.1⟩
  refine Or.inr (Or.inr ⟨rfl, rfl, Or.inr (Or.inl rfl), ho.1, ?_, ho.2, fun z => absurd rfl z⟩)
  show (tape.map sp_low).length ≤ 16
  rw [List.length_map]
  rcases wt_16 _ _ _ _ _ hw with q | q
  · rw [q]; exact Nat.zero_le _
  · omega
/-! a resolved address: it begins with a scheme -/
theorem csch_cut {r : List Int32} : ∀ (xs : List Int32) (k c : Nat), csch xs k = some c → csch (xs.take (c - k) ++ 58 :: r) k = some c := by
  intro xs
  induction xs with
  | nil => intro k c h; cases h
  | cons b xs ih =>
    intro k c h
    have hge := csch_ge _ _ _ h
    rw [csch] at h
    by_cases h1 : b = 58
    · rw [if_pos h1] at h
      cases h
      rw [Nat.sub_self, List.take_zero, List.nil_append, csch, if_pos rfl]
    · rw [if_neg h1] at h
      by_cases h2 : sp_sch b = true
      · rw [if_pos h2] at h
        have hge2 := csch_ge _ _ _ h
        rw [show c - k = (c - (k + 1)) + 1 by omega, List.take_succ_cons, List.cons_append, csch, if_neg h1, if_pos h2]
        exact ih (k + 1) c h
      · rw [if_neg h2] at h; cases h
theorem col_cut {xs r : List Int32} {c : Nat} (h : sp_col xs = some c) : sp_col (xs.take c ++ 58 :: r) = some c := by
  cases xs with
  | nil => cases h
  | cons b xs =>
    rw [sp_col] at h
    by_cases h1 : sp_let b = true
    · rw [if_pos h1] at h
      have hge := csch_ge _ _ _ h
      have := csch_cut (r := r) xs 1 c h
      rw [show c = (c - 1) + 1 by omega, List.take_succ_cons, List.cons_append, sp_col, if_pos h1, show c - 1 + 1 = c by omega]
      exact this
    · rw [if_neg h1] at h; cases h
theorem sc_col {xs : List Int32} (h : sp_sc xs = true) : ∃ c, sp_col xs = some c ∧ sp_part xs 0 = xs.take c := by
  obtain ⟨q, hq⟩ := Option.isSome_iff_exists.mp h
  obtain ⟨c, hc, e⟩ := Option.map_eq_some_iff.mp hq
  exact ⟨c, hc, by rw [sp_part, hq, ← e]; rfl⟩
theorem res_col {os bs : List Int32} (hb : sp_sc bs = true) : ∃ c, sp_col (sp_res os bs) = some c ∧ c = (sp_part (if sp_sc os then os else bs) 0).length := by
  have key : ∀ xs : List Int32, sp_sc xs = true → ∃ c, sp_col (sp_part xs 0 ++ ([58] ++ sp_r2 os bs)) = some c ∧ c = (sp_part xs 0).length := by
    intro xs hx
    obtain ⟨c, hc, e⟩ := sc_col hx
    rw [e]
    refine ⟨c, col_cut hc, ?_⟩
    have := sp_col_lt hc
    rw [List.length_take]; omega
  unfold sp_res
  cases h : sp_sc os with
  | true => rw [if_pos rfl]; exact key os h
  | false => rw [if_neg (by decide)]; exact key bs hb
theorem res_sc {os bs : List Int32} (hb : sp_sc bs = true) : sp_sc (sp_res os bs) = true := by
  obtain ⟨c, hc, -⟩ := res_col (os := os) hb
  rw [sp_sc]
  show (Option.map _ _).isSome = true
  rw [hc]; rfl
/-! a resolved address that is all safe behind two bytes isn't full -/
theorem safe_58 : sp_safe 58 = false := by decide
theorem safe_47 : sp_safe 47 = false := by decide
def fsl (xs : List Int32) : Nat := sp_nx [47] xs 0
theorem fsl_cons (b : Int32) (xs : List Int32) : fsl (b :: xs) = if b = 47 then 0 else 1 + fsl xs := by
  unfold fsl sp_nx
  rw [List.drop_zero, sp_nxF]
  by_cases h : b = 47
  · rw [if_pos h, if_pos (by rw [h]; decide)]
  · rw [if_neg h, if_neg (fun z => h (List.mem_singleton.mp z)), sp_nxF_shift [47] 1 xs 0, List.drop_zero]
theorem fsl_nil : fsl [] = 0 := rfl
theorem fsl_le (xs : List Int32) : fsl xs ≤ xs.length := (sp_nx_le (L := [47]) (xs := xs) (p := 0) (Nat.zero_le _)).2
theorem fsl_none : ∀ {xs : List Int32}, (∀ x ∈ xs, x ≠ 47) → fsl xs = xs.length := by
  intro xs
  induction xs with
  | nil => intro h; rfl
  | cons b xs ih =>
    intro h
    rw [fsl_cons, if_neg (h b List.mem_cons_self), ih (fun x hx => h x (List.mem_cons_of_mem _ hx)), List.length_cons]
    omega
theorem fsl_app_47 : ∀ (o r : List Int32), fsl (o ++ 47 :: r) = fsl o := by
  intro o
  induction o with
  | nil => intro r; rw [List.nil_append, fsl_cons, if_pos rfl, fsl_nil]
  | cons b o ih => intro r; rw [List.cons_append, fsl_cons, fsl_cons, ih]
theorem fsl_take : ∀ (o : List Int32) (k : Nat), fsl (o.take k) ≤ fsl o := by
  intro o
  induction o with
  | nil => intro k; simp
  | cons b o ih =>
    intro k
    cases k with
    | zero => rw [List.take_zero, fsl_nil]; omega
    | succ k =>
      rw [List.take_succ_cons, fsl_cons, fsl_cons]
      split
      · omega
      · have := ih k; omega
theorem fsl_drop_le {A B : List Int32} {N : Nat} (hA : A.length ≤ N) (hB : B.length ≤ N) : ∀ s, fsl ((A ++ 47 :: B).drop s) ≤ N := by
  intro s
  rcases Nat.lt_or_ge A.length s with h | h
  · have e : (A ++ 47 :: B).drop s = B.drop (s - (A.length + 1)) := by
      rw [List.drop_append, List.drop_eq_nil_iff.mpr (by omega), List.nil_append]
      rw [show s - A.length = (s - (A.length + 1)) + 1 by omega, List.drop_succ_cons]
    rw [e]
    have := fsl_le (B.drop (s - (A.length + 1)))
    rw [List.length_drop] at this
    omega
  · rw [List.drop_append, show s - A.length = 0 by omega, List.drop_zero, fsl_app_47]
    have := fsl_le (A.drop s)
    rw [List.length_drop] at this
    omega
/-- i is empty or begins with a slash -/
def hd47 (i : List Int32) : Prop := i = [] ∨ i.getD 0 (-1) = 47
theorem hd47_drop {i : List Int32} : hd47 (i.drop (sp_nx [47] i 1)) := by
  rcases Nat.lt_or_ge (sp_nx [47] i 1) i.length with h | h
  · right
    have := sp_nx_in (L := [47]) (xs := i) i.length 1 (by omega) h
    rw [getD_drop, Nat.add_zero]
    exact List.mem_singleton.mp this
  · left; exact List.drop_eq_nil_iff.mpr h
theorem hd47_cons {i : List Int32} (h : hd47 i) (hn : ¬ i = []) : ∃ r, i = 47 :: r := by
  rcases h with h | h
  · exact absurd h hn
  · cases i with
    | nil => exact absurd rfl hn
    | cons b r => exact ⟨r, by rw [show b = 47 from h]⟩
theorem dl_fsl (o : List Int32) : fsl (sp_dl o) ≤ fsl o := by
  obtain ⟨k, e, -⟩ := sp_dl_take (os := o)
  rw [e]; exact fsl_take o k
theorem pre_hd {a : Int32} {L i : List Int32} (h : sp_pre (a :: L) i = true) : ∃ r, i = a :: r := by
  cases i with
  | nil => cases h
  | cons b r =>
    rw [sp_pre, Bool.and_eq_true] at h
    exact ⟨r, by rw [of_decide_eq_true h.1]⟩
theorem pl_B : ∀ (f : Nat) (i o : List Int32), hd47 i → fsl (sp_pl f i o) ≤ fsl o := by
  intro f
  induction f with
  | zero => intro i o h; exact Nat.le_refl _
  | succ f ih =>
    intro i o h
    rw [sp_pl]
    split
    · exact Nat.le_refl _
    · next hn =>
      obtain ⟨r, rfl⟩ := hd47_cons h hn
      split
      · next q => obtain ⟨r2, e⟩ := pre_hd q; exact absurd (List.cons.inj e).1 (by decide)
      · split
        · next q => obtain ⟨r2, e⟩ := pre_hd q; exact absurd (List.cons.inj e).1 (by decide)
        · split
          · next q =>
            refine ih _ _ (Or.inr ?_)
            rw [getD_drop]
            exact (pre_iff.mp q).2 2 (by decide)
          · split
            · exact ih _ _ (Or.inr rfl)
            · split
              · next q =>
                refine Nat.le_trans (ih _ _ (Or.inr ?_)) (dl_fsl o)
                rw [getD_drop]
                exact (pre_iff.mp q).2 3 (by decide)
              · split
                · exact Nat.le_trans (ih _ _ (Or.inr rfl)) (dl_fsl o)
                · split
                  · next q => exact absurd (List.cons.inj q).1 (by decide)
                  · split
                    · next q => exact absurd (List.cons.inj q).1 (by decide)
                    · refine Nat.le_trans (ih _ _ hd47_drop) ?_
                      have h1 : 1 ≤ sp_nx [47] (47 :: r) 1 := (sp_nx_le (L := [47]) (xs := 47 :: r) (p := 1) (by simp)).1
                      rw [show sp_nx [47] (47 :: r) 1 = (sp_nx [47] (47 :: r) 1 - 1) + 1 by omega, List.take_succ_cons, fsl_app_47]
                      exact Nat.le_refl _
theorem pl_A (N : Nat) : ∀ (f : Nat) (i : List Int32), (∀ s, fsl (i.drop s) ≤ N) → fsl (sp_pl f i []) ≤ N := by
  intro f
  induction f with
  | zero => intro i h; rw [sp_pl, fsl_nil]; exact Nat.zero_le _
  | succ f ih =>
    intro i h
    have hd : ∀ k, ∀ s, fsl ((i.drop k).drop s) ≤ N := fun k s => by rw [List.drop_drop]; exact h _
    have h0 : ∀ s, fsl (([] : List Int32).drop s) ≤ N := fun s => by rw [List.drop_nil, fsl_nil]; exact Nat.zero_le _
    have h47 : ∀ s, fsl (([47] : List Int32).drop s) ≤ N := fun s => by
      cases s with
      | zero => exact Nat.zero_le _
      | succ s => rw [List.drop_succ_cons, List.drop_nil, fsl_nil]; exact Nat.zero_le _
    rw [sp_pl]
    split
    · rw [fsl_nil]; exact Nat.zero_le _
    · next hn =>
      split
      · exact ih _ (hd 3)
      · split
        · exact ih _ (hd 2)
        · split
          · exact ih _ (hd 2)
          · split
            · exact ih _ h47
            · split
              · exact ih _ (hd 3)
              · split
                · exact ih _ h47
                · split
                  · exact ih _ h0
                  · split
                    · exact ih _ h0
                    · rw [List.nil_append]
                      refine Nat.le_trans (pl_B f _ _ hd47_drop) (Nat.le_trans (fsl_take i _) ?_)
                      have := h 0
                      rwa [List.drop_zero] at this
theorem fold_47 {bs : List Int32} (h : ¬ sp_fold bs = []) : ∃ A, sp_fold bs = A ++ [47] ∧ A.length + 1 ≤ sp_p2 bs - sp_p1 bs := by
  unfold sp_fold at h ⊢
  cases hq : sp_lsO bs (sp_p1 bs) (sp_p2 bs) with
  | none => rw [hq] at h; exact absurd rfl h
  | some k =>
    have hk := sp_lsO_lt hq
    have hp := sp_p2_le bs
    have h47 : bs.getD k (-1) = 47 := by
      have : ∀ z, sp_lsO bs (sp_p1 bs) z = some k → bs.getD k (-1) = 47 := by
        intro z
        induction z with
        | zero => intro q; cases q
        | succ z ih =>
          intro q
          rw [sp_lsO_succ] at q
          split at q
          · cases q
          · split at q
            · next e => cases q; exact e
            · exact ih q
      exact this _ hq
    refine ⟨(bs.take k).drop (sp_p1 bs), ?_, ?_⟩
    · show (bs.take (k + 1)).drop (sp_p1 bs) = _
      rw [seg_step hk.1 (by omega), h47]
    · rw [seg_len (by omega)]; omega
theorem gath_fsl {os bs : List Int32} (fl : Bool) (ho : os.length ≤ 97) (hb : sp_p2 bs - sp_p1 bs ≤ 98) : ∀ s, fsl ((sp_gath fl os bs).drop s) ≤ 97 := by
  have hpart : (sp_part os 2).length ≤ 97 := Nat.le_trans (part_len os 2) ho
  have h0 : ∀ s, fsl ((sp_part os 2).drop s) ≤ 97 := fun s => by
    have := fsl_le ((sp_part os 2).drop s)
    rw [List.length_drop] at this
    omega
  unfold sp_gath
  split
  · split
    · exact fsl_drop_le (A := []) (by simp) hpart
    · by_cases h : sp_fold bs = []
      · rw [h, List.nil_append]; exact h0
      · obtain ⟨A, e, hA⟩ := fold_47 h
        rw [e, List.append_assoc]
        exact fsl_drop_le (by omega) hpart
  · rw [List.nil_append]; exact h0
theorem all_no {xs : List Int32} {c : Int32} (h : xs.all sp_safe = true) (hc : sp_safe c = false) : c ∉ xs := by
  intro hm
  have := List.all_eq_true.mp h c hm
  rw [hc] at this; cases this
theorem beh_empty {a : Int32} {L xs : List Int32} {w : Nat} (h : a ∉ sp_beh (a :: L) xs w) : sp_beh (a :: L) xs w = [] := by
  unfold sp_beh at h ⊢
  split
  · next q => rw [if_pos q] at h; exact absurd List.mem_cons_self h
  · rfl
theorem res_sf {os bs : List Int32} (hb : sp_sc bs = true) (ho : os.length ≤ 96) (hbl : bs.length ≤ 100) (hsf : okSf bs) : okSf (sp_res os bs) := by
  rintro ⟨hl, hs⟩
  obtain ⟨c, hc, hcl⟩ := res_col (os := os) hb
  have hres : sp_res os bs = sp_part (if sp_sc os then os else bs) 0 ++ (58 :: sp_r2 os bs) := rfl
  have hc1 : 1 ≤ c := by
    cases hz : sp_res os bs with
    | nil => rw [hz] at hc; cases hc
    | cons b r =>
      rw [hz, sp_col] at hc
      split at hc
      · exact csch_ge _ _ _ hc
      · cases hc
  generalize hP0 : sp_part (if sp_sc os then os else bs) 0 = P0 at hres hcl
  have hc2 : c = 1 := by
    rcases Nat.lt_or_ge c 2 with q | q
    · omega
    · exfalso
      refine all_no hs safe_58 ?_
      rw [hres, List.drop_append_of_le_length (by omega)]
      exact List.mem_append_right _ List.mem_cons_self
  have hr2 : (sp_res os bs).drop 2 = sp_r2 os bs := by
    rw [hres, List.drop_append, List.drop_eq_nil_iff.mpr (by omega), List.nil_append, show 2 - P0.length = 1 by omega, List.drop_succ_cons, List.drop_zero]
  rw [hr2] at hs
  have hl2 : (sp_r2 os bs).length = 98 := by
    have := congrArg List.length hr2
    rw [List.length_drop] at this
    omega
  have n47 := all_no hs safe_47
  have n63 := all_no hs (show sp_safe 63 = false by decide)
  have n35 := all_no hs (show sp_safe 35 = false by decide)
  have e1 : sp_beh [47, 47] (if sp_oa os then os else bs) 1 = [] := beh_empty (fun z => n47 (by rw [sp_r2]; exact List.mem_append_left _ z))
  have e4 : sp_r4 os bs = [] := by
    have a3 : sp_beh [63] (if sp_oq os then os else bs) 3 = [] := beh_empty (fun z => n63 (by rw [sp_r2, sp_r3, sp_r4]; exact List.mem_append_right _ (List.mem_append_right _ (List.mem_append_left _ z))))
    have a5 : sp_r5 os = [] := by
      rw [sp_r5]
      exact beh_empty (fun z => n35 (by rw [sp_r2, sp_r3, sp_r4, sp_r5]; exact List.mem_append_right _ (List.mem_append_right _ (List.mem_append_right _ z))))
    rw [sp_r4, a3, a5]; rfl
  have e3 : sp_r2 os bs = if sp_op os then sp_plain (sp_gath (sp_oa os) os bs) else sp_part bs 2 := by rw [sp_r2, e1, sp_r3, e4, List.append_nil]; rfl
  have hp0 : 2 ≤ sp_p0 bs := by
    have := len_part0 hb
    obtain ⟨cb, hcb, -⟩ := sc_col hb
    have h1 : sp_p0 bs = cb + 1 := by rw [sp_p0, hcb]
    have h2 : 1 ≤ cb := by
      cases bs with
      | nil => cases hcb
      | cons b r =>
        rw [sp_col] at hcb
        split at hcb
        · exact csch_ge _ _ _ hcb
        · cases hcb
    omega
  have hp1 := p0_le_p1 bs
  have hp2 := sp_p2_le bs
  cases hop : sp_op os with
  | true =>
    rw [hop, if_pos rfl] at e3
    have := pl_A 97 (sp_gath (sp_oa os) os bs).length (sp_gath (sp_oa os) os bs) (gath_fsl _ (by omega) (by omega))
    have this : fsl (sp_plain (sp_gath (sp_oa os) os bs)) ≤ 97 := this
    rw [← e3, fsl_none (fun x hx z => n47 (by rw [← z]; exact hx))] at this
    omega
  | false =>
    rw [hop, if_neg (by decide)] at e3
    have hlp := len_part2 bs
    rw [← e3, hl2] at hlp
    have q1 : sp_p1 bs = 2 := by omega
    have q2 : sp_p2 bs = 100 := by omega
    have q3 : bs.length = 100 := by omega
    apply hsf
    refine ⟨q3, ?_⟩
    have : sp_part bs 2 = (bs.take (sp_p2 bs)).drop (sp_p1 bs) := rfl
    rw [q1, q2, List.take_of_length_le (by omega)] at this
    rw [← this, ← e3]
    exact hs
theorem okV_adr {xs : List Int32} (h1 : xs.length ≤ 100) (h2 : sp_sc xs = true) (h3 : okSf xs) : okV (ad_v xs) := Or.inl ⟨rfl, rfl, rfl, rfl, h1, h2, h3⟩
/-- all that always holds -/
def INV (tape : List Int32) (ts : List Tmv) (bt : Int32) (ps : List Pfv) : Prop := okTp tape ∧ okT ts ∧ okN ps ∧ okP ts ps ∧ okB ts bt
theorem INV.put {tape : List Int32} {ts : List Tmv} {bt : Int32} {ps : List Pfv} (h : INV tape ts bt ps) (tape2 : List Int32) (ht : okTp tape2) {w : Tmv} (hw : okV w) (hl : ts.length ≤ 60) : INV tape2 (op_put ts w) bt ps := by
  have := put_60 w hl
  exact ⟨ht, h.2.1.put hw, h.2.2.1, h.2.2.2.1.put w, h.2.2.2.2.put w (by omega) (by omega)⟩
theorem INV.tp {tape : List Int32} {ts : List Tmv} {bt : Int32} {ps : List Pfv} (h : INV tape ts bt ps) {tape2 : List Int32} (ht : okTp tape2) : INV tape2 ts bt ps := ⟨ht, h.2⟩
theorem INV.type {tape : List Int32} {ts : List Tmv} {bt : Int32} {ps : List Pfv} (h : INV tape ts bt ps) (w : Int64) (k : Int32) : INV (op_typeT tape w k) ts bt ps := h.tp (h.1.type w k)
theorem INV.label {tape : List Int32} {ts : List Tmv} {bt : Int32} {ps : List Pfv} (h : INV tape ts bt ps) (hl : ts.length ≤ 60) (q : Int32) : INV tape (op_labelT ts q) bt ps := by
  unfold op_labelT
  split
  · next z => exact h.put tape h.1 (okV_lab z) hl
  · exact h
theorem INV.resolve {tape : List Int32} {ts : List Tmv} {bt : Int32} {ps : List Pfv} (h : INV tape ts bt ps) (hl : ts.length ≤ 60) (ht : tape.length ≤ 96) : INV [] (op_resT tape ts bt) bt ps := by
  have h0 : INV [] ts bt ps := h.tp okTp.nil
  unfold op_resT
  split
  · exact h0
  · split
    · split
      · next z => exact h.put [] okTp.nil (okV_adr (by omega) z (fun q => by omega)) hl
      · exact h0
    · next i hx =>
      split
      · next z =>
        obtain ⟨h1, h2⟩ := ixK_some hx
        obtain ⟨h3, -⟩ := ixOf_lt (by omega) h1
        have ho : (tmG ts i).2.2.2.1.length ≤ 100 ∧ sp_sc (tmG ts i).2.2.2.1 = true ∧ okSf (tmG ts i).2.2.2.1 := by
          rcases h.2.1 i h3 with q | q | q
          · exact ⟨q.2.2.2.2.1, q.2.2.2.2.2.1, q.2.2.2.2.2.2⟩
          · rw [q.1] at h2; exact absurd h2 (by decide)
          · rw [q.1] at h2; exact absurd h2 (by decide)
        exact h.put [] okTp.nil (okV_adr z (res_sc ho.2.1) (res_sf ho.2.1 ht ho.1 ho.2.2)) hl
      · exact h0
theorem INV.literal {tape : List Int32} {ts : List Tmv} {bt : Int32} {ps : List Pfv} (h : INV tape ts bt ps) (hl : ts.length ≤ 60) (s : Int32) : INV [] (op_litT tape ts s) bt ps := by
  have h0 : INV [] ts bt ps := h.tp okTp.nil
  unfold op_litT
  split
  · next hs =>
    split
    · exact h0
    · split
      · next z => exact h.put [] okTp.nil (okV_lit h.1 hs z) hl
      · exact h0
  · exact h0
theorem INV.tagged {tape : List Int32} {ts : List Tmv} {bt : Int32} {ps : List Pfv} (h : INV tape ts bt ps) (hl : ts.length ≤ 60) (q : Int32) : INV [] (op_tagT tape ts q) bt ps := by
  have h0 : INV [] ts bt ps := h.tp okTp.nil
  unfold op_tagT
  split
  · exact h0
  · next i hx =>
    split
    · split
      · exact h0
      · next hw =>
        obtain ⟨h1, h2⟩ := ixK_some hx
        obtain ⟨h3, -⟩ := ixOf_lt (by omega) h1
        exact h.put [] okTp.nil (okV_tag h.2.1 h3 h2 hw) hl
    · exact h0
theorem INV.base {tape : List Int32} {ts : List Tmv} {bt : Int32} {ps : List Pfv} (h : INV tape ts bt ps) (q : Int32) : INV tape ts (op_baseB ts bt q) ps := by
  refine ⟨h.1, h.2.1, h.2.2.1, h.2.2.2.1, ?_⟩
  unfold op_baseB
  split
  · next z => exact Or.inl z
  · split
    · next z => exact Or.inr (Option.isSome_iff_exists.mp z)
    · exact h.2.2.2.2
theorem INV.pfx {tape : List Int32} {ts : List Tmv} {bt : Int32} {ps : List Pfv} (h : INV tape ts bt ps) (hl : ts.length ≤ 60) (q : Int32) : INV [] ts bt (op_preP tape ts ps q) := by
  have h0 : INV [] ts bt ps := h.tp okTp.nil
  unfold op_preP
  split
  · exact h0
  · next i hx =>
    obtain ⟨h1, h2⟩ := ixK_some hx
    obtain ⟨h3, -⟩ := ixOf_lt (by omega) h1
    split
    · next hnm =>
      split
      · next j hj =>
        have hjl := pfF_lt hj
        refine ⟨okTp.nil, h.2.1, fun k hk => ?_, fun k hk => ?_, h.2.2.2.2⟩
        · rw [List.length_set] at hk
          by_cases e : j = k
          · subst e; rw [pfG_set (by omega)]; exact h.2.2.1 j (by omega)
          · rw [pfG_ne e]; exact h.2.2.1 k hk
        · rw [List.length_set] at hk
          by_cases e : j = k
          · subst e; rw [pfG_set (by omega)]; exact ⟨h3, h2⟩
          · rw [pfG_ne e]; exact h.2.2.2.1 k hk
      · split
        · refine ⟨okTp.nil, h.2.1, fun k hk => ?_, fun k hk => ?_, h.2.2.2.2⟩
          · rw [List.length_append, List.length_singleton] at hk
            by_cases e : k = ps.length
            · subst e
              rw [pfG_new]
              unfold sp_name at hnm
              exact of_decide_eq_true (Bool.and_eq_true_iff.mp hnm).1
            · rw [pfG_app (by omega)]; exact h.2.2.1 k (by omega)
          · rw [List.length_append, List.length_singleton] at hk
            by_cases e : k = ps.length
            · subst e; rw [pfG_new]; exact ⟨h3, h2⟩
            · rw [pfG_app (by omega)]; exact h.2.2.2.1 k (by omega)
        · exact h0
    · exact h0
