/-! prefixes; references read in parts -/
def IsPx (E : aw_E) (g : AH) (a b : Nat) : Prop := E.2.2.1 ≤ a ∧ g a = some (.inr (0, [.ref (a + 1), .ref b]))
def oi (o : Option Nat) : Int32 := match o with
  | some c => nI c
  | none => -1
theorem nI_m {c : Nat} (h : c < 2 ^ 31) : ¬ nI c = -1 := by
  intro e
  have h1 := nI_pos h
  rw [e] at h1
  exact h1 (by decide)
theorem nI_m' {c : Nat} (h : c < 2 ^ 31) : ¬ (-1 : Int32) = nI c := fun e => nI_m h e.symm
def sp_sch (b : Int32) : Bool := sp_ld b || (decide (b = 43) || (decide (b = 45) || decide (b = 46)))
def csch : List Int32 → Nat → Option Nat
  | [], _ => none
  | b :: r, k => if b = 58 then some k else if sp_sch b then csch r (k + 1) else none
def sp_col : List Int32 → Option Nat
  | [] => none
  | b :: r => if sp_let b then csch r 1 else none
def sp_p0 (xs : List Int32) : Nat := match sp_col xs with
  | none => 0
  | some c => c + 1
def sp_au (xs : List Int32) : Bool := sp_pre [47, 47] (xs.drop (sp_p0 xs))
def sp_p1 (xs : List Int32) : Nat := if sp_au xs then sp_nx [47, 63, 35] xs (sp_p0 xs + 2) else sp_p0 xs
def sp_p2 (xs : List Int32) : Nat := sp_nx [63, 35] xs (sp_p1 xs)
def sp_p3 (xs : List Int32) : Nat := sp_nx [35] xs (sp_p2 xs)
def sp_pt (xs : List Int32) (w : Nat) : Option (Nat × Nat) := match w with
  | 0 => (sp_col xs).map (fun c => (0, c))
  | 1 => if sp_au xs then some (sp_p0 xs + 2, sp_p1 xs) else none
  | 2 => some (sp_p1 xs, sp_p2 xs)
  | 3 => if xs.getD (sp_p2 xs) (-1) = 63 then some (sp_p2 xs + 1, sp_p3 xs) else none
  | _ => if xs.getD (sp_p3 xs) (-1) = 35 then some (sp_p3 xs + 1, xs.length) else none
theorem sp_nxF_le (L : List Int32) : ∀ (xs : List Int32) (k : Nat), k ≤ sp_nxF L xs k ∧ sp_nxF L xs k ≤ k + xs.length := by
  intro xs
  induction xs with
  | nil => intro k; exact ⟨Nat.le_refl _, Nat.le_refl _⟩
  | cons b r ih =>
    intro k
    rw [sp_nxF]
    by_cases h : b ∈ L
    · rw [if_pos h]; exact ⟨Nat.le_refl _, Nat.le_add_right _ _⟩
    · rw [if_neg h]
      have := ih (k + 1)
      rw [List.length_cons]
      omega
theorem sp_nx_le {L xs : List Int32} {p : Nat} (h : p ≤ xs.length) : p ≤ sp_nx L xs p ∧ sp_nx L xs p ≤ xs.length := by
  have := sp_nxF_le L (xs.drop p) p
  rw [List.length_drop] at this
  unfold sp_nx
  omega
theorem csch_lt : ∀ (xs : List Int32) (k c : Nat), csch xs k = some c → c < k + xs.length := by
  intro xs
  induction xs with
  | nil => intro k c h; simp [csch] at h
  | cons b r ih =>
    intro k c h
    rw [csch] at h
    rw [List.length_cons]
    split at h
    · cases h; omega
    · split at h
      · have := ih (k + 1) c h; omega
      · cases h
theorem sp_col_lt {xs : List Int32} {c : Nat} (h : sp_col xs = some c) : c < xs.length := by
  cases xs with
  | nil => simp [sp_col] at h
  | cons b r =>
    rw [sp_col] at h
    rw [List.length_cons]
    split at h
    · have := csch_lt r 1 c h; omega
    · cases h
theorem sp_p0_le (xs : List Int32) : sp_p0 xs ≤ xs.length := by
  unfold sp_p0
  cases h : sp_col xs with
  | none => exact Nat.zero_le _
  | some c => exact sp_col_lt h
theorem sp_pre_le : ∀ {ys xs : List Int32}, sp_pre ys xs = true → ys.length ≤ xs.length := by
  intro ys xs h
  rcases Nat.lt_or_ge xs.length ys.length with q | q
  · rw [sp_pre_len q] at h; cases h
  · exact q
theorem sp_au_le {xs : List Int32} (h : sp_au xs = true) : sp_p0 xs + 2 ≤ xs.length := by
  have := sp_pre_le h
  rw [List.length_drop] at this
  have h0 := sp_p0_le xs
  simp at this
  omega
theorem sp_p1_le (xs : List Int32) : sp_p1 xs ≤ xs.length := by
  unfold sp_p1
  split
  · next h => exact (sp_nx_le (sp_au_le h)).2
  · exact sp_p0_le xs
theorem sp_p2_le (xs : List Int32) : sp_p1 xs ≤ sp_p2 xs ∧ sp_p2 xs ≤ xs.length := sp_nx_le (sp_p1_le xs)
theorem sp_p3_le (xs : List Int32) : sp_p2 xs ≤ sp_p3 xs ∧ sp_p3 xs ≤ xs.length := sp_nx_le (sp_p2_le xs).2
def IsRf (E : aw_E) (g : AH) (a r : Nat) (fb fe : Nat → Int32) : Prop := E.2.2.1 ≤ a ∧ g a = some (.inr (1, [.ref (a + 1), .ref (a + 2), .ref r])) ∧ g (a + 1) = some (.inl (E.2.1 1, 5, .inl fb)) ∧ g (a + 2) = some (.inl (E.2.1 1, 5, .inl fe))
theorem IsRf.fr {E : aw_E} {g g2 : AH} {a r b j : Nat} {fb fe : Nat → Int32} (h : IsRf E g a r fb fe) (hf : aw_fr g g2 b j) (hd : a + 3 ≤ b ∨ b + j ≤ a) : IsRf E g2 a r fb fe :=
  ⟨h.1, (hf a (by omega)).trans h.2.1, (hf _ (by omega)).trans h.2.2.1, (hf _ (by omega)).trans h.2.2.2⟩
/-- part w of xs is as it is noted -/
def okp (xs : List Int32) (fb fe : Nat → Int32) (w : Nat) : Prop := match sp_pt xs w with
  | some q => fb w = nI q.1 ∧ fe w = nI q.2
  | none => fe w = -1
def Rfst (E : aw_E) (g : AH) (a r : Nat) (xs : List Int32) (k : Nat) : Prop := ∃ fb fe : Nat → Int32, IsRf E g a r fb fe ∧ (∀ w, w < k → okp xs fb fe w) ∧ ∀ w, k ≤ w → w < 5 → fe w = -1
theorem Rfst.fr {E : aw_E} {g g2 : AH} {a r b j k : Nat} {xs : List Int32} (h : Rfst E g a r xs k) (hf : aw_fr g g2 b j) (hd : a + 3 ≤ b ∨ b + j ≤ a) : Rfst E g2 a r xs k := by
  obtain ⟨fb, fe, h1, h2, h3⟩ := h
  exact ⟨fb, fe, h1.fr hf hd, h2, h3⟩
theorem Rfst.skip {E : aw_E} {g : AH} {a r k : Nat} {xs : List Int32} (h : Rfst E g a r xs k) (hk : k < 5) (hn : sp_pt xs k = none) : Rfst E g a r xs (k + 1) := by
  obtain ⟨fb, fe, h1, h2, h3⟩ := h
  refine ⟨fb, fe, h1, fun w hw => ?_, fun w h4 h5 => h3 w (by omega) h5⟩
  by_cases e : w = k
  · subst e
    unfold okp
    rw [hn]
    exact h3 w (Nat.le_refl _) hk
  · exact h2 w (by omega)
theorem okp_upd {xs : List Int32} {fb fe : Nat → Int32} {k w : Nat} {x y : Int32} (h : w ≠ k) (h1 : okp xs fb fe w) : okp xs (upd fb k x) (upd fe k y) w := by
  unfold okp at h1 ⊢
  rw [pk_un h, pk_un h]
  exact h1
set_option maxRecDepth 100000 in
set_option maxHeartbeats 4000000 in
theorem ev_Px_init {l : Launch} {E : aw_E} {g : AH} {n : Nat} {a b : Nat} (hb0 : E.2.2.1 ≤ a) (ha : g a = some (.inr (0, [.null, .null]))) : EV l E 1 0 0 y_Px_init c_Px_init 3 none g n [.ref a, .ref (a + 1), .ref b] (aw_Pv (fun g2 n2 => n2 = n ∧ IsPx E g2 a b ∧ aw_fr g g2 a 1)) := by
  refine aw_enter "AddressTerms$Prefix" [some (.ref a), some (.ref (a + 1)), some (.ref b)] (by decide) rfl rfl (Nat.le_of_ble_eq_true rfl) ?_
  intro p e s m args below meth c S hnm
  refine aw_aload_0 S d_Px_init_0 ?_
  refine aw_objInit S n_ml_Px_1 n_im_Jo_init n_co_Jo_init d_Px_init_1 (by decide) (Nat.le_of_ble_eq_true rfl) ?_
  refine aw_aload_0 S d_Px_init_4 ?_
  refine aw_aload_1 S d_Px_init_5 ?_
  refine aw_putF (fs2 := [.ref (a + 1), .null]) S I_Px 0 ha n_fl_Px_7 d_Px_init_6 rfl hb0 rfl hnm rfl rfl rfl (by decide) (Nat.le_of_ble_eq_true rfl) ?_
  refine aw_aload_0 S d_Px_init_9 ?_
  refine aw_aload_2 S d_Px_init_10 ?_
  refine aw_putf (fs2 := [.ref (a + 1), .ref b]) S I_Px 1 (aw_up_s _ _ _) n_fl_Px_13 d_Px_init_11 rfl hb0 rfl rfl rfl (by decide) (Nat.le_of_ble_eq_true rfl) ?_
  refine aw_vret S rfl d_Px_init_14 ?_ (by decide) (by decide)
  exact ⟨rfl, ⟨hb0, aw_up_s _ _ _⟩, fun x hx => by rw [aw_up_n (by omega), aw_up_n (by omega)]⟩
set_option maxRecDepth 100000 in
set_option maxHeartbeats 4000000 in
theorem ev_Px_tells {l : Launch} {E : aw_E} {g : AH} {n : Nat} {a b w0 N N2 : Nat} {xs ys : List Int32} (hP : IsPx E g a b) (hR : IsRow E g w0 N xs) (hR2 : IsRow E g b N2 ys) : EV l E 3 0 0 y_Px_tells c_Px_tells 4 (some .boolean) g n [.ref a, .ref w0] (aw_Pi (fun r_ g2 n2 => r_ = aw_b (sp_tells ys xs) ∧ g2 = g ∧ n2 = n)) := by
  have hN := hR.room
  refine aw_enter "AddressTerms$Prefix" [some (.ref a), some (.ref w0), none, none] (by decide) rfl rfl (Nat.le_of_ble_eq_true rfl) ?_
  intro p e s m args below meth c S hnm
  have loop : ∀ (j k : Nat) (x : Option Value), k + j = xs.length → (xs.drop k).all sp_safe = (xs.drop ys.length).all sp_safe → sp_pre ys xs = true → AW p l e { frames := 3, cells := 0, slots := 0, locals := 40 * 3 } s m args below meth c E 4 (aw_Z E (aw_Pi (fun r_ g2 n2 => r_ = aw_b (sp_tells ys xs) ∧ g2 = g ∧ n2 = n)) below args s 0 0) 0 0 g n 21 [some (.ref a), some (.ref w0), some (.int (nI k)), x] [] := by
    intro j
    induction j with
    | zero =>
      intro k x hk hv hp
      rw [List.drop_eq_nil_iff.mpr (show xs.length ≤ k by omega)] at hv
      refine aw_iload_2 S d_Px_tells_21 ?_
      refine aw_aload_1 S d_Px_tells_22 ?_
      refine aw_callViR S (ev_Rw_size hR) mb_Rw_size mi_Rw_size n_ml_Px_22 d_Px_tells_23 I_Rw hR.cell rfl rfl rfl ?_
      refine aw_icmp_ge S 62 d_Px_tells_26 (by decide) (fun c26 => ?_) (fun c26 => ?_)
      · refine aw_iconst (v := 1) S d_Px_tells_62 (by decide) ?_
        refine aw_zret S .boolean rfl (by rfl) d_Px_tells_63 ?_ (by decide) (by decide)
        refine ⟨aw_b1 ?_, rfl, rfl⟩
        rw [sp_tells, hp, ← hv]
        rfl
      · exact absurd (nI_le (by omega) (by omega)) c26
    | succ j ih =>
      intro k x hk hv hp
      have hkx : k < xs.length := by omega
      rw [drop_cons hkx, List.all_cons] at hv
      refine aw_iload_2 S d_Px_tells_21 ?_
      refine aw_aload_1 S d_Px_tells_22 ?_
      refine aw_callViR S (ev_Rw_size hR) mb_Rw_size mi_Rw_size n_ml_Px_22 d_Px_tells_23 I_Rw hR.cell rfl rfl rfl ?_
      refine aw_icmp_ge S 62 d_Px_tells_26 (by decide) (fun c26 => ?_) (fun c26 => ?_)
      · exact absurd c26 (nI_ge (by omega) (by omega))
      · refine aw_aload_1 S d_Px_tells_29 ?_
        refine aw_iload_2 S d_Px_tells_30 ?_
        refine aw_callViR S (ev_Rw_byteAt (nI k) hR) mb_Rw_byteAt mi_Rw_byteAt n_ml_Px_26 d_Px_tells_31 I_Rw hR.cell rfl rfl rfl ?_
        rw [sp_at_nI (by omega)]
        refine aw_istore_3 S d_Px_tells_34 ?_
        refine aw_iload_3 S d_Px_tells_35 ?_
        refine aw_callSNiR S (ev_At_isLetterOrDigit (xs.getD k (-1))) mb_At_isLetterOrDigit n_st_At_isLetterOrDigit (S.2.2.1.2.2.1 _ (List.mem_of_getElem? (i := 6) rfl)) d_Px_tells_36 rfl rfl ?_
        refine aw_if_ne S 56 d_Px_tells_39 (by decide) (fun c39 => ?_) (fun c39 => ?_)
        · refine aw_iinc_2 (v := nI (k + 1)) S d_Px_tells_56 ((nI_succ k).symm) ?_
          refine aw_goto S 21 d_Px_tells_59 (by decide) ?_
          have hs : sp_safe (xs.getD k (-1)) = true := by simp_all [sp_safe, aw_b]
          rw [hs, Bool.true_and] at hv
          exact ih (k + 1) _ (by omega) hv hp
        · refine aw_iload_3 S d_Px_tells_42 ?_
          refine aw_bipush (v := 95) S d_Px_tells_43 (by decide) ?_
          refine aw_icmp_eq S 56 d_Px_tells_45 (by decide) (fun c45 => ?_) (fun c45 => ?_)
          · refine aw_iinc_2 (v := nI (k + 1)) S d_Px_tells_56 ((nI_succ k).symm) ?_
            refine aw_goto S 21 d_Px_tells_59 (by decide) ?_
            have hs : sp_safe (xs.getD k (-1)) = true := by simp_all [sp_safe, aw_b]
            rw [hs, Bool.true_and] at hv
            exact ih (k + 1) _ (by omega) hv hp
          · refine aw_iload_3 S d_Px_tells_48 ?_
            refine aw_bipush (v := 45) S d_Px_tells_49 (by decide) ?_
            refine aw_icmp_eq S 56 d_Px_tells_51 (by decide) (fun c51 => ?_) (fun c51 => ?_)
            · refine aw_iinc_2 (v := nI (k + 1)) S d_Px_tells_56 ((nI_succ k).symm) ?_
              refine aw_goto S 21 d_Px_tells_59 (by decide) ?_
              have hs : sp_safe (xs.getD k (-1)) = true := by simp_all [sp_safe, aw_b]
              rw [hs, Bool.true_and] at hv
              exact ih (k + 1) _ (by omega) hv hp
            · refine aw_iconst (v := 0) S d_Px_tells_54 (by decide) ?_
              refine aw_zret S .boolean rfl (by rfl) d_Px_tells_55 ?_ (by decide) (by decide)
              have hs : sp_safe (xs.getD k (-1)) = false := by simp_all [sp_safe, aw_b]
              rw [hs, Bool.false_and] at hv
              refine ⟨aw_b0 ?_, rfl, rfl⟩
              rw [sp_tells, ← hv, Bool.and_false]
  refine aw_aload_1 S d_Px_tells_0 ?_
  refine aw_aload_0 S d_Px_tells_1 ?_
  refine aw_getf S I_Px 1 hP.2 n_fl_Px_13 d_Px_tells_2 rfl (by decide) ?_
  refine aw_callViR S (ev_Rw_beginsWith hR hR2) mb_Rw_beginsWith mi_Rw_beginsWith n_ml_Px_16 d_Px_tells_5 I_Rw hR.cell rfl rfl rfl ?_
  refine aw_if_ne S 13 d_Px_tells_8 (by decide) (fun c8 => ?_) (fun c8 => ?_)
  · refine aw_aload_0 S d_Px_tells_13 ?_
    refine aw_getf S I_Px 1 hP.2 n_fl_Px_13 d_Px_tells_14 rfl (by decide) ?_
    refine aw_callViR S (ev_Rw_size hR2) mb_Rw_size mi_Rw_size n_ml_Px_22 d_Px_tells_17 I_Rw hR2.cell rfl rfl rfl ?_
    refine aw_istore_2 S d_Px_tells_20 ?_
    have hp := aw_b_t c8
    have := sp_pre_le hp
    exact loop (xs.length - ys.length) ys.length none (by omega) rfl hp
  · refine aw_iconst (v := 0) S d_Px_tells_11 (by decide) ?_
    refine aw_zret S .boolean rfl (by rfl) d_Px_tells_12 ?_ (by decide) (by decide)
    exact ⟨aw_b0 (by rw [sp_tells, aw_b_f c8, Bool.false_and]), rfl, rfl⟩
set_option maxRecDepth 100000 in
set_option maxHeartbeats 4000000 in
theorem ev_Px_isBetterThan {l : Launch} {E : aw_E} {g : AH} {n : Nat} {a b a2 b2 N1 N2 N3 N4 : Nat} {na xs nb ys : List Int32} (hP : IsPx E g a b) (hP2 : IsPx E g a2 b2) (h1 : IsRow E g (a + 1) N1 na) (h2 : IsRow E g b N2 xs) (h3 : IsRow E g (a2 + 1) N3 nb) (h4 : IsRow E g b2 N4 ys) : EV l E 2 0 0 y_Px_isBetterThan c_Px_isBetterThan 3 (some .boolean) g n [.ref a, .ref a2] (aw_Pi (fun r_ g2 n2 => r_ = aw_b (sp_better xs.length na ys.length nb) ∧ g2 = g ∧ n2 = n)) := by
  refine aw_enter "AddressTerms$Prefix" [some (.ref a), some (.ref a2), none] (by decide) rfl rfl (Nat.le_of_ble_eq_true rfl) ?_
  intro p e s m args below meth c S hnm
  refine aw_aload_1 S d_Px_isBetterThan_0 ?_
  refine aw_getf S I_Px 1 hP2.2 n_fl_Px_13 d_Px_isBetterThan_1 rfl (by decide) ?_
  refine aw_callViR S (ev_Rw_size h4) mb_Rw_size mi_Rw_size n_ml_Px_22 d_Px_isBetterThan_4 I_Rw h4.cell rfl rfl rfl ?_
  refine aw_aload_0 S d_Px_isBetterThan_7 ?_
  refine aw_getf S I_Px 1 hP.2 n_fl_Px_13 d_Px_isBetterThan_8 rfl (by decide) ?_
  refine aw_callViR S (ev_Rw_size h2) mb_Rw_size mi_Rw_size n_ml_Px_22 d_Px_isBetterThan_11 I_Rw h2.cell rfl rfl rfl ?_
  refine aw_callSNiR S (ev_At_orderOf (nI ys.length) (nI xs.length)) mb_At_orderOf n_st_At_orderOf (S.2.2.1.2.2.1 _ (List.mem_of_getElem? (i := 7) rfl)) d_Px_isBetterThan_14 rfl rfl ?_
  refine aw_istore_2 S d_Px_isBetterThan_17 ?_
  refine aw_iload_2 S d_Px_isBetterThan_18 ?_
  refine aw_if_ne S 44 d_Px_isBetterThan_19 (by decide) (fun c19 => ?_) (fun c19 => ?_)
  · refine aw_iload_2 S d_Px_isBetterThan_44 ?_
    refine aw_if_ge S 52 d_Px_isBetterThan_45 (by decide) (fun c45 => ?_) (fun c45 => ?_)
    · refine aw_iconst (v := 0) S d_Px_isBetterThan_52 (by decide) ?_
      refine aw_zret S .boolean rfl (by rfl) d_Px_isBetterThan_53 ?_ (by decide) (by decide)
      first
        | (refine ⟨aw_b1 ?_, rfl, rfl⟩; simp [sp_better, *]; done)
        | (refine ⟨aw_b0 ?_, rfl, rfl⟩; simp [sp_better, *]; done)
        | (refine ⟨aw_b1 ?_, rfl, rfl⟩; rw [sp_better, if_pos (by assumption)]; exact decide_eq_true (Int32.not_le.mp (by assumption)))
        | (refine ⟨aw_b0 ?_, rfl, rfl⟩; rw [sp_better, if_pos (by assumption)]; exact decide_eq_false (Int32.not_lt.mpr (by assumption)))
        | (refine ⟨aw_b1 ?_, rfl, rfl⟩; rw [sp_better, if_neg (by assumption)]; exact decide_eq_true (Int32.not_le.mp (by assumption)))
        | (refine ⟨aw_b0 ?_, rfl, rfl⟩; rw [sp_better, if_neg (by assumption)]; exact decide_eq_false (Int32.not_lt.mpr (by assumption)))
    · refine aw_iconst (v := 1) S d_Px_isBetterThan_48 (by decide) ?_
      refine aw_goto S 53 d_Px_isBetterThan_49 (by decide) ?_
      refine aw_zret S .boolean rfl (by rfl) d_Px_isBetterThan_53 ?_ (by decide) (by decide)
      first
        | (refine ⟨aw_b1 ?_, rfl, rfl⟩; simp [sp_better, *]; done)
        | (refine ⟨aw_b0 ?_, rfl, rfl⟩; simp [sp_better, *]; done)
        | (refine ⟨aw_b1 ?_, rfl, rfl⟩; rw [sp_better, if_pos (by assumption)]; exact decide_eq_true (Int32.not_le.mp (by assumption)))
        | (refine ⟨aw_b0 ?_, rfl, rfl⟩; rw [sp_better, if_pos (by assumption)]; exact decide_eq_false (Int32.not_lt.mpr (by assumption)))
        | (refine ⟨aw_b1 ?_, rfl, rfl⟩; rw [sp_better, if_neg (by assumption)]; exact decide_eq_true (Int32.not_le.mp (by assumption)))
        | (refine ⟨aw_b0 ?_, rfl, rfl⟩; rw [sp_better, if_neg (by assumption)]; exact decide_eq_false (Int32.not_lt.mpr (by assumption)))
  · refine aw_aload_0 S d_Px_isBetterThan_22 ?_
    refine aw_getf S I_Px 0 hP.2 n_fl_Px_7 d_Px_isBetterThan_23 rfl (by decide) ?_
    refine aw_aload_1 S d_Px_isBetterThan_26 ?_
    refine aw_getf S I_Px 0 hP2.2 n_fl_Px_7 d_Px_isBetterThan_27 rfl (by decide) ?_
    refine aw_callViR S (ev_Rw_order h1 h3) mb_Rw_order mi_Rw_order n_ml_Px_40 d_Px_isBetterThan_30 I_Rw h1.cell rfl rfl rfl ?_
    refine aw_if_ge S 40 d_Px_isBetterThan_33 (by decide) (fun c33 => ?_) (fun c33 => ?_)
    · refine aw_iconst (v := 0) S d_Px_isBetterThan_40 (by decide) ?_
      refine aw_goto S 53 d_Px_isBetterThan_41 (by decide) ?_
      refine aw_zret S .boolean rfl (by rfl) d_Px_isBetterThan_53 ?_ (by decide) (by decide)
      first
        | (refine ⟨aw_b1 ?_, rfl, rfl⟩; simp [sp_better, *]; done)
        | (refine ⟨aw_b0 ?_, rfl, rfl⟩; simp [sp_better, *]; done)
        | (refine ⟨aw_b1 ?_, rfl, rfl⟩; rw [sp_better, if_pos (by assumption)]; exact decide_eq_true (Int32.not_le.mp (by assumption)))
        | (refine ⟨aw_b0 ?_, rfl, rfl⟩; rw [sp_better, if_pos (by assumption)]; exact decide_eq_false (Int32.not_lt.mpr (by assumption)))
        | (refine ⟨aw_b1 ?_, rfl, rfl⟩; rw [sp_better, if_neg (by assumption)]; exact decide_eq_true (Int32.not_le.mp (by assumption)))
        | (refine ⟨aw_b0 ?_, rfl, rfl⟩; rw [sp_better, if_neg (by assumption)]; exact decide_eq_false (Int32.not_lt.mpr (by assumption)))
    · refine aw_iconst (v := 1) S d_Px_isBetterThan_36 (by decide) ?_
      refine aw_goto S 53 d_Px_isBetterThan_37 (by decide) ?_
      refine aw_zret S .boolean rfl (by rfl) d_Px_isBetterThan_53 ?_ (by decide) (by decide)
      first
        | (refine ⟨aw_b1 ?_, rfl, rfl⟩; simp [sp_better, *]; done)
        | (refine ⟨aw_b0 ?_, rfl, rfl⟩; simp [sp_better, *]; done)
        | (refine ⟨aw_b1 ?_, rfl, rfl⟩; rw [sp_better, if_pos (by assumption)]; exact decide_eq_true (Int32.not_le.mp (by assumption)))
        | (refine ⟨aw_b0 ?_, rfl, rfl⟩; rw [sp_better, if_pos (by assumption)]; exact decide_eq_false (Int32.not_lt.mpr (by assumption)))
        | (refine ⟨aw_b1 ?_, rfl, rfl⟩; rw [sp_better, if_neg (by assumption)]; exact decide_eq_true (Int32.not_le.mp (by assumption)))
        | (refine ⟨aw_b0 ?_, rfl, rfl⟩; rw [sp_better, if_neg (by assumption)]; exact decide_eq_false (Int32.not_lt.mpr (by assumption)))
set_option maxRecDepth 100000 in
set_option maxHeartbeats 4000000 in
theorem ev_Rf_note {l : Launch} {E : aw_E} {g : AH} {n : Nat} {a r : Nat} {fb fe : Nat → Int32} (w : Nat) (x y : Int32) (hF : IsRf E g a r fb fe) (hw : w < 5) : EV l E 0 0 0 y_Rf_note c_Rf_note 4 none g n [.ref a, .int (nI w), .int x, .int y] (aw_Pv (fun g2 n2 => n2 = n ∧ IsRf E g2 a r (upd fb w x) (upd fe w y) ∧ aw_fr g g2 a 3)) := by
  obtain ⟨h1, h2, h3, h4⟩ := id hF
  refine aw_enter "AddressTerms$Reference" [some (.ref a), some (.int (nI w)), some (.int x), some (.int y)] (by decide) rfl rfl (Nat.le_of_ble_eq_true rfl) ?_
  intro p e s m args below meth c S hnm
  refine aw_iload_1 S d_Rf_note_0 ?_
  refine aw_if_lt S 36 d_Rf_note_1 (by decide) (fun c1 => ?_) (fun c1 => ?_)
  · exact absurd c1 (nI_pos (by omega))
  · refine aw_iload_1 S d_Rf_note_4 ?_
    refine aw_aload_0 S d_Rf_note_5 ?_
    refine aw_getf S I_Rf 0 h2 n_fl_Rf_9 d_Rf_note_6 rfl (by decide) ?_
    refine aw_alen S 1 rfl h3 d_Rf_note_9 ?_
    refine aw_icmp_ge S 36 d_Rf_note_10 (by decide) (fun c10 => ?_) (fun c10 => ?_)
    · exact absurd c10 (nI_ge hw (by omega))
    · refine aw_iload_1 S d_Rf_note_13 ?_
      refine aw_aload_0 S d_Rf_note_14 ?_
      refine aw_getf S I_Rf 1 h2 n_fl_Rf_15 d_Rf_note_15 rfl (by decide) ?_
      refine aw_alen S 1 rfl h4 d_Rf_note_18 ?_
      refine aw_icmp_ge S 36 d_Rf_note_19 (by decide) (fun c19 => ?_) (fun c19 => ?_)
      · exact absurd c19 (nI_ge hw (by omega))
      · refine aw_aload_0 S d_Rf_note_22 ?_
        refine aw_getf S I_Rf 0 h2 n_fl_Rf_9 d_Rf_note_23 rfl (by decide) ?_
        refine aw_iload_1 S d_Rf_note_26 ?_
        refine aw_iload_2 S d_Rf_note_27 ?_
        refine aw_iast S h3 d_Rf_note_28 (by omega) (vp_in_nI hw (by omega)) ?_
        refine aw_aload_0 S d_Rf_note_29 ?_
        refine aw_getf S I_Rf 1 (by rw [aw_up_n (by omega)]; exact h2) n_fl_Rf_15 d_Rf_note_30 rfl (by decide) ?_
        refine aw_iload_1 S d_Rf_note_33 ?_
        refine aw_iload_3 S d_Rf_note_34 ?_
        refine aw_iast S (by rw [aw_up_n (by omega)]; exact h4) d_Rf_note_35 (by omega) (vp_in_nI hw (by omega)) ?_
        refine aw_vret S rfl d_Rf_note_36 ?_ (by decide) (by decide)
        rw [nI_clamp (by omega)]
        refine ⟨rfl, ⟨h1, ?_, ?_, aw_up_s _ _ _⟩, fun q hq => by rw [aw_up_n (by omega), aw_up_n (by omega)]⟩
        · rw [aw_up_n (by omega), aw_up_n (by omega)]; exact h2
        · rw [aw_up_n (by omega), aw_up_s]
set_option maxRecDepth 100000 in
set_option maxHeartbeats 4000000 in
theorem ev_Rf_beginOf {l : Launch} {E : aw_E} {g : AH} {n : Nat} {a r : Nat} {fb fe : Nat → Int32} (w : Nat) (hF : IsRf E g a r fb fe) (hw : w < 5) : EV l E 0 0 0 y_Rf_beginOf c_Rf_beginOf 2 (some .int) g n [.ref a, .int (nI w)] (aw_Pi (fun r_ g2 n2 => r_ = fb w ∧ g2 = g ∧ n2 = n)) := by
  obtain ⟨h1, h2, h3, h4⟩ := id hF
  refine aw_enter "AddressTerms$Reference" [some (.ref a), some (.int (nI w))] (by decide) rfl rfl (Nat.le_of_ble_eq_true rfl) ?_
  intro p e s m args below meth c S hnm
  refine aw_iload_1 S d_Rf_beginOf_0 ?_
  refine aw_if_lt S 22 d_Rf_beginOf_1 (by decide) (fun c1 => ?_) (fun c1 => ?_)
  · exact absurd c1 (nI_pos (by omega))
  · refine aw_iload_1 S d_Rf_beginOf_4 ?_
    refine aw_aload_0 S d_Rf_beginOf_5 ?_
    refine aw_getf S I_Rf 0 h2 n_fl_Rf_9 d_Rf_beginOf_6 rfl (by decide) ?_
    refine aw_alen S 1 rfl h3 d_Rf_beginOf_9 ?_
    refine aw_icmp_ge S 22 d_Rf_beginOf_10 (by decide) (fun c10 => ?_) (fun c10 => ?_)
    · exact absurd c10 (nI_ge hw (by omega))
    · refine aw_aload_0 S d_Rf_beginOf_13 ?_
      refine aw_getf S I_Rf 0 h2 n_fl_Rf_9 d_Rf_beginOf_14 rfl (by decide) ?_
      refine aw_iload_1 S d_Rf_beginOf_17 ?_
      refine aw_iald S h3 d_Rf_beginOf_18 (vp_in_nI hw (by omega)) ?_
      refine aw_goto S 23 d_Rf_beginOf_19 (by decide) ?_
      refine aw_iret S rfl d_Rf_beginOf_23 ?_ (by decide) (by decide)
      rw [nI_clamp (by omega)]
      exact ⟨rfl, rfl, rfl⟩
set_option maxRecDepth 100000 in
set_option maxHeartbeats 4000000 in
theorem ev_Rf_endOf {l : Launch} {E : aw_E} {g : AH} {n : Nat} {a r : Nat} {fb fe : Nat → Int32} (w : Nat) (hF : IsRf E g a r fb fe) (hw : w < 5) : EV l E 0 0 0 y_Rf_endOf c_Rf_endOf 2 (some .int) g n [.ref a, .int (nI w)] (aw_Pi (fun r_ g2 n2 => r_ = fe w ∧ g2 = g ∧ n2 = n)) := by
  obtain ⟨h1, h2, h3, h4⟩ := id hF
  refine aw_enter "AddressTerms$Reference" [some (.ref a), some (.int (nI w))] (by decide) rfl rfl (Nat.le_of_ble_eq_true rfl) ?_
  intro p e s m args below meth c S hnm
  refine aw_iload_1 S d_Rf_endOf_0 ?_
  refine aw_if_lt S 22 d_Rf_endOf_1 (by decide) (fun c1 => ?_) (fun c1 => ?_)
  · exact absurd c1 (nI_pos (by omega))
  · refine aw_iload_1 S d_Rf_endOf_4 ?_
    refine aw_aload_0 S d_Rf_endOf_5 ?_
    refine aw_getf S I_Rf 1 h2 n_fl_Rf_15 d_Rf_endOf_6 rfl (by decide) ?_
    refine aw_alen S 1 rfl h4 d_Rf_endOf_9 ?_
    refine aw_icmp_ge S 22 d_Rf_endOf_10 (by decide) (fun c10 => ?_) (fun c10 => ?_)
    · exact absurd c10 (nI_ge hw (by omega))
    · refine aw_aload_0 S d_Rf_endOf_13 ?_
      refine aw_getf S I_Rf 1 h2 n_fl_Rf_15 d_Rf_endOf_14 rfl (by decide) ?_
      refine aw_iload_1 S d_Rf_endOf_17 ?_
      refine aw_iald S h4 d_Rf_endOf_18 (vp_in_nI hw (by omega)) ?_
      refine aw_goto S 23 d_Rf_endOf_19 (by decide) ?_
      refine aw_iret S rfl d_Rf_endOf_23 ?_ (by decide) (by decide)
      rw [nI_clamp (by omega)]
      exact ⟨rfl, rfl, rfl⟩
