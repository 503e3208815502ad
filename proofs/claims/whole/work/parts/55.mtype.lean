/-! the reference: type -/
theorem sh_bv (v : BitVec 64) (n : Nat) (hn : n ≤ 56) : (v.sshiftRight n) &&& 255#64 = (v >>> n) &&& 255#64 := by
  apply BitVec.eq_of_getLsbD_eq
  intro i hi
  rw [BitVec.getLsbD_and, BitVec.getLsbD_and]
  by_cases h : i < 8
  · congr 1
    rw [BitVec.getLsbD_sshiftRight, BitVec.getLsbD_ushiftRight]
    simp [show ¬ 64 ≤ i by omega, show n + i < 64 by omega]
  · have : (255#64).getLsbD i = false := by
      rw [BitVec.getLsbD_ofNat, Nat.testBit_lt_two_pow (Nat.lt_of_lt_of_le (show 255 < 2 ^ 8 by decide) (Nat.pow_le_pow_right (by decide) (by omega)))]
      simp
    rw [this, Bool.and_false, Bool.and_false]
theorem mby (v : Int64) (q : Nat) (hq : q < 8) : ((v >>> ((8 * nI q).toInt64 &&& 63)) &&& 255).toInt32 = sp_byte v (nI q) := by
  unfold sp_byte
  congr 1
  apply Int64.toBitVec_inj.mp
  rw [Int64.toBitVec_and, Int64.toBitVec_and, Int64.toBitVec_shiftRight]
  have hs : ∀ q, q < 8 → (((8 * nI q).toInt64 &&& 63).toBitVec.smod 64#64).toNat = 8 * q := by decide +kernel
  have hu : ∀ q, q < 8 → (((8 * nI q).toInt64.toUInt64 &&& Int64.toUInt64 63).toBitVec % 64#64).toNat = 8 * q := by decide +kernel
  show (v.toBitVec.sshiftRight (((8 * nI q).toInt64 &&& 63).toBitVec.smod 64#64).toNat) &&& 255#64 = (v.toUInt64.toBitVec >>> (((8 * nI q).toInt64.toUInt64 &&& Int64.toUInt64 63).toBitVec % 64#64).toNat) &&& 255#64
  rw [hs q hq, hu q hq]
  exact sh_bv _ _ (by omega)
theorem bys_all {w : Int64} : ∀ {N : Nat}, (sp_bys w N).all sp_tape = true ↔ ∀ q, q < N → sp_tape (sp_byte w (nI q)) = true := by
  intro N
  induction N with
  | zero => simp [sp_bys]
  | succ N ih =>
    rw [sp_bys, List.all_cons, Bool.and_eq_true, ih]
    constructor
    · rintro ⟨h1, h2⟩ q hq
      by_cases e : q = N
      · rw [e]; exact h1
      · exact h2 q (by omega)
    · intro h
      exact ⟨h N (by omega), fun q hq => h q (by omega)⟩
theorem bys_len {w : Int64} : ∀ {N : Nat}, (sp_bys w N).length = N := by
  intro N
  induction N with
  | zero => rfl
  | succ N ih => rw [sp_bys, List.length_cons, ih]
theorem in18 {k : Int32} (h : sp_in k 1 8 = true) : ∃ N, N < 9 ∧ k = nI N := by
  unfold sp_in at h
  rw [Bool.and_eq_true] at h
  have h1 : ¬ k < 1 := by simpa using h.1
  have h2 : ¬ 8 < k := by simpa using h.2
  obtain ⟨j, hj, e⟩ := nI_of2 (x := k) (M := 8) (n := 8) (by decide) (fun z => h1 (Int32.lt_trans z (by decide))) (Int32.not_lt.mp h2)
  exact ⟨j, by omega, e⟩
set_option maxRecDepth 100000 in
set_option maxHeartbeats 4000000 in
theorem ev_Md_type {l : Launch} {E : aw_E} {g : AH} {n : Nat} {g0 : AH} {d : Nat} {v : Nat → Int32} {f : Nat → Nat → Int32} {tape : List Int32} {ts : List Tmv} {bt : Int32} {ps : List Pfv} {pr : List Int32} (w : Int64) (k0 : Int32) (hM : mG E g0 d v f g) (hs : mSt v f tape ts bt ps pr) : EV l E 1 0 0 y_Md_type c_Md_type 6 (some .int) g n [.ref d, .long w, .int k0] (aw_Pi (fun r_ g2 n2 => r_ = op_type tape w k0 ∧ n2 = n ∧ mS E g0 d g2 (op_typeT tape w k0) (ts) (bt) (ps) (pr))) := by
  obtain ⟨⟨tl, t0, tL⟩, ⟨nl, n1, nT⟩, b2, ⟨pl, p3, pP⟩, ⟨ql, q6, qL⟩⟩ := id hs
  refine aw_enter "AddressTermsModel" [some (.ref d), some (.long w), none, some (.int k0), none, none] (by decide) rfl rfl (Nat.le_of_ble_eq_true rfl) ?_
  intro p e s m args below meth c S hnm
  have bad : ∀ (x : Option Value), op_tyOK w k0 = false → AW p l e { frames := 1, cells := 0, slots := 0, locals := 40 * 1 } s m args below meth c E 6 (aw_Z E (aw_Pi (fun r_ g2 n2 => r_ = op_type tape w k0 ∧ n2 = n ∧ mS E g0 d g2 (op_typeT tape w k0) (ts) (bt) (ps) (pr))) below args s 0 0) 0 0 g n 50 [some (.ref d), some (.long w), none, some (.int k0), some (.int 0), x] [] := by
    intro x hb
    refine aw_iload_4 S d_Md_type_50 ?_
    refine aw_if_ne S 57 d_Md_type_52 (by decide) (fun c52 => ?_) (fun c52 => ?_)
    · exact absurd rfl c52
    · refine aw_iconst (v := -1) S d_Md_type_55 (by decide) ?_
      refine aw_iret S rfl d_Md_type_56 ?_ (by decide) (by decide)
      exact ⟨by rw [op_type, hb]; rfl, rfl, v, f, hM, by rw [op_typeT, hb]; exact hs⟩
  have bad2 : ∀ (k : Int32), op_tyOK w k0 = false → AW p l e { frames := 1, cells := 0, slots := 0, locals := 40 * 1 } s m args below meth c E 6 (aw_Z E (aw_Pi (fun r_ g2 n2 => r_ = op_type tape w k0 ∧ n2 = n ∧ mS E g0 d g2 (op_typeT tape w k0) (ts) (bt) (ps) (pr))) below args s 0 0) 0 0 g n 12 [some (.ref d), some (.long w), none, some (.int k0), some (.int 0), some (.int k)] [] := by
    intro k hb
    refine aw_iload_5 S d_Md_type_12 ?_
    refine aw_iload_3 S d_Md_type_14 ?_
    refine aw_icmp_ge S 50 d_Md_type_15 (by decide) (fun c15 => ?_) (fun c15 => ?_)
    · exact bad _ hb
    · refine aw_iload_4 S d_Md_type_18 ?_
      refine aw_if_eq S 50 d_Md_type_20 (by decide) (fun c20 => ?_) (fun c20 => ?_)
      · exact bad _ hb
      · exact absurd rfl c20
  have lp2 : ∀ (j N : Nat) (v1 : Nat → Int32) (f1 : Nat → Nat → Int32) (g : AH) (tp : List Int32), k0 = nI N → op_tyOK w k0 = true → N ≤ 8 → tape.length + N ≤ 96 → j ≤ N → tp ++ sp_bys w j = tape ++ sp_bys w N → mSt v1 f1 tp ts bt ps pr → mG E g0 d v1 f1 g → AW p l e { frames := 1, cells := 0, slots := 0, locals := 40 * 1 } s m args below meth c E 6 (aw_Z E (aw_Pi (fun r_ g2 n2 => r_ = op_type tape w k0 ∧ n2 = n ∧ mS E g0 d g2 (op_typeT tape w k0) (ts) (bt) (ps) (pr))) below args s 0 0) 0 0 g n 76 [some (.ref d), some (.long w), none, some (.int (nI N)), some (.int 1), some (.int (nI j - 1))] [] := by
    intro j
    induction j with
    | zero =>
      intro N v1 f1 g tp hN hok hN8 hfit hj hv hs1 hM
      rw [sp_bys, List.append_nil] at hv
      subst hv
      refine aw_iload_5 S d_Md_type_76 ?_
      refine aw_if_lt S 118 d_Md_type_78 (by decide) (fun c78 => ?_) (fun c78 => ?_)
      · refine aw_aload_0 S d_Md_type_118 ?_
        refine aw_getf S I_Md 0 hM.2.1 n_fl_Md_90 d_Md_type_119 rfl (by decide) ?_
        refine aw_topi hs1.1.2.1 ?_
        refine aw_iret S rfl d_Md_type_122 ?_ (by decide) (by decide)
        refine ⟨?_, rfl, v1, f1, hM, ?_⟩
        · rw [op_type, hok, hN, nI_clamp (by omega), if_pos rfl, if_pos hfit, List.length_append, bys_len]
        · rw [op_typeT, hok, hN, nI_clamp (by omega), if_pos rfl, if_pos hfit]; exact hs1
      · exact absurd (show nI 0 - 1 < 0 by decide) c78
    | succ j ih =>
      intro N v1 f1 g tp hN hok hN8 hfit hj hv hs1 hM
      have hl := congrArg List.length hv
      rw [List.length_append, List.length_append, bys_len, bys_len] at hl
      rw [nI_pred]
      refine aw_iload_5 S d_Md_type_76 ?_
      refine aw_if_lt S 118 d_Md_type_78 (by decide) (fun c78 => ?_) (fun c78 => ?_)
      · exact absurd c78 (nI_pos (by omega))
      · refine aw_aload_0 S d_Md_type_81 ?_
        refine aw_getf S I_Md 1 hM.2.1 n_fl_Md_7 d_Md_type_82 rfl (by decide) ?_
        refine aw_aload_0 S d_Md_type_85 ?_
        refine aw_getf S I_Md 0 hM.2.1 n_fl_Md_90 d_Md_type_86 rfl (by decide) ?_
        refine aw_topi hs1.1.2.1 ?_
        refine aw_lload_1 S d_Md_type_89 ?_
        refine aw_bipush (v := 8) S d_Md_type_90 (by decide) ?_
        refine aw_iload_5 S d_Md_type_92 ?_
        refine aw_imul S d_Md_type_94 ?_
        refine aw_lshr S d_Md_type_95 ?_
        refine aw_ldc2 S n_ct_Md_88 d_Md_type_96 ?_
        refine aw_land S d_Md_type_99 ?_
        refine aw_l2i S d_Md_type_100 ?_
        refine aw_topi (mby w (j) (by omega)) ?_
        refine aw_mst S hM 0 (by decide) (show _ < 96 by omega) d_Md_type_101 (fun g_ hM => ?_)
        refine aw_aload_0 S d_Md_type_102 ?_
        refine aw_dup S d_Md_type_103 rfl ?_
        refine aw_getf S I_Md 0 hM.2.1 n_fl_Md_90 d_Md_type_104 rfl (by decide) ?_
        refine aw_topi hs1.1.2.1 ?_
        refine aw_iconst (v := 1) S d_Md_type_107 (by decide) ?_
        refine aw_iadd S d_Md_type_108 ?_
        refine aw_topi (nI_1 _) ?_
        refine aw_mput0 S hM n_fl_Md_90 d_Md_type_109 (fun g_ hM => ?_)
        refine aw_iinc_5 (v := nI j - 1) S d_Md_type_112 (dec_i (nI j)) ?_
        refine aw_goto S 76 d_Md_type_115 (by decide) ?_
        refine ih N _ _ _ (tp ++ [sp_byte w (nI j)]) hN hok hN8 hfit (by omega) (by rw [← hv, sp_bys, List.append_assoc]; rfl) ?_ hM
        obtain ⟨⟨tl, t0, tL⟩, ⟨nl, n1, nT⟩, b2, ⟨pl, p3, pP⟩, ⟨ql, q6, qL⟩⟩ := id hs1
        exact ⟨⟨by rw [List.length_append, List.length_singleton]; omega, by rw [List.length_append]; rfl, tL.snoc0⟩, ⟨nl, n1, nT⟩, b2, ⟨pl, p3, pP⟩, ⟨ql, q6, qL⟩⟩
  have good : ∀ (x : Option Value), op_tyOK w k0 = true → AW p l e { frames := 1, cells := 0, slots := 0, locals := 40 * 1 } s m args below meth c E 6 (aw_Z E (aw_Pi (fun r_ g2 n2 => r_ = op_type tape w k0 ∧ n2 = n ∧ mS E g0 d g2 (op_typeT tape w k0) (ts) (bt) (ps) (pr))) below args s 0 0) 0 0 g n 50 [some (.ref d), some (.long w), none, some (.int k0), some (.int 1), x] [] := by
    intro x hb
    have hin : sp_in k0 1 8 = true := by unfold op_tyOK at hb; exact (Bool.and_eq_true_iff.mp hb).1
    obtain ⟨N, hN8, hN⟩ := in18 hin
    subst hN
    refine aw_iload_4 S d_Md_type_50 ?_
    refine aw_if_ne S 57 d_Md_type_52 (by decide) (fun c52 => ?_) (fun c52 => ?_)
    · refine aw_aload_0 S d_Md_type_57 ?_
      refine aw_getf S I_Md 0 hM.2.1 n_fl_Md_90 d_Md_type_58 rfl (by decide) ?_
      refine aw_topi t0 ?_
      refine aw_iload_3 S d_Md_type_61 ?_
      refine aw_iadd S d_Md_type_62 ?_
      rw [nI_add]
      refine aw_bipush (v := 96) S d_Md_type_63 (by decide) ?_
      refine aw_icmp_le S 71 d_Md_type_65 (by decide) (fun c65 => ?_) (fun c65 => ?_)
      · refine aw_iload_3 S d_Md_type_71 ?_
        refine aw_iconst (v := 1) S d_Md_type_72 (by decide) ?_
        refine aw_isub S d_Md_type_73 ?_
        refine aw_istore_5 S d_Md_type_74 ?_
        exact lp2 N N v f _ tape rfl hb (by omega) ((nI_leI (b := 96) (by omega) (by omega)).mp c65) (Nat.le_refl _) rfl hs hM
      · refine aw_bipush (v := -3) S d_Md_type_68 (by decide) ?_
        refine aw_iret S rfl d_Md_type_70 ?_ (by decide) (by decide)
        have hfit : ¬ tape.length + N ≤ 96 := fun z => c65 (nI_le (b := 96) z (by omega))
        refine ⟨?_, rfl, v, f, hM, ?_⟩
        · rw [op_type, hb, nI_clamp (by omega), if_pos rfl, if_neg hfit]
        · rw [op_typeT, hb, nI_clamp (by omega), if_pos rfl, if_neg hfit]; exact hs
    · exact absurd c52 (by decide)
  have lp : ∀ (j k N : Nat), k0 = nI N → sp_in k0 1 8 = true → N ≤ 8 → k + j = N → (∀ q, q < k → sp_tape (sp_byte w (nI q)) = true) → AW p l e { frames := 1, cells := 0, slots := 0, locals := 40 * 1 } s m args below meth c E 6 (aw_Z E (aw_Pi (fun r_ g2 n2 => r_ = op_type tape w k0 ∧ n2 = n ∧ mS E g0 d g2 (op_typeT tape w k0) (ts) (bt) (ps) (pr))) below args s 0 0) 0 0 g n 12 [some (.ref d), some (.long w), none, some (.int (nI N)), some (.int 1), some (.int (nI k))] [] := by
    intro j
    induction j with
    | zero =>
      intro k N hN hin hN8 hk hq
      refine aw_iload_5 S d_Md_type_12 ?_
      refine aw_iload_3 S d_Md_type_14 ?_
      refine aw_icmp_ge S 50 d_Md_type_15 (by decide) (fun c15 => ?_) (fun c15 => ?_)
      · rw [← hN]
        refine good _ ?_
        rw [op_tyOK, hin, hN, nI_clamp (by omega), Bool.true_and, bys_all]
        exact fun q z => hq q (by omega)
      · exact absurd (nI_le (by omega) (by omega)) c15
    | succ j ih =>
      intro k N hN hin hN8 hk hq
      refine aw_iload_5 S d_Md_type_12 ?_
      refine aw_iload_3 S d_Md_type_14 ?_
      refine aw_icmp_ge S 50 d_Md_type_15 (by decide) (fun c15 => ?_) (fun c15 => ?_)
      · exact absurd c15 (nI_ge (by omega) (by omega))
      · refine aw_iload_4 S d_Md_type_18 ?_
        refine aw_if_eq S 50 d_Md_type_20 (by decide) (fun c20 => ?_) (fun c20 => ?_)
        · exact absurd c20 (by decide)
        · refine aw_lload_1 S d_Md_type_23 ?_
          refine aw_bipush (v := 8) S d_Md_type_24 (by decide) ?_
          refine aw_iload_5 S d_Md_type_26 ?_
          refine aw_imul S d_Md_type_28 ?_
          refine aw_lshr S d_Md_type_29 ?_
          refine aw_ldc2 S n_ct_Md_88 d_Md_type_30 ?_
          refine aw_land S d_Md_type_33 ?_
          refine aw_l2i S d_Md_type_34 ?_
          refine aw_topi (mby w (k) (by omega)) ?_
          refine aw_bipush (v := 32) S d_Md_type_35 (by decide) ?_
          refine aw_bipush (v := 126) S d_Md_type_37 (by decide) ?_
          refine aw_callSiR S (ev_Md_is (sp_byte w (nI k)) 32 126) mb_Md_is n_st_Md_is n_ml_Md_77 d_Md_type_39 rfl rfl ?_
          refine aw_istore_4 S d_Md_type_42 ?_
          refine aw_iinc_5 (v := nI (k + 1)) S d_Md_type_44 ((nI_succ (k)).symm) ?_
          refine aw_goto S 12 d_Md_type_47 (by decide) ?_
          cases hc : sp_in (sp_byte w (nI k)) 32 126 with
          | true => exact ih (k + 1) N hN hin hN8 (by omega) (fun q z => by rcases Nat.lt_or_ge q k with h | h; exact hq q h; rw [show q = k by omega]; exact hc)
          | false =>
            rw [← hN]
            refine bad2 _ ?_
            rw [op_tyOK, hin, Bool.true_and, Bool.eq_false_iff, Ne, hN, nI_clamp (by omega), bys_all]
            intro z
            have := z k (by omega)
            rw [sp_tape, hc] at this
            cases this
  refine aw_iload_3 S d_Md_type_0 ?_
  refine aw_iconst (v := 1) S d_Md_type_1 (by decide) ?_
  refine aw_bipush (v := 8) S d_Md_type_2 (by decide) ?_
  refine aw_callSiR S (ev_Md_is k0 1 8) mb_Md_is n_st_Md_is n_ml_Md_77 d_Md_type_4 rfl rfl ?_
  refine aw_istore_4 S d_Md_type_7 ?_
  refine aw_iconst (v := 0) S d_Md_type_9 (by decide) ?_
  refine aw_topi nI_0.symm ?_
  refine aw_istore_5 S d_Md_type_10 ?_
  cases hc : sp_in k0 1 8 with
  | true =>
    obtain ⟨N, hN8, hN⟩ := in18 hc
    have := lp N 0 N hN hc (by omega) (Nat.zero_add _) (fun q z => absurd z (Nat.not_lt_zero q))
    rw [← hN] at this
    exact this
  | false => exact bad2 _ (by rw [op_tyOK, hc]; rfl)
