/-! the class: printing -/
def sp_pb (b : Int32) : List Int32 := if b = 9 then [92, 116] else if b = 10 then [92, 110] else if b = 13 then [92, 114] else if b = 34 then [92, 34] else if b = 92 then [92, 92] else [b]
def sp_ptl (v : Tmv) : List Int32 := if v.2.1 = 1 then 64 :: v.2.2.2.2 else if v.2.1 = 2 then [94, 94, 119, 104, 111, 108, 101] else if v.2.1 = 3 then [94, 94, 116, 114, 117, 116, 104] else if v.2.1 = 4 then [94, 94, 111, 116, 104, 101, 114] else []
def sp_plit (v : Tmv) : List Int32 := 34 :: (v.2.2.2.1.flatMap sp_pb ++ (34 :: sp_ptl v))
def pA (ts : List Tmv) (ps : List Pfv) (k : Nat) : List Int32 := (tmG ts (pfG ps k).2).2.2.2.1
def sp_bc (ts : List Tmv) (ps : List Pfv) (xs : List Int32) (b : Option Nat) (k : Nat) : Bool := sp_tells (pA ts ps k) xs && (match b with
  | none => true
  | some j => sp_better (pA ts ps k).length (pfG ps k).1 (pA ts ps j).length (pfG ps j).1)
def sp_bst (ts : List Tmv) (ps : List Pfv) (xs : List Int32) : Nat → Option Nat
  | 0 => none
  | k + 1 => if sp_bc ts ps xs (sp_bst ts ps xs k) k = true then some k else sp_bst ts ps xs k
def sp_padr (ts : List Tmv) (ps : List Pfv) (xs : List Int32) (sh : Bool) : List Int32 := match (if sh then sp_bst ts ps xs ps.length else none) with
  | none => 60 :: (xs ++ [62])
  | some j => (pfG ps j).1 ++ (58 :: xs.drop (pA ts ps j).length)
def sp_prt (ts : List Tmv) (ps : List Pfv) (i : Nat) (sh : Bool) : List Int32 := if (tmG ts i).1 = 1 then [95, 58, 98] ++ sp_num (tmG ts i).2.2.1.toNatClampNeg else if (tmG ts i).1 = 2 then sp_plit (tmG ts i) else sp_padr ts ps (tmG ts i).2.2.2.1 sh
theorem bst_lt {ts : List Tmv} {ps : List Pfv} {xs : List Int32} : ∀ {k j : Nat}, sp_bst ts ps xs k = some j → j < k := by
  intro k
  induction k with
  | zero => intro j h; cases h
  | succ k ih =>
    intro j h
    rw [sp_bst] at h
    split at h
    · cases h; omega
    · have := ih h; omega
theorem pb_len (b : Int32) : 1 ≤ (sp_pb b).length ∧ (sp_pb b).length ≤ 2 := by
  unfold sp_pb
  repeat' split
  all_goals simp
theorem fm_len (xs : List Int32) : (xs.flatMap sp_pb).length ≤ 2 * xs.length := by
  induction xs with
  | nil => simp
  | cons b r ih =>
    rw [List.flatMap_cons, List.length_append, List.length_cons]
    have := pb_len b
    omega
set_option maxRecDepth 100000 in
set_option maxHeartbeats 4000000 in
theorem ev_At_printTextByte {l : Launch} {E : aw_E} {g : AH} {n : Nat} {o L K : Nat} {tb pb : Nat → Nat} {tape pr : List Int32} {bt : Int32} (b : Int32) (hA : AtF E g o tb pb tape L bt K pr) (hb : sp_bt b) (hl : pr.length + 2 ≤ 108) : EV l E 5 0 0 y_At_printTextByte c_At_printTextByte 2 none g n [.ref o, .int b] (aw_Pv (fun g2 n2 => n2 = n ∧ AtF E g2 o tb pb tape L bt K (pr ++ sp_pb b) ∧ aw_fr g g2 (o + 3) 2)) := by
  obtain ⟨a1, a2, a3, a4, ⟨a5, ft, a6, a7⟩, ⟨a8, fp, a9, a10⟩, a11, a12, a13, a14, a15⟩ := id hA
  have hpr := a4.room
  refine aw_enter "AddressTerms" [some (.ref o), some (.int b)] (by decide) rfl rfl (Nat.le_of_ble_eq_true rfl) ?_
  intro p e s m args below meth c S hnm
  refine aw_iload_1 S d_At_printTextByte_0 ?_
  by_cases h9 : b = 9
  · rw [h9]
    refine aw_lookup (off := 51) S 52 d_At_printTextByte_1 (by decide) (by decide) (by decide) ?_
    refine aw_aload_0 S d_At_printTextByte_52 ?_
    refine aw_getf S I_At 1 a2 n_fl_At_18 d_At_printTextByte_53 rfl (by decide) ?_
    refine aw_ldcS S 6 (by decide) rfl d_At_printTextByte_56 ?_
    refine aw_callVv0 S (ev_Rw_addText 6 a4 (by decide) (by show pr.length + 2 ≤ 108; omega)) mb_Rw_addText mi_Rw_addText n_ml_At_144 d_At_printTextByte_58 I_Rw a4.cell rfl rfl rfl (fun g2_ n2_ h_ => ?_)
    obtain ⟨rfl, h1, hF1⟩ := h_
    refine aw_goto S 120 d_At_printTextByte_61 (by decide) ?_
    refine aw_vret S rfl d_At_printTextByte_120 ?_ (by decide) (by decide)
    have e : sp_pb b = st_b 6 := by rw [sp_pb, if_pos h9]; rfl
    rw [show sp_pb 9 = st_b 6 from rfl]
    exact ⟨rfl, hA.printed hF1 h1, hF1⟩
  · skip
    by_cases h10 : b = 10
    · rw [h10]
      refine aw_lookup (off := 63) S 64 d_At_printTextByte_1 (by decide) (by decide) (by decide) ?_
      refine aw_aload_0 S d_At_printTextByte_64 ?_
      refine aw_getf S I_At 1 a2 n_fl_At_18 d_At_printTextByte_65 rfl (by decide) ?_
      refine aw_ldcS S 7 (by decide) rfl d_At_printTextByte_68 ?_
      refine aw_callVv0 S (ev_Rw_addText 7 a4 (by decide) (by show pr.length + 2 ≤ 108; omega)) mb_Rw_addText mi_Rw_addText n_ml_At_144 d_At_printTextByte_70 I_Rw a4.cell rfl rfl rfl (fun g2_ n2_ h_ => ?_)
      obtain ⟨rfl, h1, hF1⟩ := h_
      refine aw_goto S 120 d_At_printTextByte_73 (by decide) ?_
      refine aw_vret S rfl d_At_printTextByte_120 ?_ (by decide) (by decide)
      have e : sp_pb b = st_b 7 := by rw [sp_pb, if_neg h9, if_pos h10]; rfl
      rw [show sp_pb 10 = st_b 7 from rfl]
      exact ⟨rfl, hA.printed hF1 h1, hF1⟩
    · skip
      by_cases h13 : b = 13
      · rw [h13]
        refine aw_lookup (off := 75) S 76 d_At_printTextByte_1 (by decide) (by decide) (by decide) ?_
        refine aw_aload_0 S d_At_printTextByte_76 ?_
        refine aw_getf S I_At 1 a2 n_fl_At_18 d_At_printTextByte_77 rfl (by decide) ?_
        refine aw_ldcS S 8 (by decide) rfl d_At_printTextByte_80 ?_
        refine aw_callVv0 S (ev_Rw_addText 8 a4 (by decide) (by show pr.length + 2 ≤ 108; omega)) mb_Rw_addText mi_Rw_addText n_ml_At_144 d_At_printTextByte_82 I_Rw a4.cell rfl rfl rfl (fun g2_ n2_ h_ => ?_)
        obtain ⟨rfl, h1, hF1⟩ := h_
        refine aw_goto S 120 d_At_printTextByte_85 (by decide) ?_
        refine aw_vret S rfl d_At_printTextByte_120 ?_ (by decide) (by decide)
        have e : sp_pb b = st_b 8 := by rw [sp_pb, if_neg h9, if_neg h10, if_pos h13]; rfl
        rw [show sp_pb 13 = st_b 8 from rfl]
        exact ⟨rfl, hA.printed hF1 h1, hF1⟩
      · skip
        by_cases h34 : b = 34
        · rw [h34]
          refine aw_lookup (off := 87) S 88 d_At_printTextByte_1 (by decide) (by decide) (by decide) ?_
          refine aw_aload_0 S d_At_printTextByte_88 ?_
          refine aw_getf S I_At 1 a2 n_fl_At_18 d_At_printTextByte_89 rfl (by decide) ?_
          refine aw_ldcS S 9 (by decide) rfl d_At_printTextByte_92 ?_
          refine aw_callVv0 S (ev_Rw_addText 9 a4 (by decide) (by show pr.length + 2 ≤ 108; omega)) mb_Rw_addText mi_Rw_addText n_ml_At_144 d_At_printTextByte_94 I_Rw a4.cell rfl rfl rfl (fun g2_ n2_ h_ => ?_)
          obtain ⟨rfl, h1, hF1⟩ := h_
          refine aw_goto S 120 d_At_printTextByte_97 (by decide) ?_
          refine aw_vret S rfl d_At_printTextByte_120 ?_ (by decide) (by decide)
          have e : sp_pb b = st_b 9 := by rw [sp_pb, if_neg h9, if_neg h10, if_neg h13, if_pos h34]; rfl
          rw [show sp_pb 34 = st_b 9 from rfl]
          exact ⟨rfl, hA.printed hF1 h1, hF1⟩
        · skip
          by_cases h92 : b = 92
          · rw [h92]
            refine aw_lookup (off := 99) S 100 d_At_printTextByte_1 (by decide) (by decide) (by decide) ?_
            refine aw_aload_0 S d_At_printTextByte_100 ?_
            refine aw_getf S I_At 1 a2 n_fl_At_18 d_At_printTextByte_101 rfl (by decide) ?_
            refine aw_ldcS S 10 (by decide) rfl d_At_printTextByte_104 ?_
            refine aw_callVv0 S (ev_Rw_addText 10 a4 (by decide) (by show pr.length + 2 ≤ 108; omega)) mb_Rw_addText mi_Rw_addText n_ml_At_144 d_At_printTextByte_106 I_Rw a4.cell rfl rfl rfl (fun g2_ n2_ h_ => ?_)
            obtain ⟨rfl, h1, hF1⟩ := h_
            refine aw_goto S 120 d_At_printTextByte_109 (by decide) ?_
            refine aw_vret S rfl d_At_printTextByte_120 ?_ (by decide) (by decide)
            have e : sp_pb b = st_b 10 := by rw [sp_pb, if_neg h9, if_neg h10, if_neg h13, if_neg h34, if_pos h92]; rfl
            rw [show sp_pb 92 = st_b 10 from rfl]
            exact ⟨rfl, hA.printed hF1 h1, hF1⟩
          · skip
            refine aw_lookup S 112 d_At_printTextByte_1 (by decide) (show Op.lookupswitch.offset [(9, 51), (10, 63), (13, 75), (34, 87), (92, 99)] 111 _ = 111 by rw [lv_osw (k := 9) h9 (by decide), lv_osw (k := 10) h10 (by decide), lv_osw (k := 13) h13 (by decide), lv_osw (k := 34) h34 (by decide), lv_osw (k := 92) h92 (by decide)]; rfl) (by decide) ?_
            refine aw_aload_0 S d_At_printTextByte_112 ?_
            refine aw_getf S I_At 1 a2 n_fl_At_18 d_At_printTextByte_113 rfl (by decide) ?_
            refine aw_iload_1 S d_At_printTextByte_116 ?_
            refine aw_callVv0 S (ev_Rw_add b a4 hb (by omega)) mb_Rw_add mi_Rw_add n_ml_At_79 d_At_printTextByte_117 I_Rw a4.cell rfl rfl rfl (fun g2_ n2_ h_ => ?_)
            obtain ⟨rfl, h1, hF1⟩ := h_
            refine aw_vret S rfl d_At_printTextByte_120 ?_ (by decide) (by decide)
            have e : sp_pb b = [b] := by rw [sp_pb, if_neg h9, if_neg h10, if_neg h13, if_neg h34, if_neg h92]
            rw [e]
            exact ⟨rfl, hA.printed hF1 h1, hF1⟩
set_option maxRecDepth 100000 in
set_option maxHeartbeats 4000000 in
theorem ev_At_printLiteral {l : Launch} {E : aw_E} {g : AH} {n : Nat} {o L K : Nat} {tb pb : Nat → Nat} {tape pr : List Int32} {bt : Int32} {t N1 N2 : Nat} {v : Tmv} (hA : AtF E g o tb pb tape L bt K pr) (hV : IsTv E g t N1 N2 v) (hdt : t + 5 ≤ o + 3 ∨ o + 3 + 2 ≤ t) (h40 : v.2.2.2.1.length ≤ 40) (h16 : v.2.2.2.2.length ≤ 16) (hp0 : pr = []) : EV l E 6 0 0 y_At_printLiteral c_At_printLiteral 3 none g n [.ref o, .ref t] (aw_Pv (fun g2 n2 => n2 = n ∧ AtF E g2 o tb pb tape L bt K (pr ++ sp_plit v) ∧ aw_fr g g2 (o + 3) 2)) := by
  obtain ⟨a1, a2, a3, a4, ⟨a5, ft, a6, a7⟩, ⟨a8, fp, a9, a10⟩, a11, a12, a13, a14, a15⟩ := id hA
  have hpr := a4.room
  have hp0l : pr.length = 0 := by rw [hp0]; rfl
  clear hp0
  refine aw_enter "AddressTerms" [some (.ref o), some (.ref t), none] (by decide) rfl rfl (Nat.le_of_ble_eq_true rfl) ?_
  intro p e s m args below meth c S hnm
  have hxl := hV.2.2.1.room
  have hgl := hV.2.2.2.room
  have hfm := fm_len v.2.2.2.1
  have s49 : ∀ (g1 : AH) (k : Int32), AtF E g1 o tb pb tape L bt K (pr ++ (34 :: (v.2.2.2.1.flatMap sp_pb ++ [34]))) → IsTv E g1 t N1 N2 v → aw_fr g g1 (o + 3) 2 → AW p l e { frames := 6, cells := 0, slots := 0, locals := 40 * 6 } s m args below meth c E 3 (aw_Z E (aw_Pv (fun g2 n2 => n2 = n ∧ AtF E g2 o tb pb tape L bt K (pr ++ sp_plit v) ∧ aw_fr g g2 (o + 3) 2)) below args s 0 0) 0 0 g1 n 49 [some (.ref o), some (.ref t), some (.int k)] [] := by
    intro g1 k hA1 hV1 hF
    have hp1 := hA1.2.2.2.1.room
    rw [List.length_append, List.length_cons, List.length_append, List.length_singleton] at hp1
    refine aw_aload_1 S d_At_printLiteral_49 ?_
    refine aw_getf S I_Tm 3 hV1.2.1 n_fl_At_131 d_At_printLiteral_50 rfl (by decide) ?_
    by_cases w1 : v.2.1 = 1
    · rw [w1]
      refine aw_tableIn S 84 d_At_printLiteral_53 (by decide) (by decide) rfl (by decide) ?_
      refine aw_aload_0 S d_At_printLiteral_84 ?_
      refine aw_getf S I_At 1 hA1.2.1 n_fl_At_18 d_At_printLiteral_85 rfl (by decide) ?_
      refine aw_bipush (v := 64) S d_At_printLiteral_88 (by decide) ?_
      refine aw_callVv0 S (ev_Rw_add 64 hA1.2.2.2.1 (by unfold sp_bt; decide) (by rw [List.length_append, List.length_cons, List.length_append, List.length_singleton]; omega)) mb_Rw_add mi_Rw_add n_ml_At_79 d_At_printLiteral_90 I_Rw hA1.2.2.2.1.cell rfl rfl rfl (fun g2_ n2_ h_ => ?_)
      obtain ⟨rfl, h1, hF1⟩ := h_
      have hA2 := hA1.printed hF1 h1
      have hV2 := hV1.fr hF1 hdt
      refine aw_aload_0 S d_At_printLiteral_93 ?_
      refine aw_getf S I_At 1 hA2.2.1 n_fl_At_18 d_At_printLiteral_94 rfl (by decide) ?_
      refine aw_aload_1 S d_At_printLiteral_97 ?_
      refine aw_getf S I_Tm 1 hV2.2.1 n_fl_At_188 d_At_printLiteral_98 rfl (by decide) ?_
      refine aw_iconst (v := 0) S d_At_printLiteral_101 (by decide) ?_
      refine aw_topi nI_0.symm ?_
      refine aw_aload_1 S d_At_printLiteral_102 ?_
      refine aw_getf S I_Tm 1 hV2.2.1 n_fl_At_188 d_At_printLiteral_103 rfl (by decide) ?_
      refine aw_callViR S (ev_Rw_size hV2.2.2.2) mb_Rw_size mi_Rw_size n_ml_At_75 d_At_printLiteral_106 I_Rw hV2.2.2.2.cell rfl rfl rfl ?_
      refine aw_callVv0 S (ev_Rw_addRange 0 v.2.2.2.2.length h1 hV2.2.2.2 (by omega) (by omega) (by omega) (by rw [List.length_append]; rw [List.length_append, List.length_cons, List.length_append, List.length_singleton]; rw [List.length_singleton, List.take_length, List.drop_zero]; omega)) mb_Rw_addRange mi_Rw_addRange n_ml_At_173 d_At_printLiteral_109 I_Rw h1.cell rfl rfl rfl (fun g2_ n2_ h_ => ?_)
      obtain ⟨rfl, h3, hF3⟩ := h_
      rw [List.take_length, List.drop_zero] at h3
      refine aw_goto S 151 d_At_printLiteral_112 (by decide) ?_
      refine aw_vret S rfl d_At_printLiteral_151 ?_ (by decide) (by decide)
      have e : sp_ptl v = 64 :: v.2.2.2.2 := by rw [sp_ptl, if_pos w1]
      have e2 : pr ++ sp_plit v = (pr ++ (34 :: (v.2.2.2.1.flatMap sp_pb ++ [34]))) ++ [64] ++ v.2.2.2.2 := by rw [sp_plit, e]; simp
      rw [e2]
      exact ⟨rfl, hA2.printed hF3 h3, (hF.tr hF1).tr hF3⟩
    · skip
      by_cases w2 : v.2.1 = 2
      · rw [w2]
        refine aw_tableIn S 115 d_At_printLiteral_53 (by decide) (by decide) rfl (by decide) ?_
        refine aw_aload_0 S d_At_printLiteral_115 ?_
        refine aw_getf S I_At 1 hA1.2.1 n_fl_At_18 d_At_printLiteral_116 rfl (by decide) ?_
        refine aw_ldcS S 11 (by decide) rfl d_At_printLiteral_119 ?_
        refine aw_callVv0 S (ev_Rw_addText 11 hA1.2.2.2.1 (by decide) (by rw [List.length_append, List.length_cons, List.length_append, List.length_singleton]; show _ + 7 ≤ 108; omega)) mb_Rw_addText mi_Rw_addText n_ml_At_144 d_At_printLiteral_121 I_Rw hA1.2.2.2.1.cell rfl rfl rfl (fun g2_ n2_ h_ => ?_)
        obtain ⟨rfl, h1, hF1⟩ := h_
        refine aw_goto S 151 d_At_printLiteral_124 (by decide) ?_
        refine aw_vret S rfl d_At_printLiteral_151 ?_ (by decide) (by decide)
        have e : sp_ptl v = st_b 11 := by rw [sp_ptl, if_neg w1, if_pos w2]; rfl
        have e2 : pr ++ sp_plit v = (pr ++ (34 :: (v.2.2.2.1.flatMap sp_pb ++ [34]))) ++ st_b 11 := by rw [sp_plit, e]; simp
        rw [e2]
        exact ⟨rfl, hA1.printed hF1 h1, hF.tr hF1⟩
      · skip
        by_cases w3 : v.2.1 = 3
        · rw [w3]
          refine aw_tableIn S 127 d_At_printLiteral_53 (by decide) (by decide) rfl (by decide) ?_
          refine aw_aload_0 S d_At_printLiteral_127 ?_
          refine aw_getf S I_At 1 hA1.2.1 n_fl_At_18 d_At_printLiteral_128 rfl (by decide) ?_
          refine aw_ldcS S 12 (by decide) rfl d_At_printLiteral_131 ?_
          refine aw_callVv0 S (ev_Rw_addText 12 hA1.2.2.2.1 (by decide) (by rw [List.length_append, List.length_cons, List.length_append, List.length_singleton]; show _ + 7 ≤ 108; omega)) mb_Rw_addText mi_Rw_addText n_ml_At_144 d_At_printLiteral_133 I_Rw hA1.2.2.2.1.cell rfl rfl rfl (fun g2_ n2_ h_ => ?_)
          obtain ⟨rfl, h1, hF1⟩ := h_
          refine aw_goto S 151 d_At_printLiteral_136 (by decide) ?_
          refine aw_vret S rfl d_At_printLiteral_151 ?_ (by decide) (by decide)
          have e : sp_ptl v = st_b 12 := by rw [sp_ptl, if_neg w1, if_neg w2, if_pos w3]; rfl
          have e2 : pr ++ sp_plit v = (pr ++ (34 :: (v.2.2.2.1.flatMap sp_pb ++ [34]))) ++ st_b 12 := by rw [sp_plit, e]; simp
          rw [e2]
          exact ⟨rfl, hA1.printed hF1 h1, hF.tr hF1⟩
        · skip
          by_cases w4 : v.2.1 = 4
          · rw [w4]
            refine aw_tableIn S 139 d_At_printLiteral_53 (by decide) (by decide) rfl (by decide) ?_
            refine aw_aload_0 S d_At_printLiteral_139 ?_
            refine aw_getf S I_At 1 hA1.2.1 n_fl_At_18 d_At_printLiteral_140 rfl (by decide) ?_
            refine aw_ldcS S 13 (by decide) rfl d_At_printLiteral_143 ?_
            refine aw_callVv0 S (ev_Rw_addText 13 hA1.2.2.2.1 (by decide) (by rw [List.length_append, List.length_cons, List.length_append, List.length_singleton]; show _ + 7 ≤ 108; omega)) mb_Rw_addText mi_Rw_addText n_ml_At_144 d_At_printLiteral_145 I_Rw hA1.2.2.2.1.cell rfl rfl rfl (fun g2_ n2_ h_ => ?_)
            obtain ⟨rfl, h1, hF1⟩ := h_
            refine aw_goto S 151 d_At_printLiteral_148 (by decide) ?_
            refine aw_vret S rfl d_At_printLiteral_151 ?_ (by decide) (by decide)
            have e : sp_ptl v = st_b 13 := by rw [sp_ptl, if_neg w1, if_neg w2, if_neg w3, if_pos w4]; rfl
            have e2 : pr ++ sp_plit v = (pr ++ (34 :: (v.2.2.2.1.flatMap sp_pb ++ [34]))) ++ st_b 13 := by rw [sp_plit, e]; simp
            rw [e2]
            exact ⟨rfl, hA1.printed hF1 h1, hF.tr hF1⟩
          · skip
            have hout : v.2.1.toInt < 1 ∨ 4 < v.2.1.toInt := by
              rcases Int.lt_or_le v.2.1.toInt 1 with h | h
              · exact Or.inl h
              · rcases Int.lt_or_le 4 v.2.1.toInt with h' | h'
                · exact Or.inr h'
                · exfalso
                  have e1 : ¬ v.2.1.toInt = 1 := fun z => w1 (Int32.toInt_inj.mp z)
                  have e2 : ¬ v.2.1.toInt = 2 := fun z => w2 (Int32.toInt_inj.mp z)
                  have e3 : ¬ v.2.1.toInt = 3 := fun z => w3 (Int32.toInt_inj.mp z)
                  have e4 : ¬ v.2.1.toInt = 4 := fun z => w4 (Int32.toInt_inj.mp z)
                  omega
            refine aw_tableOut S 151 d_At_printLiteral_53 hout (by decide) ?_
            refine aw_vret S rfl d_At_printLiteral_151 ?_ (by decide) (by decide)
            have e : sp_ptl v = [] := by rw [sp_ptl, if_neg w1, if_neg w2, if_neg w3, if_neg w4]
            have e2 : pr ++ sp_plit v = (pr ++ (34 :: (v.2.2.2.1.flatMap sp_pb ++ [34]))) := by rw [sp_plit, e]
            rw [e2]
            exact ⟨rfl, hA1, hF⟩
  have loop : ∀ (j k : Nat) (g1 : AH) (zs : List Int32), k + j = v.2.2.2.1.length → zs ++ (v.2.2.2.1.drop k).flatMap sp_pb = pr ++ (34 :: v.2.2.2.1.flatMap sp_pb) → AtF E g1 o tb pb tape L bt K zs → IsTv E g1 t N1 N2 v → aw_fr g g1 (o + 3) 2 → AW p l e { frames := 6, cells := 0, slots := 0, locals := 40 * 6 } s m args below meth c E 3 (aw_Z E (aw_Pv (fun g2 n2 => n2 = n ∧ AtF E g2 o tb pb tape L bt K (pr ++ sp_plit v) ∧ aw_fr g g2 (o + 3) 2)) below args s 0 0) 0 0 g1 n 11 [some (.ref o), some (.ref t), some (.int (nI k))] [] := by
    intro j
    induction j with
    | zero =>
      intro k g1 zs hk hz hA1 hV1 hF
      rw [List.drop_eq_nil_iff.mpr (show v.2.2.2.1.length ≤ k by omega), List.flatMap_nil, List.append_nil] at hz
      subst hz
      refine aw_iload_2 S d_At_printLiteral_11 ?_
      refine aw_aload_1 S d_At_printLiteral_12 ?_
      refine aw_getf S I_Tm 0 hV1.2.1 n_fl_At_109 d_At_printLiteral_13 rfl (by decide) ?_
      refine aw_callViR S (ev_Rw_size hV1.2.2.1) mb_Rw_size mi_Rw_size n_ml_At_75 d_At_printLiteral_16 I_Rw hV1.2.2.1.cell rfl rfl rfl ?_
      refine aw_icmp_ge S 40 d_At_printLiteral_19 (by decide) (fun c19 => ?_) (fun c19 => ?_)
      · refine aw_aload_0 S d_At_printLiteral_40 ?_
        refine aw_getf S I_At 1 hA1.2.1 n_fl_At_18 d_At_printLiteral_41 rfl (by decide) ?_
        refine aw_bipush (v := 34) S d_At_printLiteral_44 (by decide) ?_
        refine aw_callVv0 S (ev_Rw_add 34 hA1.2.2.2.1 (by unfold sp_bt; decide) (by rw [List.length_append, List.length_cons]; omega)) mb_Rw_add mi_Rw_add n_ml_At_79 d_At_printLiteral_46 I_Rw hA1.2.2.2.1.cell rfl rfl rfl (fun g2_ n2_ h_ => ?_)
        obtain ⟨rfl, h1, hF1⟩ := h_
        exact s49 _ _ (hA1.printed hF1 (by simpa using h1)) (hV1.fr hF1 hdt) (hF.tr hF1)
      · exact absurd (nI_le (by omega) (by omega)) c19
    | succ j ih =>
      intro k g1 zs hk hz hA1 hV1 hF
      have hkx : k < v.2.2.2.1.length := by omega
      have hb := hV1.2.2.1.bts _ (getD_mem hkx)
      rw [drop_cons hkx, List.flatMap_cons] at hz
      have hlz := congrArg List.length hz
      rw [List.length_append, List.length_append, List.length_append, List.length_cons] at hlz
      have hpl := pb_len (v.2.2.2.1.getD k (-1))
      refine aw_iload_2 S d_At_printLiteral_11 ?_
      refine aw_aload_1 S d_At_printLiteral_12 ?_
      refine aw_getf S I_Tm 0 hV1.2.1 n_fl_At_109 d_At_printLiteral_13 rfl (by decide) ?_
      refine aw_callViR S (ev_Rw_size hV1.2.2.1) mb_Rw_size mi_Rw_size n_ml_At_75 d_At_printLiteral_16 I_Rw hV1.2.2.1.cell rfl rfl rfl ?_
      refine aw_icmp_ge S 40 d_At_printLiteral_19 (by decide) (fun c19 => ?_) (fun c19 => ?_)
      · exact absurd c19 (nI_ge (by omega) (by omega))
      · refine aw_aload_0 S d_At_printLiteral_22 ?_
        refine aw_aload_1 S d_At_printLiteral_23 ?_
        refine aw_getf S I_Tm 0 hV1.2.1 n_fl_At_109 d_At_printLiteral_24 rfl (by decide) ?_
        refine aw_iload_2 S d_At_printLiteral_27 ?_
        refine aw_callViR S (ev_Rw_byteAt (nI k) hV1.2.2.1) mb_Rw_byteAt mi_Rw_byteAt n_ml_At_162 d_At_printLiteral_28 I_Rw hV1.2.2.1.cell rfl rfl rfl ?_
        rw [sp_at_nI (by omega)]
        refine aw_callVv0 S (ev_At_printTextByte (v.2.2.2.1.getD k (-1)) hA1 hb (by omega)) mb_At_printTextByte mi_At_printTextByte n_ml_At_227 d_At_printLiteral_31 I_At hA1.2.1 rfl rfl rfl (fun g2_ n2_ h_ => ?_)
        obtain ⟨rfl, h1, hF1⟩ := h_
        refine aw_iinc_2 (v := nI (k + 1)) S d_At_printLiteral_34 (inc_1 k) ?_
        refine aw_goto S 11 d_At_printLiteral_37 (by decide) ?_
        exact ih (k + 1) _ _ (by omega) (by rw [← hz, List.append_assoc]) h1 (hV1.fr hF1 hdt) (hF.tr hF1)
  refine aw_aload_0 S d_At_printLiteral_0 ?_
  refine aw_getf S I_At 1 a2 n_fl_At_18 d_At_printLiteral_1 rfl (by decide) ?_
  refine aw_bipush (v := 34) S d_At_printLiteral_4 (by decide) ?_
  refine aw_callVv0 S (ev_Rw_add 34 a4 (by unfold sp_bt; decide) (by omega)) mb_Rw_add mi_Rw_add n_ml_At_79 d_At_printLiteral_6 I_Rw a4.cell rfl rfl rfl (fun g2_ n2_ h_ => ?_)
  obtain ⟨rfl, h1, hF1⟩ := h_
  refine aw_iconst (v := 0) S d_At_printLiteral_9 (by decide) ?_
  refine aw_topi nI_0.symm ?_
  refine aw_istore_2 S d_At_printLiteral_10 ?_
  exact loop v.2.2.2.1.length 0 _ _ (by omega) (by rw [List.drop_zero]; simp) (hA.printed hF1 h1) (hV.fr hF1 hdt) hF1
set_option maxRecDepth 100000 in
set_option maxHeartbeats 4000000 in
theorem ev_At_bestPrefix {l : Launch} {E : aw_E} {g : AH} {n : Nat} {o : Nat} {tb pb : Nat → Nat} {tape pr : List Int32} {ts : List Tmv} {bt : Int32} {ps : List (List Int32 × Nat)} {w0 N : Nat} {xs : List Int32} (hA : AtF E g o tb pb tape ts.length bt ps.length pr) (hT : AtT E g n o tb pb ts ps) (hR : IsRow E g w0 N xs) : EV l E 4 0 0 y_At_bestPrefix c_At_bestPrefix 5 (some (.object "AddressTerms$Prefix")) g n [.ref o, .ref w0] (aw_Pq (fun r_ g2 n2 => r_ = (sp_bst ts ps xs ps.length).map pb ∧ g2 = g ∧ n2 = n)) := by
  obtain ⟨a1, a2, a3, a4, ⟨a5, ft, a6, a7⟩, ⟨a8, fp, a9, a10⟩, a11, a12, a13, a14, a15⟩ := id hA
  have ht0 := hT.1
  refine aw_enter "AddressTerms" [some (.ref o), some (.ref w0), none, none, none] (by decide) rfl rfl (Nat.le_of_ble_eq_true rfl) ?_
  intro p e s m args below meth c S hnm
  have loop : ∀ (j k : Nat) (x : Option Value), k + j = ps.length → AW p l e { frames := 4, cells := 0, slots := 0, locals := 40 * 4 } s m args below meth c E 5 (aw_Z E (aw_Pq (fun r_ g2 n2 => r_ = (sp_bst ts ps xs ps.length).map pb ∧ g2 = g ∧ n2 = n)) below args s 0 0) 0 0 g n 4 [some (.ref o), some (.ref w0), some (va_rf ((sp_bst ts ps xs k).map pb)), some (.int (nI k)), x] [] := by
    intro j
    induction j with
    | zero =>
      intro k x hk
      refine aw_iload_3 S d_At_bestPrefix_4 ?_
      refine aw_aload_0 S d_At_bestPrefix_5 ?_
      refine aw_getf S I_At 9 a2 n_fl_At_61 d_At_bestPrefix_6 rfl (by decide) ?_
      refine aw_icmp_ge S 55 d_At_bestPrefix_9 (by decide) (fun c9 => ?_) (fun c9 => ?_)
      · refine aw_aloadQ_2 S d_At_bestPrefix_55 ?_
        refine aw_aret (v := (sp_bst ts ps xs k).map pb) S _ rfl d_At_bestPrefix_56 ?_ (by decide) (by decide)
        exact ⟨by rw [show k = ps.length by omega], rfl, rfl⟩
      · exact absurd (nI_le (by omega) (by omega)) c9
    | succ j ih =>
      intro k x hk
      have hkx : k < ps.length := by omega
      obtain ⟨u1, u2, u3, u4, u5, M, u6⟩ := hT.2.2.1 k hkx
      obtain ⟨v1, v2, V1, V2, v3⟩ := hT.2.1 _ u3
      refine aw_iload_3 S d_At_bestPrefix_4 ?_
      refine aw_aload_0 S d_At_bestPrefix_5 ?_
      refine aw_getf S I_At 9 a2 n_fl_At_61 d_At_bestPrefix_6 rfl (by decide) ?_
      refine aw_icmp_ge S 55 d_At_bestPrefix_9 (by decide) (fun c9 => ?_) (fun c9 => ?_)
      · exact absurd c9 (nI_ge (by omega) (by omega))
      · refine aw_aload_0 S d_At_bestPrefix_12 ?_
        refine aw_iload_3 S d_At_bestPrefix_13 ?_
        refine aw_callVqR S (ev_At_prefixAt (nI k) hA) mb_At_prefixAt mi_At_prefixAt n_ml_At_198 d_At_bestPrefix_14 I_At a2 rfl rfl rfl ?_
        rw [ixOf_nI (by omega) hkx]
        refine aw_astoreQ_4 S d_At_bestPrefix_17 ?_
        refine aw_aloadQ_4 S d_At_bestPrefix_19 ?_
        refine aw_ifnull S 49 d_At_bestPrefix_21 (by decide) (fun c21 => ?_) (fun y21 c21 => ?_)
        · cases c21
        · refine aw_aload_4 S d_At_bestPrefix_24 ?_
          refine aw_aload_1 S d_At_bestPrefix_26 ?_
          refine aw_callViR S (ev_Px_tells u5 hR v3.2.2.1) mb_Px_tells mi_Px_tells n_ml_At_220 d_At_bestPrefix_27 I_Px u5.2 rfl rfl rfl ?_
          refine aw_if_eq S 49 d_At_bestPrefix_30 (by decide) (fun c30 => ?_) (fun c30 => ?_)
          · refine aw_iinc_3 (v := nI (k + 1)) S d_At_bestPrefix_49 (inc_1 k) ?_ (hp := by first | rfl | exact aw_nlq _)
            refine aw_goto S 4 d_At_bestPrefix_52 (by decide) ?_
            have e : (sp_bst ts ps xs k).map pb = (sp_bst ts ps xs (k + 1)).map pb := by rw [sp_bst, if_neg (by unfold sp_bc; rw [show sp_tells (pA ts ps k) xs = false from aw_b_f c30]; simp)]
            rw [e]
            exact ih (k + 1) _ (by omega)
          · refine aw_aloadQ_2 S d_At_bestPrefix_33 ?_
            refine aw_ifnull S 46 d_At_bestPrefix_34 (by decide) (fun c34 => ?_) (fun y34 c34 => ?_)
            · refine aw_aload_4 S d_At_bestPrefix_46 ?_
              refine aw_astore_2 S d_At_bestPrefix_48 ?_
              refine aw_iinc_3 (v := nI (k + 1)) S d_At_bestPrefix_49 (inc_1 k) ?_ (hp := by first | rfl | exact aw_nlq _)
              refine aw_goto S 4 d_At_bestPrefix_52 (by decide) ?_
              have e : some (pb k) = (sp_bst ts ps xs (k + 1)).map pb := by rw [sp_bst, if_pos (by rw [Option.map_eq_none_iff.mp c34]; unfold sp_bc; rw [show sp_tells (pA ts ps k) xs = true from aw_b_t c30]; rfl)]; rfl
              rw [show (Value.ref (pb k)) = va_rf (some (pb k)) from rfl, e]
              exact ih (k + 1) _ (by omega)
            · obtain ⟨jb, hjb, rfl⟩ := Option.map_eq_some_iff.mp c34
              have hjl := bst_lt hjb
              obtain ⟨w1, w2, w3, w4, w5, M2, w6⟩ := hT.2.2.1 jb (by omega)
              obtain ⟨y1, y2, Y1, Y2, y3⟩ := hT.2.1 _ w3
              rw [hjb]
              refine aw_aload_4 S d_At_bestPrefix_37 ?_
              refine aw_aload_2 S d_At_bestPrefix_39 ?_
              refine aw_callViR S (ev_Px_isBetterThan u5 w5 u6 v3.2.2.1 w6 y3.2.2.1) mb_Px_isBetterThan mi_Px_isBetterThan n_ml_At_223 d_At_bestPrefix_40 I_Px u5.2 rfl rfl rfl ?_
              refine aw_if_eq S 49 d_At_bestPrefix_43 (by decide) (fun c43 => ?_) (fun c43 => ?_)
              · refine aw_iinc_3 (v := nI (k + 1)) S d_At_bestPrefix_49 (inc_1 k) ?_ (hp := by first | rfl | exact aw_nlq _)
                refine aw_goto S 4 d_At_bestPrefix_52 (by decide) ?_
                have e : some (pb jb) = (sp_bst ts ps xs (k + 1)).map pb := by rw [sp_bst, if_neg (by rw [hjb]; unfold sp_bc; dsimp only; rw [show sp_better (pA ts ps k).length (pfG ps k).1 (pA ts ps jb).length (pfG ps jb).1 = false from aw_b_f c43]; simp), hjb]; rfl
                rw [show (Value.ref (pb jb)) = va_rf (some (pb jb)) from rfl, e]
                exact ih (k + 1) _ (by omega)
              · refine aw_aload_4 S d_At_bestPrefix_46 ?_
                refine aw_astore_2 S d_At_bestPrefix_48 ?_
                refine aw_iinc_3 (v := nI (k + 1)) S d_At_bestPrefix_49 (inc_1 k) ?_ (hp := by first | rfl | exact aw_nlq _)
                refine aw_goto S 4 d_At_bestPrefix_52 (by decide) ?_
                have e : some (pb k) = (sp_bst ts ps xs (k + 1)).map pb := by rw [sp_bst, if_pos (by rw [hjb]; unfold sp_bc; rw [show sp_tells (pA ts ps k) xs = true from aw_b_t c30]; exact aw_b_t c43)]; rfl
                rw [show (Value.ref (pb k)) = va_rf (some (pb k)) from rfl, e]
                exact ih (k + 1) _ (by omega)
  refine aw_null S d_At_bestPrefix_0 ?_
  refine aw_astoreN_2 S d_At_bestPrefix_1 ?_
  refine aw_iconst (v := 0) S d_At_bestPrefix_2 (by decide) ?_
  refine aw_topi nI_0.symm ?_
  refine aw_istore_3 S d_At_bestPrefix_3 ?_
  exact loop ps.length 0 none (by omega)
