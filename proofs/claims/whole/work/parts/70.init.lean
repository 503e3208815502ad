/-! NEW OBJECTS -/
section AWCallN
variable {p : Program} {l : Launch} {e : Env} {R : Room} {s : State} {m : MethodId} {args : Array Value} {below : List Frame} {meth : Method} {c : Code} {E : aw_E} {cc : ByteArray} {nL : Nat} {own : String} {ret : Option FieldType} {Q : State → Prop} {mc ms : Nat} {g : AH} {n pc : Nat} {lv : List (Option Value)} {st st0 : List Value}
theorem aw_callIN (S : aw_C p s m args meth c E cc nL own ret) {y : MethodName} {host : String} {cc2 : ByteArray} {nL2 d2 mc2 ms2 a k : Nat} {As : List Value} {Post : Option Value → AH → Nat → Prop} (hM : EV l E d2 mc2 ms2 y cc2 nL2 none g n (.ref a :: As) Post) (hB : aw_MB y cc2 nL2 none k) (hI : Cond.instanceMethod y ∈ aw_tw) (hy1 : y.name = "<init>") {i : Nat} (hw : va_Nw (.methodLinkNest own i y host) s) (hd : decode cc pc = .ok (.invokespecial i, 3))
    (hk : As.length = k) (hst : st0 = As.reverse ++ .ref a :: st) (hf : d2 + 1 ≤ R.frames ∧ 8 + (nL2 + 11) + 40 * d2 ≤ R.locals) (hroom : (st.map fun v => v.category).sum ≤ 8) (hc : mc + mc2 ≤ R.cells ∧ ms + ms2 ≤ R.slots)
    (kk : ∀ (r : Option Value) (g2 : AH) (n2 : Nat), Post r g2 n2 → AW p l e R s m args below meth c E nL Q (mc + mc2) (ms + ms2) g2 n2 (pc + 3) lv (r.toList ++ st)) : AW p l e R s m args below meth c E nL Q mc ms g n pc lv st0 := by
  intro H locs ls hR hS hl
  have hts := S.1.2.2.2.2
  have cw := va_cnB (R := R) (s := s) (args := args) (own := own) (host := host) (index := i) (maxL := nL2) (mc := mc2) (ms := ms2) (y := y) (bytes := cc2) (ret := none) (rm := { frames := d2, cells := mc2, slots := ms2, locals := 40 * d2 }) k hts (aw_good hB.1) rfl rfl rfl hw (hts _ hB.2.1) hB.2.2 hf
  exact aw_back hS hl (va_runIN (g := F0 m pc ls st0) (rest := st) (As := As) S.1 hM ⟨cw, hy1, hts _ hI⟩ ⟨aw_blind, aw_ready S hR hS _⟩ rfl hk hl.1 hst (lv_room hroom) hd hc) kk
theorem aw_callINvA (S : aw_C p s m args meth c E cc nL own ret) {y : MethodName} {host : String} {cc2 : ByteArray} {nL2 d2 a k : Nat} {As : List Value} {mc2 ms2 : Nat} (mc3 ms3 : Nat) {P : AH → Nat → Prop} (hM : EV l E d2 mc2 ms2 y cc2 nL2 none g n (.ref a :: As) (aw_Pv P)) (hB : aw_MB y cc2 nL2 none k) (hI : Cond.instanceMethod y ∈ aw_tw) (hy1 : y.name = "<init>") {i : Nat} (hw : va_Nw (.methodLinkNest own i y host) s) (hd : decode cc pc = .ok (.invokespecial i, 3)) (hk : As.length = k) (hst : st0 = As.reverse ++ .ref a :: st) (kk : ∀ (g2 : AH) (n2 : Nat), P g2 n2 → AW p l e R s m args below meth c E nL Q mc3 ms3 g2 n2 (pc + 3) lv st) (hm : mc + mc2 ≤ mc3 ∧ ms + ms2 ≤ ms3 ∧ mc3 ≤ R.cells ∧ ms3 ≤ R.slots := by decide) (hf : d2 + 1 ≤ R.frames ∧ 8 + (nL2 + 11) + 40 * d2 ≤ R.locals := by decide) (hroom : (st.map fun v => v.category).sum ≤ 8 := by exact Nat.le_of_ble_eq_true rfl) : AW p l e R s m args below meth c E nL Q mc ms g n pc lv st0 :=
  aw_callIN S hM hB hI hy1 hw hd hk hst hf hroom ⟨Nat.le_trans hm.1 hm.2.2.1, Nat.le_trans hm.2.1 hm.2.2.2⟩ (fun r g2 n2 h => by obtain ⟨rfl, h⟩ := h; exact aw_wide hm.1 hm.2.1 (kk g2 n2 h))
end AWCallN
set_option maxRecDepth 100000 in
set_option maxHeartbeats 4000000 in
theorem ev_At_init {l : Launch} {E : aw_E} {g : AH} {n : Nat} {o : Nat} (tb pb : Nat → Nat) (hb0 : E.2.2.1 ≤ o) (ha : g o = some (.inr (5, [.null, .null, .null, .null, .null, .null, .null, .null, .int 0, .int 0, .int 0]))) (hn : n = o + 1) : EV l E 3 24 7114 y_At_init c_At_init 1 none g n [.ref o] (aw_Pv (fun g2 n2 => n2 = o + 25 ∧ AtF E g2 o tb pb [] 0 (-1) 0 [] ∧ ∀ x, x < o → g2 x = g x)) := by
  subst hn
  refine aw_enter "AddressTerms" [some (.ref o)] (by decide) rfl rfl (Nat.le_of_ble_eq_true rfl) ?_
  intro p e s m args below meth c S hnm
  refine aw_aload_0 S d_At_init_0 ?_
  refine aw_objInit S n_ml_At_3 n_im_Jo_init n_co_Jo_init d_At_init_1 (by decide) (Nat.le_of_ble_eq_true rfl) ?_
  refine aw_aload_0 S d_At_init_4 ?_
  refine aw_new S I_Rw n_cl_At_9 n_ib_Rw n_ini_Rw d_At_init_5 [.null, .int 0] (fun j hj => by rcases (show j = 0 ∨ j = 1 by omega) with rfl | rfl <;> rfl) (by decide) (by decide) ?_
  refine aw_dup S d_At_init_8 rfl ?_
  refine aw_bipush (v := 96) S d_At_init_9 (by decide) ?_
  refine aw_topi (show (96 : Int32) = nI 96 from rfl) ?_
  refine aw_callIvA S 2 1002 (ev_Rw_init (a := o + 1) 96 (by omega) (aw_up_s _ _ _) rfl (by decide)) mb_Rw_init n_im_Rw_init rfl n_ml_At_11 d_At_init_11 rfl rfl (fun g2_ n2_ h_ => ?_)
  obtain ⟨hn2, r1, hF1⟩ := h_
  have hn2 : n2_ = o + 3 := hn2
  subst hn2
  refine aw_putF (fs2 := [.ref (o + 1), .null, .null, .null, .null, .null, .null, .null, .int 0, .int 0, .int 0]) S I_At 0 ((hF1 o (by omega)).trans (by rw [aw_up_n (by omega)]; exact ha)) n_fl_At_14 d_At_init_14 rfl hb0 rfl hnm rfl rfl rfl (by decide) (Nat.le_of_ble_eq_true rfl) ?_
  generalize hG1 : aw_up g2_ o (.inr (5, [.ref (o + 1), .null, .null, .null, .null, .null, .null, .null, .int 0, .int 0, .int 0])) = G1
  have c1_ : G1 o = some (.inr (5, [.ref (o + 1), .null, .null, .null, .null, .null, .null, .null, .int 0, .int 0, .int 0])) := by rw [← hG1, aw_up_s]
  have kq1 : ∀ x, x ≠ o → G1 x = g2_ x := fun x h => by rw [← hG1, aw_up_n h]
  have kp1 : ∀ x, x ≠ o → x < o + 1 → G1 x = g x := fun x h1 h2 => by rw [kq1 x h1, hF1 x (by omega), aw_up_n (by omega)]
  have r1 := r1.keep (kq1 _ (by omega)) (kq1 _ (by omega))
  clear hF1 kq1
  clear hG1
  refine aw_aload_0 S d_At_init_17 ?_
  refine aw_new S I_Rw n_cl_At_9 n_ib_Rw n_ini_Rw d_At_init_18 [.null, .int 0] (fun j hj => by rcases (show j = 0 ∨ j = 1 by omega) with rfl | rfl <;> rfl) (by decide) (by decide) ?_
  refine aw_dup S d_At_init_21 rfl ?_
  refine aw_bipush (v := 108) S d_At_init_22 (by decide) ?_
  refine aw_topi (show (108 : Int32) = nI 108 from rfl) ?_
  refine aw_callIvA S 4 2004 (ev_Rw_init (a := o + 3) 108 (by omega) (aw_up_s _ _ _) rfl (by decide)) mb_Rw_init n_im_Rw_init rfl n_ml_At_11 d_At_init_24 rfl rfl (fun g2_ n2_ h_ => ?_)
  obtain ⟨hn2, r2, hF2⟩ := h_
  have hn2 : n2_ = o + 5 := hn2
  subst hn2
  refine aw_putF (fs2 := [.ref (o + 1), .ref (o + 3), .null, .null, .null, .null, .null, .null, .int 0, .int 0, .int 0]) S I_At 1 ((hF2 o (by omega)).trans (by rw [aw_up_n (by omega)]; exact c1_)) n_fl_At_18 d_At_init_27 rfl hb0 rfl hnm rfl rfl rfl (by decide) (Nat.le_of_ble_eq_true rfl) ?_
  generalize hG2 : aw_up g2_ o (.inr (5, [.ref (o + 1), .ref (o + 3), .null, .null, .null, .null, .null, .null, .int 0, .int 0, .int 0])) = G2
  have c2_ : G2 o = some (.inr (5, [.ref (o + 1), .ref (o + 3), .null, .null, .null, .null, .null, .null, .int 0, .int 0, .int 0])) := by rw [← hG2, aw_up_s]
  have kq2 : ∀ x, x ≠ o → G2 x = g2_ x := fun x h => by rw [← hG2, aw_up_n h]
  have kp2 : ∀ x, x ≠ o → x < o + 3 → G2 x = G1 x := fun x h1 h2 => by rw [kq2 x h1, hF2 x (by omega), aw_up_n (by omega)]
  have r2 := r2.keep (kq2 _ (by omega)) (kq2 _ (by omega))
  clear hF2 kq2
  clear hG2
  refine aw_aload_0 S d_At_init_30 ?_
  refine aw_bipush (v := 60) S d_At_init_31 (by decide) ?_
  refine aw_topi (show (60 : Int32) = nI 60 from rfl) ?_
  refine aw_anew S 2 rfl 60 n_cl_At_21 S.2.2.1.2.2.2.1 d_At_init_33 rfl (by decide) (by decide) (by decide) ?_
  refine aw_putF (fs2 := [.ref (o + 1), .ref (o + 3), .ref (o + 5), .null, .null, .null, .null, .null, .int 0, .int 0, .int 0]) S I_At 2 (by rw [aw_up_n (by omega)]; exact c2_) n_fl_At_23 d_At_init_36 rfl hb0 rfl hnm rfl rfl rfl (by decide) (Nat.le_of_ble_eq_true rfl) ?_
  generalize hG3 : aw_up (aw_up G2 (o + 5) (.inl (E.2.1 2, 60, .inr (.inr (.inr (.inr (fun _ => none))))))) o (.inr (5, [.ref (o + 1), .ref (o + 3), .ref (o + 5), .null, .null, .null, .null, .null, .int 0, .int 0, .int 0])) = G3
  have c3_ : G3 o = some (.inr (5, [.ref (o + 1), .ref (o + 3), .ref (o + 5), .null, .null, .null, .null, .null, .int 0, .int 0, .int 0])) := by rw [← hG3, aw_up_s]
  have kp3 : ∀ x, x ≠ o → x < o + 5 → G3 x = G2 x := fun x h1 h2 => by rw [← hG3, aw_up_n h1, aw_up_n (by omega)]
  have r3 : G3 (o + 5) = some (.inl (E.2.1 2, 60, .inr (.inr (.inr (.inr (fun _ => none)))))) := by rw [← hG3, aw_up_n (by omega), aw_up_s]
  clear hG3
  refine aw_aload_0 S d_At_init_39 ?_
  refine aw_bipush (v := 8) S d_At_init_40 (by decide) ?_
  refine aw_topi (show (8 : Int32) = nI 8 from rfl) ?_
  refine aw_anew S 3 rfl 8 n_cl_At_27 S.2.2.1.2.2.2.2.1 d_At_init_42 rfl (by decide) (by decide) (by decide) ?_
  refine aw_putF (fs2 := [.ref (o + 1), .ref (o + 3), .ref (o + 5), .ref (o + 6), .null, .null, .null, .null, .int 0, .int 0, .int 0]) S I_At 3 (by rw [aw_up_n (by omega)]; exact c3_) n_fl_At_29 d_At_init_45 rfl hb0 rfl hnm rfl rfl rfl (by decide) (Nat.le_of_ble_eq_true rfl) ?_
  generalize hG4 : aw_up (aw_up G3 (o + 6) (.inl (E.2.1 3, 8, .inr (.inr (.inr (.inr (fun _ => none))))))) o (.inr (5, [.ref (o + 1), .ref (o + 3), .ref (o + 5), .ref (o + 6), .null, .null, .null, .null, .int 0, .int 0, .int 0])) = G4
  have c4_ : G4 o = some (.inr (5, [.ref (o + 1), .ref (o + 3), .ref (o + 5), .ref (o + 6), .null, .null, .null, .null, .int 0, .int 0, .int 0])) := by rw [← hG4, aw_up_s]
  have kp4 : ∀ x, x ≠ o → x < o + 6 → G4 x = G3 x := fun x h1 h2 => by rw [← hG4, aw_up_n h1, aw_up_n (by omega)]
  have r4 : G4 (o + 6) = some (.inl (E.2.1 3, 8, .inr (.inr (.inr (.inr (fun _ => none)))))) := by rw [← hG4, aw_up_n (by omega), aw_up_s]
  clear hG4
  refine aw_aload_0 S d_At_init_48 ?_
  refine aw_new S I_Tm n_cl_At_21 n_ib_Tm n_ini_Tm d_At_init_49 [.null, .null, .int 0, .int 0, .int 0] (fun j hj => by rcases (show j = 0 ∨ j = 1 ∨ j = 2 ∨ j = 3 ∨ j = 4 by omega) with rfl | rfl | rfl | rfl | rfl <;> rfl) (by decide) (by decide) ?_
  refine aw_dup S d_At_init_52 rfl ?_
  refine aw_sipush (v := 197) S d_At_init_53 (by decide) ?_
  refine aw_topi (show (197 : Int32) = nI 197 from rfl) ?_
  refine aw_bipush (v := 16) S d_At_init_56 (by decide) ?_
  refine aw_topi (show (16 : Int32) = nI 16 from rfl) ?_
  refine aw_callIvA S 11 4081 (ev_Tm_init (a := o + 7) 197 16 (by omega) (aw_up_s _ _ _) rfl (by decide) (by decide)) mb_Tm_init n_im_Tm_init rfl n_ml_At_33 d_At_init_58 rfl rfl (fun g2_ n2_ h_ => ?_)
  obtain ⟨hn2, r5, hF5⟩ := h_
  have hn2 : n2_ = o + 12 := hn2
  subst hn2
  refine aw_putF (fs2 := [.ref (o + 1), .ref (o + 3), .ref (o + 5), .ref (o + 6), .ref (o + 7), .null, .null, .null, .int 0, .int 0, .int 0]) S I_At 4 ((hF5 o (by omega)).trans (by rw [aw_up_n (by omega)]; exact c4_)) n_fl_At_36 d_At_init_61 rfl hb0 rfl hnm rfl rfl rfl (by decide) (Nat.le_of_ble_eq_true rfl) ?_
  generalize hG5 : aw_up g2_ o (.inr (5, [.ref (o + 1), .ref (o + 3), .ref (o + 5), .ref (o + 6), .ref (o + 7), .null, .null, .null, .int 0, .int 0, .int 0])) = G5
  have c5_ : G5 o = some (.inr (5, [.ref (o + 1), .ref (o + 3), .ref (o + 5), .ref (o + 6), .ref (o + 7), .null, .null, .null, .int 0, .int 0, .int 0])) := by rw [← hG5, aw_up_s]
  have kq5 : ∀ x, x ≠ o → G5 x = g2_ x := fun x h => by rw [← hG5, aw_up_n h]
  have kp5 : ∀ x, x ≠ o → x < o + 7 → G5 x = G4 x := fun x h1 h2 => by rw [kq5 x h1, hF5 x (by omega), aw_up_n (by omega)]
  have r5 : IsTv E G5 (o + 7) 197 16 (1, 0, 0, [], []) := IsTv.keep (v := (1, 0, 0, [], [])) r5 (fun x h1 h2 => kq5 x (by omega))
  clear hF5 kq5
  clear hG5
  refine aw_aload_0 S d_At_init_64 ?_
  refine aw_new S I_Rf n_cl_At_40 n_ib_Rf n_ini_Rf d_At_init_65 [.null, .null, .null] (fun j hj => by rcases (show j = 0 ∨ j = 1 ∨ j = 2 by omega) with rfl | rfl | rfl <;> rfl) (by decide) (by decide) ?_
  refine aw_dup S d_At_init_68 rfl ?_
  refine aw_callINvA S 16 5096 (ev_Rf_init (a := o + 12) (by omega) (aw_up_s _ _ _) rfl) mb_Rf_init n_im_Rf_init rfl (S.2.2.1.2.2.1 _ (List.mem_of_getElem? (i := 0) rfl)) d_At_init_69 rfl rfl (fun g2_ n2_ h_ => ?_)
  obtain ⟨hn2, r6, hF6⟩ := h_
  have hn2 : n2_ = o + 17 := hn2
  subst hn2
  refine aw_putF (fs2 := [.ref (o + 1), .ref (o + 3), .ref (o + 5), .ref (o + 6), .ref (o + 7), .ref (o + 12), .null, .null, .int 0, .int 0, .int 0]) S I_At 5 ((hF6 o (by omega)).trans (by rw [aw_up_n (by omega)]; exact c5_)) n_fl_At_43 d_At_init_72 rfl hb0 rfl hnm rfl rfl rfl (by decide) (Nat.le_of_ble_eq_true rfl) ?_
  generalize hG6 : aw_up g2_ o (.inr (5, [.ref (o + 1), .ref (o + 3), .ref (o + 5), .ref (o + 6), .ref (o + 7), .ref (o + 12), .null, .null, .int 0, .int 0, .int 0])) = G6
  have c6_ : G6 o = some (.inr (5, [.ref (o + 1), .ref (o + 3), .ref (o + 5), .ref (o + 6), .ref (o + 7), .ref (o + 12), .null, .null, .int 0, .int 0, .int 0])) := by rw [← hG6, aw_up_s]
  have kq6 : ∀ x, x ≠ o → G6 x = g2_ x := fun x h => by rw [← hG6, aw_up_n h]
  have kp6 : ∀ x, x ≠ o → x < o + 12 → G6 x = G5 x := fun x h1 h2 => by rw [kq6 x h1, hF6 x (by omega), aw_up_n (by omega)]
  obtain ⟨fb6, fe6, y1, y2, y3, y4⟩ := r6
  have r6 : IsRf E G6 (o + 12) (o + 12 + 3) fb6 fe6 := ⟨y1, (kq6 _ (by omega)).trans y2, (kq6 _ (by omega)).trans y3, (kq6 _ (by omega)).trans y4⟩
  clear hF6 kq6
  clear hG6
  refine aw_aload_0 S d_At_init_75 ?_
  refine aw_new S I_Rf n_cl_At_40 n_ib_Rf n_ini_Rf d_At_init_76 [.null, .null, .null] (fun j hj => by rcases (show j = 0 ∨ j = 1 ∨ j = 2 by omega) with rfl | rfl | rfl <;> rfl) (by decide) (by decide) ?_
  refine aw_dup S d_At_init_79 rfl ?_
  refine aw_callINvA S 21 6111 (ev_Rf_init (a := o + 17) (by omega) (aw_up_s _ _ _) rfl) mb_Rf_init n_im_Rf_init rfl (S.2.2.1.2.2.1 _ (List.mem_of_getElem? (i := 0) rfl)) d_At_init_80 rfl rfl (fun g2_ n2_ h_ => ?_)
  obtain ⟨hn2, r7, hF7⟩ := h_
  have hn2 : n2_ = o + 22 := hn2
  subst hn2
  refine aw_putF (fs2 := [.ref (o + 1), .ref (o + 3), .ref (o + 5), .ref (o + 6), .ref (o + 7), .ref (o + 12), .ref (o + 17), .null, .int 0, .int 0, .int 0]) S I_At 6 ((hF7 o (by omega)).trans (by rw [aw_up_n (by omega)]; exact c6_)) n_fl_At_47 d_At_init_83 rfl hb0 rfl hnm rfl rfl rfl (by decide) (Nat.le_of_ble_eq_true rfl) ?_
  generalize hG7 : aw_up g2_ o (.inr (5, [.ref (o + 1), .ref (o + 3), .ref (o + 5), .ref (o + 6), .ref (o + 7), .ref (o + 12), .ref (o + 17), .null, .int 0, .int 0, .int 0])) = G7
  have c7_ : G7 o = some (.inr (5, [.ref (o + 1), .ref (o + 3), .ref (o + 5), .ref (o + 6), .ref (o + 7), .ref (o + 12), .ref (o + 17), .null, .int 0, .int 0, .int 0])) := by rw [← hG7, aw_up_s]
  have kq7 : ∀ x, x ≠ o → G7 x = g2_ x := fun x h => by rw [← hG7, aw_up_n h]
  have kp7 : ∀ x, x ≠ o → x < o + 17 → G7 x = G6 x := fun x h1 h2 => by rw [kq7 x h1, hF7 x (by omega), aw_up_n (by omega)]
  obtain ⟨fb7, fe7, y1, y2, y3, y4⟩ := r7
  have r7 : IsRf E G7 (o + 17) (o + 17 + 3) fb7 fe7 := ⟨y1, (kq7 _ (by omega)).trans y2, (kq7 _ (by omega)).trans y3, (kq7 _ (by omega)).trans y4⟩
  clear hF7 kq7
  clear hG7
  refine aw_aload_0 S d_At_init_86 ?_
  refine aw_new S I_Rs n_cl_At_50 n_ib_Rs n_ini_Rs d_At_init_87 [.null] (fun j hj => by have : j = 0 := (by omega); subst this; rfl) (by decide) (by decide) ?_
  refine aw_dup S d_At_init_90 rfl ?_
  refine aw_callINvA S 24 7114 (ev_Rs_init (a := o + 22) (by omega) (aw_up_s _ _ _) rfl) mb_Rs_init n_im_Rs_init rfl (S.2.2.1.2.2.1 _ (List.mem_of_getElem? (i := 1) rfl)) d_At_init_91 rfl rfl (fun g2_ n2_ h_ => ?_)
  obtain ⟨hn2, r8, r8b, hF8⟩ := h_
  have hn2 : n2_ = o + 25 := hn2
  subst hn2
  refine aw_putF (fs2 := [.ref (o + 1), .ref (o + 3), .ref (o + 5), .ref (o + 6), .ref (o + 7), .ref (o + 12), .ref (o + 17), .ref (o + 22), .int 0, .int 0, .int 0]) S I_At 7 ((hF8 o (by omega)).trans (by rw [aw_up_n (by omega)]; exact c7_)) n_fl_At_53 d_At_init_94 rfl hb0 rfl hnm rfl rfl rfl (by decide) (Nat.le_of_ble_eq_true rfl) ?_
  generalize hG8 : aw_up g2_ o (.inr (5, [.ref (o + 1), .ref (o + 3), .ref (o + 5), .ref (o + 6), .ref (o + 7), .ref (o + 12), .ref (o + 17), .ref (o + 22), .int 0, .int 0, .int 0])) = G8
  have c8_ : G8 o = some (.inr (5, [.ref (o + 1), .ref (o + 3), .ref (o + 5), .ref (o + 6), .ref (o + 7), .ref (o + 12), .ref (o + 17), .ref (o + 22), .int 0, .int 0, .int 0])) := by rw [← hG8, aw_up_s]
  have kq8 : ∀ x, x ≠ o → G8 x = g2_ x := fun x h => by rw [← hG8, aw_up_n h]
  have kp8 : ∀ x, x ≠ o → x < o + 22 → G8 x = G7 x := fun x h1 h2 => by rw [kq8 x h1, hF8 x (by omega), aw_up_n (by omega)]
  have r8 := (kq8 _ (by omega)).trans r8
  have r8b := r8b.keep (kq8 _ (by omega)) (kq8 _ (by omega))
  clear hF8 kq8
  clear hG8
  refine aw_aload_0 S d_At_init_97 ?_
  refine aw_iconst (v := 0) S d_At_init_98 (by decide) ?_
  refine aw_putf (fs2 := [.ref (o + 1), .ref (o + 3), .ref (o + 5), .ref (o + 6), .ref (o + 7), .ref (o + 12), .ref (o + 17), .ref (o + 22), .int 0, .int 0, .int 0]) S I_At 8 c8_ n_fl_At_57 d_At_init_99 rfl hb0 rfl rfl rfl (by decide) (Nat.le_of_ble_eq_true rfl) ?_
  refine aw_aload_0 S d_At_init_102 ?_
  refine aw_iconst (v := 0) S d_At_init_103 (by decide) ?_
  refine aw_putf (fs2 := [.ref (o + 1), .ref (o + 3), .ref (o + 5), .ref (o + 6), .ref (o + 7), .ref (o + 12), .ref (o + 17), .ref (o + 22), .int 0, .int 0, .int 0]) S I_At 9 (aw_up_s _ _ _) n_fl_At_61 d_At_init_104 rfl hb0 rfl rfl rfl (by decide) (Nat.le_of_ble_eq_true rfl) ?_
  refine aw_aload_0 S d_At_init_107 ?_
  refine aw_iconst (v := -1) S d_At_init_108 (by decide) ?_
  refine aw_putf (fs2 := [.ref (o + 1), .ref (o + 3), .ref (o + 5), .ref (o + 6), .ref (o + 7), .ref (o + 12), .ref (o + 17), .ref (o + 22), .int 0, .int 0, .int (-1)]) S I_At 10 (aw_up_s _ _ _) n_fl_At_64 d_At_init_109 rfl hb0 rfl rfl rfl (by decide) (Nat.le_of_ble_eq_true rfl) ?_
  refine aw_vret S rfl d_At_init_112 ?_ (by decide) (by decide)
  generalize hG9 : aw_up (aw_up (aw_up G8 o (.inr (5, [.ref (o + 1), .ref (o + 3), .ref (o + 5), .ref (o + 6), .ref (o + 7), .ref (o + 12), .ref (o + 17), .ref (o + 22), .int 0, .int 0, .int 0]))) o (.inr (5, [.ref (o + 1), .ref (o + 3), .ref (o + 5), .ref (o + 6), .ref (o + 7), .ref (o + 12), .ref (o + 17), .ref (o + 22), .int 0, .int 0, .int 0]))) o (.inr (5, [.ref (o + 1), .ref (o + 3), .ref (o + 5), .ref (o + 6), .ref (o + 7), .ref (o + 12), .ref (o + 17), .ref (o + 22), .int 0, .int 0, .int (-1)])) = G9
  have c9 : G9 o = some (.inr (5, [.ref (o + 1), .ref (o + 3), .ref (o + 5), .ref (o + 6), .ref (o + 7), .ref (o + 12), .ref (o + 17), .ref (o + 22), .int 0, .int 0, .int (-1)])) := by rw [← hG9, aw_up_s]
  have e8 : ∀ x, x ≠ o → G9 x = G8 x := fun x h => by rw [← hG9, aw_up_n h, aw_up_n h, aw_up_n h]
  have e7 : ∀ x, x ≠ o → x < o + 22 → G9 x = G7 x := fun x h1 h2 => (e8 x h1).trans (kp8 x h1 h2)
  have e6 : ∀ x, x ≠ o → x < o + 17 → G9 x = G6 x := fun x h1 h2 => (e7 x h1 (by omega)).trans (kp7 x h1 h2)
  have e5 : ∀ x, x ≠ o → x < o + 12 → G9 x = G5 x := fun x h1 h2 => (e6 x h1 (by omega)).trans (kp6 x h1 h2)
  have e4 : ∀ x, x ≠ o → x < o + 7 → G9 x = G4 x := fun x h1 h2 => (e5 x h1 (by omega)).trans (kp5 x h1 h2)
  have e3 : ∀ x, x ≠ o → x < o + 6 → G9 x = G3 x := fun x h1 h2 => (e4 x h1 (by omega)).trans (kp4 x h1 h2)
  have e2 : ∀ x, x ≠ o → x < o + 5 → G9 x = G2 x := fun x h1 h2 => (e3 x h1 (by omega)).trans (kp3 x h1 h2)
  have e1 : ∀ x, x ≠ o → x < o + 3 → G9 x = G1 x := fun x h1 h2 => (e2 x h1 (by omega)).trans (kp2 x h1 h2)
  have e0 : ∀ x, x ≠ o → x < o + 1 → G9 x = g x := fun x h1 h2 => (e1 x h1 (by omega)).trans (kp1 x h1 h2)
  refine ⟨rfl, ⟨hb0, c9, r1.keep (e1 _ (by omega) (by omega)) (e1 _ (by omega) (by omega)), r2.keep (e2 _ (by omega) (by omega)) (e2 _ (by omega) (by omega)), ⟨by decide, fun _ => none, (e3 _ (by omega) (by omega)).trans r3, fun i hi => absurd hi (Nat.not_lt_zero i)⟩, ⟨by decide, fun _ => none, (e4 _ (by omega) (by omega)).trans r4, fun i hi => absurd hi (Nat.not_lt_zero i)⟩, ⟨_, r5.keep (fun x h1 h2 => e5 x (by omega) (by omega))⟩, ⟨_, fb6, fe6, r6.1, (e6 _ (by omega) (by omega)).trans r6.2.1, (e6 _ (by omega) (by omega)).trans r6.2.2.1, (e6 _ (by omega) (by omega)).trans r6.2.2.2⟩, ⟨_, fb7, fe7, r7.1, (e7 _ (by omega) (by omega)).trans r7.2.1, (e7 _ (by omega) (by omega)).trans r7.2.2.1, (e7 _ (by omega) (by omega)).trans r7.2.2.2⟩, (e8 _ (by omega)).trans r8, _, r8b.keep (e8 _ (by omega)) (e8 _ (by omega))⟩, fun x hx => e0 x (by omega) (by omega)⟩
