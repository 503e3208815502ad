/-! a new reference -/
set_option maxRecDepth 100000 in
set_option maxHeartbeats 4000000 in
theorem ev_Md_init {l : Launch} {E : aw_E} {g : AH} {n : Nat} {d : Nat} (hb0 : E.2.2.1 ≤ d) (ha : g d = some (.inr (6, [.int 0, .null, .int 0, .null, .null, .null, .null, .null, .null, .int 0, .int 0, .null, .null, .null, .int 0, .null, .int 0, .null, .int 0, .null, .int 0, .null, .null, .null, .null, .null, .int 0, .null, .int 0, .null]))) (hn : n = d + 1) : EV l E 1 20 8796 y_Md_init c_Md_init 1 none g n [.ref d] (aw_Pv (fun g2 n2 => n2 = d + 21 ∧ mG E g d (fun j => if j = 2 then -1 else 0) (fun _ _ => 0) g2)) := by
  subst hn
  refine aw_enter "AddressTermsModel" [some (.ref d)] (by decide) rfl rfl (Nat.le_of_ble_eq_true rfl) ?_
  intro p e s m args below meth c S hnm
  refine aw_aload_0 S d_Md_init_0 ?_
  refine aw_objInit S n_ml_Md_1 n_im_Jo_init n_co_Jo_init d_Md_init_1 (by decide) (Nat.le_of_ble_eq_true rfl) ?_
  refine aw_aload_0 S d_Md_init_4 ?_
  refine aw_bipush (v := 96) S d_Md_init_5 (by decide) ?_
  refine aw_topi (show (96 : Int32) = nI 96 from rfl) ?_
  refine aw_newa (ty := .int) S 1 rfl rfl (fun U h => h) n_ac_int 96 d_Md_init_7 (96, .inl (fun _ => 0)) (fun _ => rfl) rfl (by decide) (by decide) (by decide) (by decide) ?_
  refine aw_putF (fs2 := [.int 0, .ref (d + 1), .int 0, .null, .null, .null, .null, .null, .null, .int 0, .int 0, .null, .null, .null, .int 0, .null, .int 0, .null, .int 0, .null, .int 0, .null, .null, .null, .null, .null, .int 0, .null, .int 0, .null]) S I_Md 1 (by rw [aw_up_n (by omega)]; exact ha) n_fl_Md_7 d_Md_init_9 rfl hb0 rfl hnm rfl rfl rfl (by decide) (Nat.le_of_ble_eq_true rfl) ?_
  generalize hG : aw_up (aw_up g (d + 1) (.inl (E.2.1 1, 96, .inl (fun _ => 0)))) d (.inr (6, [.int 0, .ref (d + 1), .int 0, .null, .null, .null, .null, .null, .null, .int 0, .int 0, .null, .null, .null, .int 0, .null, .int 0, .null, .int 0, .null, .int 0, .null, .null, .null, .null, .null, .int 0, .null, .int 0, .null])) = G0
  have c0_ : G0 d = some (.inr (6, [.int 0, .ref (d + 1), .int 0, .null, .null, .null, .null, .null, .null, .int 0, .int 0, .null, .null, .null, .int 0, .null, .int 0, .null, .int 0, .null, .int 0, .null, .null, .null, .null, .null, .int 0, .null, .int 0, .null])) := by rw [← hG, aw_up_s]
  have kp0 : ∀ x, x ≠ d → x ≠ d + 1 → G0 x = g x := fun x h1 h2 => by rw [← hG, aw_up_n h1, aw_up_n h2]
  have a0_ : G0 (d + 1) = some (.inl (E.2.1 1, 96, .inl (fun _ => 0))) := by rw [← hG, aw_up_n (by omega), aw_up_s]
  clear hG
  refine aw_aload_0 S d_Md_init_12 ?_
  refine aw_bipush (v := 60) S d_Md_init_13 (by decide) ?_
  refine aw_topi (show (60 : Int32) = nI 60 from rfl) ?_
  refine aw_newa (ty := .int) S 1 rfl rfl (fun U h => h) n_ac_int 60 d_Md_init_15 (60, .inl (fun _ => 0)) (fun _ => rfl) rfl (by decide) (by decide) (by decide) (by decide) ?_
  refine aw_putF (fs2 := [.int 0, .ref (d + 1), .int 0, .ref (d + 2), .null, .null, .null, .null, .null, .int 0, .int 0, .null, .null, .null, .int 0, .null, .int 0, .null, .int 0, .null, .int 0, .null, .null, .null, .null, .null, .int 0, .null, .int 0, .null]) S I_Md 3 (by rw [aw_up_n (by omega)]; exact c0_) n_fl_Md_13 d_Md_init_17 rfl hb0 rfl hnm rfl rfl rfl (by decide) (Nat.le_of_ble_eq_true rfl) ?_
  generalize hG : aw_up (aw_up G0 (d + 2) (.inl (E.2.1 1, 60, .inl (fun _ => 0)))) d (.inr (6, [.int 0, .ref (d + 1), .int 0, .ref (d + 2), .null, .null, .null, .null, .null, .int 0, .int 0, .null, .null, .null, .int 0, .null, .int 0, .null, .int 0, .null, .int 0, .null, .null, .null, .null, .null, .int 0, .null, .int 0, .null])) = G1
  have c1_ : G1 d = some (.inr (6, [.int 0, .ref (d + 1), .int 0, .ref (d + 2), .null, .null, .null, .null, .null, .int 0, .int 0, .null, .null, .null, .int 0, .null, .int 0, .null, .int 0, .null, .int 0, .null, .null, .null, .null, .null, .int 0, .null, .int 0, .null])) := by rw [← hG, aw_up_s]
  have kp1 : ∀ x, x ≠ d → x ≠ d + 2 → G1 x = G0 x := fun x h1 h2 => by rw [← hG, aw_up_n h1, aw_up_n h2]
  have a1_ : G1 (d + 2) = some (.inl (E.2.1 1, 60, .inl (fun _ => 0))) := by rw [← hG, aw_up_n (by omega), aw_up_s]
  clear hG
  refine aw_aload_0 S d_Md_init_20 ?_
  refine aw_bipush (v := 60) S d_Md_init_21 (by decide) ?_
  refine aw_topi (show (60 : Int32) = nI 60 from rfl) ?_
  refine aw_newa (ty := .int) S 1 rfl rfl (fun U h => h) n_ac_int 60 d_Md_init_23 (60, .inl (fun _ => 0)) (fun _ => rfl) rfl (by decide) (by decide) (by decide) (by decide) ?_
  refine aw_putF (fs2 := [.int 0, .ref (d + 1), .int 0, .ref (d + 2), .ref (d + 3), .null, .null, .null, .null, .int 0, .int 0, .null, .null, .null, .int 0, .null, .int 0, .null, .int 0, .null, .int 0, .null, .null, .null, .null, .null, .int 0, .null, .int 0, .null]) S I_Md 4 (by rw [aw_up_n (by omega)]; exact c1_) n_fl_Md_16 d_Md_init_25 rfl hb0 rfl hnm rfl rfl rfl (by decide) (Nat.le_of_ble_eq_true rfl) ?_
  generalize hG : aw_up (aw_up G1 (d + 3) (.inl (E.2.1 1, 60, .inl (fun _ => 0)))) d (.inr (6, [.int 0, .ref (d + 1), .int 0, .ref (d + 2), .ref (d + 3), .null, .null, .null, .null, .int 0, .int 0, .null, .null, .null, .int 0, .null, .int 0, .null, .int 0, .null, .int 0, .null, .null, .null, .null, .null, .int 0, .null, .int 0, .null])) = G2
  have c2_ : G2 d = some (.inr (6, [.int 0, .ref (d + 1), .int 0, .ref (d + 2), .ref (d + 3), .null, .null, .null, .null, .int 0, .int 0, .null, .null, .null, .int 0, .null, .int 0, .null, .int 0, .null, .int 0, .null, .null, .null, .null, .null, .int 0, .null, .int 0, .null])) := by rw [← hG, aw_up_s]
  have kp2 : ∀ x, x ≠ d → x ≠ d + 3 → G2 x = G1 x := fun x h1 h2 => by rw [← hG, aw_up_n h1, aw_up_n h2]
  have a2_ : G2 (d + 3) = some (.inl (E.2.1 1, 60, .inl (fun _ => 0))) := by rw [← hG, aw_up_n (by omega), aw_up_s]
  clear hG
  refine aw_aload_0 S d_Md_init_28 ?_
  refine aw_bipush (v := 60) S d_Md_init_29 (by decide) ?_
  refine aw_topi (show (60 : Int32) = nI 60 from rfl) ?_
  refine aw_newa (ty := .int) S 1 rfl rfl (fun U h => h) n_ac_int 60 d_Md_init_31 (60, .inl (fun _ => 0)) (fun _ => rfl) rfl (by decide) (by decide) (by decide) (by decide) ?_
  refine aw_putF (fs2 := [.int 0, .ref (d + 1), .int 0, .ref (d + 2), .ref (d + 3), .ref (d + 4), .null, .null, .null, .int 0, .int 0, .null, .null, .null, .int 0, .null, .int 0, .null, .int 0, .null, .int 0, .null, .null, .null, .null, .null, .int 0, .null, .int 0, .null]) S I_Md 5 (by rw [aw_up_n (by omega)]; exact c2_) n_fl_Md_19 d_Md_init_33 rfl hb0 rfl hnm rfl rfl rfl (by decide) (Nat.le_of_ble_eq_true rfl) ?_
  generalize hG : aw_up (aw_up G2 (d + 4) (.inl (E.2.1 1, 60, .inl (fun _ => 0)))) d (.inr (6, [.int 0, .ref (d + 1), .int 0, .ref (d + 2), .ref (d + 3), .ref (d + 4), .null, .null, .null, .int 0, .int 0, .null, .null, .null, .int 0, .null, .int 0, .null, .int 0, .null, .int 0, .null, .null, .null, .null, .null, .int 0, .null, .int 0, .null])) = G3
  have c3_ : G3 d = some (.inr (6, [.int 0, .ref (d + 1), .int 0, .ref (d + 2), .ref (d + 3), .ref (d + 4), .null, .null, .null, .int 0, .int 0, .null, .null, .null, .int 0, .null, .int 0, .null, .int 0, .null, .int 0, .null, .null, .null, .null, .null, .int 0, .null, .int 0, .null])) := by rw [← hG, aw_up_s]
  have kp3 : ∀ x, x ≠ d → x ≠ d + 4 → G3 x = G2 x := fun x h1 h2 => by rw [← hG, aw_up_n h1, aw_up_n h2]
  have a3_ : G3 (d + 4) = some (.inl (E.2.1 1, 60, .inl (fun _ => 0))) := by rw [← hG, aw_up_n (by omega), aw_up_s]
  clear hG
  refine aw_aload_0 S d_Md_init_36 ?_
  refine aw_sipush (v := 6000) S d_Md_init_37 (by decide) ?_
  refine aw_topi (show (6000 : Int32) = nI 6000 from rfl) ?_
  refine aw_newa (ty := .int) S 1 rfl rfl (fun U h => h) n_ac_int 6000 d_Md_init_40 (6000, .inl (fun _ => 0)) (fun _ => rfl) rfl (by decide) (by decide) (by decide) (by decide) ?_
  refine aw_putF (fs2 := [.int 0, .ref (d + 1), .int 0, .ref (d + 2), .ref (d + 3), .ref (d + 4), .ref (d + 5), .null, .null, .int 0, .int 0, .null, .null, .null, .int 0, .null, .int 0, .null, .int 0, .null, .int 0, .null, .null, .null, .null, .null, .int 0, .null, .int 0, .null]) S I_Md 6 (by rw [aw_up_n (by omega)]; exact c3_) n_fl_Md_22 d_Md_init_42 rfl hb0 rfl hnm rfl rfl rfl (by decide) (Nat.le_of_ble_eq_true rfl) ?_
  generalize hG : aw_up (aw_up G3 (d + 5) (.inl (E.2.1 1, 6000, .inl (fun _ => 0)))) d (.inr (6, [.int 0, .ref (d + 1), .int 0, .ref (d + 2), .ref (d + 3), .ref (d + 4), .ref (d + 5), .null, .null, .int 0, .int 0, .null, .null, .null, .int 0, .null, .int 0, .null, .int 0, .null, .int 0, .null, .null, .null, .null, .null, .int 0, .null, .int 0, .null])) = G4
  have c4_ : G4 d = some (.inr (6, [.int 0, .ref (d + 1), .int 0, .ref (d + 2), .ref (d + 3), .ref (d + 4), .ref (d + 5), .null, .null, .int 0, .int 0, .null, .null, .null, .int 0, .null, .int 0, .null, .int 0, .null, .int 0, .null, .null, .null, .null, .null, .int 0, .null, .int 0, .null])) := by rw [← hG, aw_up_s]
  have kp4 : ∀ x, x ≠ d → x ≠ d + 5 → G4 x = G3 x := fun x h1 h2 => by rw [← hG, aw_up_n h1, aw_up_n h2]
  have a4_ : G4 (d + 5) = some (.inl (E.2.1 1, 6000, .inl (fun _ => 0))) := by rw [← hG, aw_up_n (by omega), aw_up_s]
  clear hG
  refine aw_aload_0 S d_Md_init_45 ?_
  refine aw_bipush (v := 60) S d_Md_init_46 (by decide) ?_
  refine aw_topi (show (60 : Int32) = nI 60 from rfl) ?_
  refine aw_newa (ty := .int) S 1 rfl rfl (fun U h => h) n_ac_int 60 d_Md_init_48 (60, .inl (fun _ => 0)) (fun _ => rfl) rfl (by decide) (by decide) (by decide) (by decide) ?_
  refine aw_putF (fs2 := [.int 0, .ref (d + 1), .int 0, .ref (d + 2), .ref (d + 3), .ref (d + 4), .ref (d + 5), .ref (d + 6), .null, .int 0, .int 0, .null, .null, .null, .int 0, .null, .int 0, .null, .int 0, .null, .int 0, .null, .null, .null, .null, .null, .int 0, .null, .int 0, .null]) S I_Md 7 (by rw [aw_up_n (by omega)]; exact c4_) n_fl_Md_25 d_Md_init_50 rfl hb0 rfl hnm rfl rfl rfl (by decide) (Nat.le_of_ble_eq_true rfl) ?_
  generalize hG : aw_up (aw_up G4 (d + 6) (.inl (E.2.1 1, 60, .inl (fun _ => 0)))) d (.inr (6, [.int 0, .ref (d + 1), .int 0, .ref (d + 2), .ref (d + 3), .ref (d + 4), .ref (d + 5), .ref (d + 6), .null, .int 0, .int 0, .null, .null, .null, .int 0, .null, .int 0, .null, .int 0, .null, .int 0, .null, .null, .null, .null, .null, .int 0, .null, .int 0, .null])) = G5
  have c5_ : G5 d = some (.inr (6, [.int 0, .ref (d + 1), .int 0, .ref (d + 2), .ref (d + 3), .ref (d + 4), .ref (d + 5), .ref (d + 6), .null, .int 0, .int 0, .null, .null, .null, .int 0, .null, .int 0, .null, .int 0, .null, .int 0, .null, .null, .null, .null, .null, .int 0, .null, .int 0, .null])) := by rw [← hG, aw_up_s]
  have kp5 : ∀ x, x ≠ d → x ≠ d + 6 → G5 x = G4 x := fun x h1 h2 => by rw [← hG, aw_up_n h1, aw_up_n h2]
  have a5_ : G5 (d + 6) = some (.inl (E.2.1 1, 60, .inl (fun _ => 0))) := by rw [← hG, aw_up_n (by omega), aw_up_s]
  clear hG
  refine aw_aload_0 S d_Md_init_53 ?_
  refine aw_sipush (v := 960) S d_Md_init_54 (by decide) ?_
  refine aw_topi (show (960 : Int32) = nI 960 from rfl) ?_
  refine aw_newa (ty := .int) S 1 rfl rfl (fun U h => h) n_ac_int 960 d_Md_init_57 (960, .inl (fun _ => 0)) (fun _ => rfl) rfl (by decide) (by decide) (by decide) (by decide) ?_
  refine aw_putF (fs2 := [.int 0, .ref (d + 1), .int 0, .ref (d + 2), .ref (d + 3), .ref (d + 4), .ref (d + 5), .ref (d + 6), .ref (d + 7), .int 0, .int 0, .null, .null, .null, .int 0, .null, .int 0, .null, .int 0, .null, .int 0, .null, .null, .null, .null, .null, .int 0, .null, .int 0, .null]) S I_Md 8 (by rw [aw_up_n (by omega)]; exact c5_) n_fl_Md_28 d_Md_init_59 rfl hb0 rfl hnm rfl rfl rfl (by decide) (Nat.le_of_ble_eq_true rfl) ?_
  generalize hG : aw_up (aw_up G5 (d + 7) (.inl (E.2.1 1, 960, .inl (fun _ => 0)))) d (.inr (6, [.int 0, .ref (d + 1), .int 0, .ref (d + 2), .ref (d + 3), .ref (d + 4), .ref (d + 5), .ref (d + 6), .ref (d + 7), .int 0, .int 0, .null, .null, .null, .int 0, .null, .int 0, .null, .int 0, .null, .int 0, .null, .null, .null, .null, .null, .int 0, .null, .int 0, .null])) = G6
  have c6_ : G6 d = some (.inr (6, [.int 0, .ref (d + 1), .int 0, .ref (d + 2), .ref (d + 3), .ref (d + 4), .ref (d + 5), .ref (d + 6), .ref (d + 7), .int 0, .int 0, .null, .null, .null, .int 0, .null, .int 0, .null, .int 0, .null, .int 0, .null, .null, .null, .null, .null, .int 0, .null, .int 0, .null])) := by rw [← hG, aw_up_s]
  have kp6 : ∀ x, x ≠ d → x ≠ d + 7 → G6 x = G5 x := fun x h1 h2 => by rw [← hG, aw_up_n h1, aw_up_n h2]
  have a6_ : G6 (d + 7) = some (.inl (E.2.1 1, 960, .inl (fun _ => 0))) := by rw [← hG, aw_up_n (by omega), aw_up_s]
  clear hG
  refine aw_aload_0 S d_Md_init_62 ?_
  refine aw_iconst (v := -1) S d_Md_init_63 (by decide) ?_
  refine aw_putf (fs2 := [.int 0, .ref (d + 1), .int 0, .ref (d + 2), .ref (d + 3), .ref (d + 4), .ref (d + 5), .ref (d + 6), .ref (d + 7), .int (-1), .int 0, .null, .null, .null, .int 0, .null, .int 0, .null, .int 0, .null, .int 0, .null, .null, .null, .null, .null, .int 0, .null, .int 0, .null]) S I_Md 9 c6_ n_fl_Md_31 d_Md_init_64 rfl hb0 rfl rfl rfl (by decide) (Nat.le_of_ble_eq_true rfl) ?_
  generalize hG : aw_up G6 d (.inr (6, [.int 0, .ref (d + 1), .int 0, .ref (d + 2), .ref (d + 3), .ref (d + 4), .ref (d + 5), .ref (d + 6), .ref (d + 7), .int (-1), .int 0, .null, .null, .null, .int 0, .null, .int 0, .null, .int 0, .null, .int 0, .null, .null, .null, .null, .null, .int 0, .null, .int 0, .null])) = B64
  have cb64 : B64 d = some (.inr (6, [.int 0, .ref (d + 1), .int 0, .ref (d + 2), .ref (d + 3), .ref (d + 4), .ref (d + 5), .ref (d + 6), .ref (d + 7), .int (-1), .int 0, .null, .null, .null, .int 0, .null, .int 0, .null, .int 0, .null, .int 0, .null, .null, .null, .null, .null, .int 0, .null, .int 0, .null])) := by rw [← hG, aw_up_s]
  have kb64 : ∀ x, x ≠ d → B64 x = G6 x := fun x h1 => by rw [← hG, aw_up_n h1]
  clear hG
  refine aw_aload_0 S d_Md_init_67 ?_
  refine aw_bipush (v := 8) S d_Md_init_68 (by decide) ?_
  refine aw_topi (show (8 : Int32) = nI 8 from rfl) ?_
  refine aw_newa (ty := .int) S 1 rfl rfl (fun U h => h) n_ac_int 8 d_Md_init_70 (8, .inl (fun _ => 0)) (fun _ => rfl) rfl (by decide) (by decide) (by decide) (by decide) ?_
  refine aw_putF (fs2 := [.int 0, .ref (d + 1), .int 0, .ref (d + 2), .ref (d + 3), .ref (d + 4), .ref (d + 5), .ref (d + 6), .ref (d + 7), .int (-1), .int 0, .ref (d + 8), .null, .null, .int 0, .null, .int 0, .null, .int 0, .null, .int 0, .null, .null, .null, .null, .null, .int 0, .null, .int 0, .null]) S I_Md 11 (by rw [aw_up_n (by omega)]; exact cb64) n_fl_Md_35 d_Md_init_72 rfl hb0 rfl hnm rfl rfl rfl (by decide) (Nat.le_of_ble_eq_true rfl) ?_
  generalize hG : aw_up (aw_up B64 (d + 8) (.inl (E.2.1 1, 8, .inl (fun _ => 0)))) d (.inr (6, [.int 0, .ref (d + 1), .int 0, .ref (d + 2), .ref (d + 3), .ref (d + 4), .ref (d + 5), .ref (d + 6), .ref (d + 7), .int (-1), .int 0, .ref (d + 8), .null, .null, .int 0, .null, .int 0, .null, .int 0, .null, .int 0, .null, .null, .null, .null, .null, .int 0, .null, .int 0, .null])) = G7
  have c7_ : G7 d = some (.inr (6, [.int 0, .ref (d + 1), .int 0, .ref (d + 2), .ref (d + 3), .ref (d + 4), .ref (d + 5), .ref (d + 6), .ref (d + 7), .int (-1), .int 0, .ref (d + 8), .null, .null, .int 0, .null, .int 0, .null, .int 0, .null, .int 0, .null, .null, .null, .null, .null, .int 0, .null, .int 0, .null])) := by rw [← hG, aw_up_s]
  have kp7 : ∀ x, x ≠ d → x ≠ d + 8 → G7 x = B64 x := fun x h1 h2 => by rw [← hG, aw_up_n h1, aw_up_n h2]
  have a7_ : G7 (d + 8) = some (.inl (E.2.1 1, 8, .inl (fun _ => 0))) := by rw [← hG, aw_up_n (by omega), aw_up_s]
  clear hG
  refine aw_aload_0 S d_Md_init_75 ?_
  refine aw_bipush (v := 48) S d_Md_init_76 (by decide) ?_
  refine aw_topi (show (48 : Int32) = nI 48 from rfl) ?_
  refine aw_newa (ty := .int) S 1 rfl rfl (fun U h => h) n_ac_int 48 d_Md_init_78 (48, .inl (fun _ => 0)) (fun _ => rfl) rfl (by decide) (by decide) (by decide) (by decide) ?_
  refine aw_putF (fs2 := [.int 0, .ref (d + 1), .int 0, .ref (d + 2), .ref (d + 3), .ref (d + 4), .ref (d + 5), .ref (d + 6), .ref (d + 7), .int (-1), .int 0, .ref (d + 8), .ref (d + 9), .null, .int 0, .null, .int 0, .null, .int 0, .null, .int 0, .null, .null, .null, .null, .null, .int 0, .null, .int 0, .null]) S I_Md 12 (by rw [aw_up_n (by omega)]; exact c7_) n_fl_Md_38 d_Md_init_80 rfl hb0 rfl hnm rfl rfl rfl (by decide) (Nat.le_of_ble_eq_true rfl) ?_
  generalize hG : aw_up (aw_up G7 (d + 9) (.inl (E.2.1 1, 48, .inl (fun _ => 0)))) d (.inr (6, [.int 0, .ref (d + 1), .int 0, .ref (d + 2), .ref (d + 3), .ref (d + 4), .ref (d + 5), .ref (d + 6), .ref (d + 7), .int (-1), .int 0, .ref (d + 8), .ref (d + 9), .null, .int 0, .null, .int 0, .null, .int 0, .null, .int 0, .null, .null, .null, .null, .null, .int 0, .null, .int 0, .null])) = G8
  have c8_ : G8 d = some (.inr (6, [.int 0, .ref (d + 1), .int 0, .ref (d + 2), .ref (d + 3), .ref (d + 4), .ref (d + 5), .ref (d + 6), .ref (d + 7), .int (-1), .int 0, .ref (d + 8), .ref (d + 9), .null, .int 0, .null, .int 0, .null, .int 0, .null, .int 0, .null, .null, .null, .null, .null, .int 0, .null, .int 0, .null])) := by rw [← hG, aw_up_s]
  have kp8 : ∀ x, x ≠ d → x ≠ d + 9 → G8 x = G7 x := fun x h1 h2 => by rw [← hG, aw_up_n h1, aw_up_n h2]
  have a8_ : G8 (d + 9) = some (.inl (E.2.1 1, 48, .inl (fun _ => 0))) := by rw [← hG, aw_up_n (by omega), aw_up_s]
  clear hG
  refine aw_aload_0 S d_Md_init_83 ?_
  refine aw_bipush (v := 8) S d_Md_init_84 (by decide) ?_
  refine aw_topi (show (8 : Int32) = nI 8 from rfl) ?_
  refine aw_newa (ty := .int) S 1 rfl rfl (fun U h => h) n_ac_int 8 d_Md_init_86 (8, .inl (fun _ => 0)) (fun _ => rfl) rfl (by decide) (by decide) (by decide) (by decide) ?_
  refine aw_putF (fs2 := [.int 0, .ref (d + 1), .int 0, .ref (d + 2), .ref (d + 3), .ref (d + 4), .ref (d + 5), .ref (d + 6), .ref (d + 7), .int (-1), .int 0, .ref (d + 8), .ref (d + 9), .ref (d + 10), .int 0, .null, .int 0, .null, .int 0, .null, .int 0, .null, .null, .null, .null, .null, .int 0, .null, .int 0, .null]) S I_Md 13 (by rw [aw_up_n (by omega)]; exact c8_) n_fl_Md_41 d_Md_init_88 rfl hb0 rfl hnm rfl rfl rfl (by decide) (Nat.le_of_ble_eq_true rfl) ?_
  generalize hG : aw_up (aw_up G8 (d + 10) (.inl (E.2.1 1, 8, .inl (fun _ => 0)))) d (.inr (6, [.int 0, .ref (d + 1), .int 0, .ref (d + 2), .ref (d + 3), .ref (d + 4), .ref (d + 5), .ref (d + 6), .ref (d + 7), .int (-1), .int 0, .ref (d + 8), .ref (d + 9), .ref (d + 10), .int 0, .null, .int 0, .null, .int 0, .null, .int 0, .null, .null, .null, .null, .null, .int 0, .null, .int 0, .null])) = G9
  have c9_ : G9 d = some (.inr (6, [.int 0, .ref (d + 1), .int 0, .ref (d + 2), .ref (d + 3), .ref (d + 4), .ref (d + 5), .ref (d + 6), .ref (d + 7), .int (-1), .int 0, .ref (d + 8), .ref (d + 9), .ref (d + 10), .int 0, .null, .int 0, .null, .int 0, .null, .int 0, .null, .null, .null, .null, .null, .int 0, .null, .int 0, .null])) := by rw [← hG, aw_up_s]
  have kp9 : ∀ x, x ≠ d → x ≠ d + 10 → G9 x = G8 x := fun x h1 h2 => by rw [← hG, aw_up_n h1, aw_up_n h2]
  have a9_ : G9 (d + 10) = some (.inl (E.2.1 1, 8, .inl (fun _ => 0))) := by rw [← hG, aw_up_n (by omega), aw_up_s]
  clear hG
  refine aw_aload_0 S d_Md_init_91 ?_
  refine aw_sipush (v := 400) S d_Md_init_92 (by decide) ?_
  refine aw_topi (show (400 : Int32) = nI 400 from rfl) ?_
  refine aw_newa (ty := .int) S 1 rfl rfl (fun U h => h) n_ac_int 400 d_Md_init_95 (400, .inl (fun _ => 0)) (fun _ => rfl) rfl (by decide) (by decide) (by decide) (by decide) ?_
  refine aw_putF (fs2 := [.int 0, .ref (d + 1), .int 0, .ref (d + 2), .ref (d + 3), .ref (d + 4), .ref (d + 5), .ref (d + 6), .ref (d + 7), .int (-1), .int 0, .ref (d + 8), .ref (d + 9), .ref (d + 10), .int 0, .ref (d + 11), .int 0, .null, .int 0, .null, .int 0, .null, .null, .null, .null, .null, .int 0, .null, .int 0, .null]) S I_Md 15 (by rw [aw_up_n (by omega)]; exact c9_) n_fl_Md_44 d_Md_init_97 rfl hb0 rfl hnm rfl rfl rfl (by decide) (Nat.le_of_ble_eq_true rfl) ?_
  generalize hG : aw_up (aw_up G9 (d + 11) (.inl (E.2.1 1, 400, .inl (fun _ => 0)))) d (.inr (6, [.int 0, .ref (d + 1), .int 0, .ref (d + 2), .ref (d + 3), .ref (d + 4), .ref (d + 5), .ref (d + 6), .ref (d + 7), .int (-1), .int 0, .ref (d + 8), .ref (d + 9), .ref (d + 10), .int 0, .ref (d + 11), .int 0, .null, .int 0, .null, .int 0, .null, .null, .null, .null, .null, .int 0, .null, .int 0, .null])) = G10
  have c10_ : G10 d = some (.inr (6, [.int 0, .ref (d + 1), .int 0, .ref (d + 2), .ref (d + 3), .ref (d + 4), .ref (d + 5), .ref (d + 6), .ref (d + 7), .int (-1), .int 0, .ref (d + 8), .ref (d + 9), .ref (d + 10), .int 0, .ref (d + 11), .int 0, .null, .int 0, .null, .int 0, .null, .null, .null, .null, .null, .int 0, .null, .int 0, .null])) := by rw [← hG, aw_up_s]
  have kp10 : ∀ x, x ≠ d → x ≠ d + 11 → G10 x = G9 x := fun x h1 h2 => by rw [← hG, aw_up_n h1, aw_up_n h2]
  have a10_ : G10 (d + 11) = some (.inl (E.2.1 1, 400, .inl (fun _ => 0))) := by rw [← hG, aw_up_n (by omega), aw_up_s]
  clear hG
  refine aw_aload_0 S d_Md_init_100 ?_
  refine aw_bipush (v := 16) S d_Md_init_101 (by decide) ?_
  refine aw_topi (show (16 : Int32) = nI 16 from rfl) ?_
  refine aw_newa (ty := .int) S 1 rfl rfl (fun U h => h) n_ac_int 16 d_Md_init_103 (16, .inl (fun _ => 0)) (fun _ => rfl) rfl (by decide) (by decide) (by decide) (by decide) ?_
  refine aw_putF (fs2 := [.int 0, .ref (d + 1), .int 0, .ref (d + 2), .ref (d + 3), .ref (d + 4), .ref (d + 5), .ref (d + 6), .ref (d + 7), .int (-1), .int 0, .ref (d + 8), .ref (d + 9), .ref (d + 10), .int 0, .ref (d + 11), .int 0, .ref (d + 12), .int 0, .null, .int 0, .null, .null, .null, .null, .null, .int 0, .null, .int 0, .null]) S I_Md 17 (by rw [aw_up_n (by omega)]; exact c10_) n_fl_Md_47 d_Md_init_105 rfl hb0 rfl hnm rfl rfl rfl (by decide) (Nat.le_of_ble_eq_true rfl) ?_
  generalize hG : aw_up (aw_up G10 (d + 12) (.inl (E.2.1 1, 16, .inl (fun _ => 0)))) d (.inr (6, [.int 0, .ref (d + 1), .int 0, .ref (d + 2), .ref (d + 3), .ref (d + 4), .ref (d + 5), .ref (d + 6), .ref (d + 7), .int (-1), .int 0, .ref (d + 8), .ref (d + 9), .ref (d + 10), .int 0, .ref (d + 11), .int 0, .ref (d + 12), .int 0, .null, .int 0, .null, .null, .null, .null, .null, .int 0, .null, .int 0, .null])) = G11
  have c11_ : G11 d = some (.inr (6, [.int 0, .ref (d + 1), .int 0, .ref (d + 2), .ref (d + 3), .ref (d + 4), .ref (d + 5), .ref (d + 6), .ref (d + 7), .int (-1), .int 0, .ref (d + 8), .ref (d + 9), .ref (d + 10), .int 0, .ref (d + 11), .int 0, .ref (d + 12), .int 0, .null, .int 0, .null, .null, .null, .null, .null, .int 0, .null, .int 0, .null])) := by rw [← hG, aw_up_s]
  have kp11 : ∀ x, x ≠ d → x ≠ d + 12 → G11 x = G10 x := fun x h1 h2 => by rw [← hG, aw_up_n h1, aw_up_n h2]
  have a11_ : G11 (d + 12) = some (.inl (E.2.1 1, 16, .inl (fun _ => 0))) := by rw [← hG, aw_up_n (by omega), aw_up_s]
  clear hG
  refine aw_aload_0 S d_Md_init_108 ?_
  refine aw_sipush (v := 300) S d_Md_init_109 (by decide) ?_
  refine aw_topi (show (300 : Int32) = nI 300 from rfl) ?_
  refine aw_newa (ty := .int) S 1 rfl rfl (fun U h => h) n_ac_int 300 d_Md_init_112 (300, .inl (fun _ => 0)) (fun _ => rfl) rfl (by decide) (by decide) (by decide) (by decide) ?_
  refine aw_putF (fs2 := [.int 0, .ref (d + 1), .int 0, .ref (d + 2), .ref (d + 3), .ref (d + 4), .ref (d + 5), .ref (d + 6), .ref (d + 7), .int (-1), .int 0, .ref (d + 8), .ref (d + 9), .ref (d + 10), .int 0, .ref (d + 11), .int 0, .ref (d + 12), .int 0, .ref (d + 13), .int 0, .null, .null, .null, .null, .null, .int 0, .null, .int 0, .null]) S I_Md 19 (by rw [aw_up_n (by omega)]; exact c11_) n_fl_Md_50 d_Md_init_114 rfl hb0 rfl hnm rfl rfl rfl (by decide) (Nat.le_of_ble_eq_true rfl) ?_
  generalize hG : aw_up (aw_up G11 (d + 13) (.inl (E.2.1 1, 300, .inl (fun _ => 0)))) d (.inr (6, [.int 0, .ref (d + 1), .int 0, .ref (d + 2), .ref (d + 3), .ref (d + 4), .ref (d + 5), .ref (d + 6), .ref (d + 7), .int (-1), .int 0, .ref (d + 8), .ref (d + 9), .ref (d + 10), .int 0, .ref (d + 11), .int 0, .ref (d + 12), .int 0, .ref (d + 13), .int 0, .null, .null, .null, .null, .null, .int 0, .null, .int 0, .null])) = G12
  have c12_ : G12 d = some (.inr (6, [.int 0, .ref (d + 1), .int 0, .ref (d + 2), .ref (d + 3), .ref (d + 4), .ref (d + 5), .ref (d + 6), .ref (d + 7), .int (-1), .int 0, .ref (d + 8), .ref (d + 9), .ref (d + 10), .int 0, .ref (d + 11), .int 0, .ref (d + 12), .int 0, .ref (d + 13), .int 0, .null, .null, .null, .null, .null, .int 0, .null, .int 0, .null])) := by rw [← hG, aw_up_s]
  have kp12 : ∀ x, x ≠ d → x ≠ d + 13 → G12 x = G11 x := fun x h1 h2 => by rw [← hG, aw_up_n h1, aw_up_n h2]
  have a12_ : G12 (d + 13) = some (.inl (E.2.1 1, 300, .inl (fun _ => 0))) := by rw [← hG, aw_up_n (by omega), aw_up_s]
  clear hG
  refine aw_aload_0 S d_Md_init_117 ?_
  refine aw_bipush (v := 100) S d_Md_init_118 (by decide) ?_
  refine aw_topi (show (100 : Int32) = nI 100 from rfl) ?_
  refine aw_newa (ty := .int) S 1 rfl rfl (fun U h => h) n_ac_int 100 d_Md_init_120 (100, .inl (fun _ => 0)) (fun _ => rfl) rfl (by decide) (by decide) (by decide) (by decide) ?_
  refine aw_putF (fs2 := [.int 0, .ref (d + 1), .int 0, .ref (d + 2), .ref (d + 3), .ref (d + 4), .ref (d + 5), .ref (d + 6), .ref (d + 7), .int (-1), .int 0, .ref (d + 8), .ref (d + 9), .ref (d + 10), .int 0, .ref (d + 11), .int 0, .ref (d + 12), .int 0, .ref (d + 13), .int 0, .ref (d + 14), .null, .null, .null, .null, .int 0, .null, .int 0, .null]) S I_Md 21 (by rw [aw_up_n (by omega)]; exact c12_) n_fl_Md_53 d_Md_init_122 rfl hb0 rfl hnm rfl rfl rfl (by decide) (Nat.le_of_ble_eq_true rfl) ?_
  generalize hG : aw_up (aw_up G12 (d + 14) (.inl (E.2.1 1, 100, .inl (fun _ => 0)))) d (.inr (6, [.int 0, .ref (d + 1), .int 0, .ref (d + 2), .ref (d + 3), .ref (d + 4), .ref (d + 5), .ref (d + 6), .ref (d + 7), .int (-1), .int 0, .ref (d + 8), .ref (d + 9), .ref (d + 10), .int 0, .ref (d + 11), .int 0, .ref (d + 12), .int 0, .ref (d + 13), .int 0, .ref (d + 14), .null, .null, .null, .null, .int 0, .null, .int 0, .null])) = G13
  have c13_ : G13 d = some (.inr (6, [.int 0, .ref (d + 1), .int 0, .ref (d + 2), .ref (d + 3), .ref (d + 4), .ref (d + 5), .ref (d + 6), .ref (d + 7), .int (-1), .int 0, .ref (d + 8), .ref (d + 9), .ref (d + 10), .int 0, .ref (d + 11), .int 0, .ref (d + 12), .int 0, .ref (d + 13), .int 0, .ref (d + 14), .null, .null, .null, .null, .int 0, .null, .int 0, .null])) := by rw [← hG, aw_up_s]
  have kp13 : ∀ x, x ≠ d → x ≠ d + 14 → G13 x = G12 x := fun x h1 h2 => by rw [← hG, aw_up_n h1, aw_up_n h2]
  have a13_ : G13 (d + 14) = some (.inl (E.2.1 1, 100, .inl (fun _ => 0))) := by rw [← hG, aw_up_n (by omega), aw_up_s]
  clear hG
  refine aw_aload_0 S d_Md_init_125 ?_
  refine aw_iconst (v := 5) S d_Md_init_126 (by decide) ?_
  refine aw_topi (show (5 : Int32) = nI 5 from rfl) ?_
  refine aw_newa (ty := .int) S 1 rfl rfl (fun U h => h) n_ac_int 5 d_Md_init_127 (5, .inl (fun _ => 0)) (fun _ => rfl) rfl (by decide) (by decide) (by decide) (by decide) ?_
  refine aw_putF (fs2 := [.int 0, .ref (d + 1), .int 0, .ref (d + 2), .ref (d + 3), .ref (d + 4), .ref (d + 5), .ref (d + 6), .ref (d + 7), .int (-1), .int 0, .ref (d + 8), .ref (d + 9), .ref (d + 10), .int 0, .ref (d + 11), .int 0, .ref (d + 12), .int 0, .ref (d + 13), .int 0, .ref (d + 14), .ref (d + 15), .null, .null, .null, .int 0, .null, .int 0, .null]) S I_Md 22 (by rw [aw_up_n (by omega)]; exact c13_) n_fl_Md_56 d_Md_init_129 rfl hb0 rfl hnm rfl rfl rfl (by decide) (Nat.le_of_ble_eq_true rfl) ?_
  generalize hG : aw_up (aw_up G13 (d + 15) (.inl (E.2.1 1, 5, .inl (fun _ => 0)))) d (.inr (6, [.int 0, .ref (d + 1), .int 0, .ref (d + 2), .ref (d + 3), .ref (d + 4), .ref (d + 5), .ref (d + 6), .ref (d + 7), .int (-1), .int 0, .ref (d + 8), .ref (d + 9), .ref (d + 10), .int 0, .ref (d + 11), .int 0, .ref (d + 12), .int 0, .ref (d + 13), .int 0, .ref (d + 14), .ref (d + 15), .null, .null, .null, .int 0, .null, .int 0, .null])) = G14
  have c14_ : G14 d = some (.inr (6, [.int 0, .ref (d + 1), .int 0, .ref (d + 2), .ref (d + 3), .ref (d + 4), .ref (d + 5), .ref (d + 6), .ref (d + 7), .int (-1), .int 0, .ref (d + 8), .ref (d + 9), .ref (d + 10), .int 0, .ref (d + 11), .int 0, .ref (d + 12), .int 0, .ref (d + 13), .int 0, .ref (d + 14), .ref (d + 15), .null, .null, .null, .int 0, .null, .int 0, .null])) := by rw [← hG, aw_up_s]
  have kp14 : ∀ x, x ≠ d → x ≠ d + 15 → G14 x = G13 x := fun x h1 h2 => by rw [← hG, aw_up_n h1, aw_up_n h2]
  have a14_ : G14 (d + 15) = some (.inl (E.2.1 1, 5, .inl (fun _ => 0))) := by rw [← hG, aw_up_n (by omega), aw_up_s]
  clear hG
  refine aw_aload_0 S d_Md_init_132 ?_
  refine aw_iconst (v := 5) S d_Md_init_133 (by decide) ?_
  refine aw_topi (show (5 : Int32) = nI 5 from rfl) ?_
  refine aw_newa (ty := .int) S 1 rfl rfl (fun U h => h) n_ac_int 5 d_Md_init_134 (5, .inl (fun _ => 0)) (fun _ => rfl) rfl (by decide) (by decide) (by decide) (by decide) ?_
  refine aw_putF (fs2 := [.int 0, .ref (d + 1), .int 0, .ref (d + 2), .ref (d + 3), .ref (d + 4), .ref (d + 5), .ref (d + 6), .ref (d + 7), .int (-1), .int 0, .ref (d + 8), .ref (d + 9), .ref (d + 10), .int 0, .ref (d + 11), .int 0, .ref (d + 12), .int 0, .ref (d + 13), .int 0, .ref (d + 14), .ref (d + 15), .ref (d + 16), .null, .null, .int 0, .null, .int 0, .null]) S I_Md 23 (by rw [aw_up_n (by omega)]; exact c14_) n_fl_Md_59 d_Md_init_136 rfl hb0 rfl hnm rfl rfl rfl (by decide) (Nat.le_of_ble_eq_true rfl) ?_
  generalize hG : aw_up (aw_up G14 (d + 16) (.inl (E.2.1 1, 5, .inl (fun _ => 0)))) d (.inr (6, [.int 0, .ref (d + 1), .int 0, .ref (d + 2), .ref (d + 3), .ref (d + 4), .ref (d + 5), .ref (d + 6), .ref (d + 7), .int (-1), .int 0, .ref (d + 8), .ref (d + 9), .ref (d + 10), .int 0, .ref (d + 11), .int 0, .ref (d + 12), .int 0, .ref (d + 13), .int 0, .ref (d + 14), .ref (d + 15), .ref (d + 16), .null, .null, .int 0, .null, .int 0, .null])) = G15
  have c15_ : G15 d = some (.inr (6, [.int 0, .ref (d + 1), .int 0, .ref (d + 2), .ref (d + 3), .ref (d + 4), .ref (d + 5), .ref (d + 6), .ref (d + 7), .int (-1), .int 0, .ref (d + 8), .ref (d + 9), .ref (d + 10), .int 0, .ref (d + 11), .int 0, .ref (d + 12), .int 0, .ref (d + 13), .int 0, .ref (d + 14), .ref (d + 15), .ref (d + 16), .null, .null, .int 0, .null, .int 0, .null])) := by rw [← hG, aw_up_s]
  have kp15 : ∀ x, x ≠ d → x ≠ d + 16 → G15 x = G14 x := fun x h1 h2 => by rw [← hG, aw_up_n h1, aw_up_n h2]
  have a15_ : G15 (d + 16) = some (.inl (E.2.1 1, 5, .inl (fun _ => 0))) := by rw [← hG, aw_up_n (by omega), aw_up_s]
  clear hG
  refine aw_aload_0 S d_Md_init_139 ?_
  refine aw_iconst (v := 5) S d_Md_init_140 (by decide) ?_
  refine aw_topi (show (5 : Int32) = nI 5 from rfl) ?_
  refine aw_newa (ty := .int) S 1 rfl rfl (fun U h => h) n_ac_int 5 d_Md_init_141 (5, .inl (fun _ => 0)) (fun _ => rfl) rfl (by decide) (by decide) (by decide) (by decide) ?_
  refine aw_putF (fs2 := [.int 0, .ref (d + 1), .int 0, .ref (d + 2), .ref (d + 3), .ref (d + 4), .ref (d + 5), .ref (d + 6), .ref (d + 7), .int (-1), .int 0, .ref (d + 8), .ref (d + 9), .ref (d + 10), .int 0, .ref (d + 11), .int 0, .ref (d + 12), .int 0, .ref (d + 13), .int 0, .ref (d + 14), .ref (d + 15), .ref (d + 16), .ref (d + 17), .null, .int 0, .null, .int 0, .null]) S I_Md 24 (by rw [aw_up_n (by omega)]; exact c15_) n_fl_Md_62 d_Md_init_143 rfl hb0 rfl hnm rfl rfl rfl (by decide) (Nat.le_of_ble_eq_true rfl) ?_
  generalize hG : aw_up (aw_up G15 (d + 17) (.inl (E.2.1 1, 5, .inl (fun _ => 0)))) d (.inr (6, [.int 0, .ref (d + 1), .int 0, .ref (d + 2), .ref (d + 3), .ref (d + 4), .ref (d + 5), .ref (d + 6), .ref (d + 7), .int (-1), .int 0, .ref (d + 8), .ref (d + 9), .ref (d + 10), .int 0, .ref (d + 11), .int 0, .ref (d + 12), .int 0, .ref (d + 13), .int 0, .ref (d + 14), .ref (d + 15), .ref (d + 16), .ref (d + 17), .null, .int 0, .null, .int 0, .null])) = G16
  have c16_ : G16 d = some (.inr (6, [.int 0, .ref (d + 1), .int 0, .ref (d + 2), .ref (d + 3), .ref (d + 4), .ref (d + 5), .ref (d + 6), .ref (d + 7), .int (-1), .int 0, .ref (d + 8), .ref (d + 9), .ref (d + 10), .int 0, .ref (d + 11), .int 0, .ref (d + 12), .int 0, .ref (d + 13), .int 0, .ref (d + 14), .ref (d + 15), .ref (d + 16), .ref (d + 17), .null, .int 0, .null, .int 0, .null])) := by rw [← hG, aw_up_s]
  have kp16 : ∀ x, x ≠ d → x ≠ d + 17 → G16 x = G15 x := fun x h1 h2 => by rw [← hG, aw_up_n h1, aw_up_n h2]
  have a16_ : G16 (d + 17) = some (.inl (E.2.1 1, 5, .inl (fun _ => 0))) := by rw [← hG, aw_up_n (by omega), aw_up_s]
  clear hG
  refine aw_aload_0 S d_Md_init_146 ?_
  refine aw_iconst (v := 5) S d_Md_init_147 (by decide) ?_
  refine aw_topi (show (5 : Int32) = nI 5 from rfl) ?_
  refine aw_newa (ty := .int) S 1 rfl rfl (fun U h => h) n_ac_int 5 d_Md_init_148 (5, .inl (fun _ => 0)) (fun _ => rfl) rfl (by decide) (by decide) (by decide) (by decide) ?_
  refine aw_putF (fs2 := [.int 0, .ref (d + 1), .int 0, .ref (d + 2), .ref (d + 3), .ref (d + 4), .ref (d + 5), .ref (d + 6), .ref (d + 7), .int (-1), .int 0, .ref (d + 8), .ref (d + 9), .ref (d + 10), .int 0, .ref (d + 11), .int 0, .ref (d + 12), .int 0, .ref (d + 13), .int 0, .ref (d + 14), .ref (d + 15), .ref (d + 16), .ref (d + 17), .ref (d + 18), .int 0, .null, .int 0, .null]) S I_Md 25 (by rw [aw_up_n (by omega)]; exact c16_) n_fl_Md_65 d_Md_init_150 rfl hb0 rfl hnm rfl rfl rfl (by decide) (Nat.le_of_ble_eq_true rfl) ?_
  generalize hG : aw_up (aw_up G16 (d + 18) (.inl (E.2.1 1, 5, .inl (fun _ => 0)))) d (.inr (6, [.int 0, .ref (d + 1), .int 0, .ref (d + 2), .ref (d + 3), .ref (d + 4), .ref (d + 5), .ref (d + 6), .ref (d + 7), .int (-1), .int 0, .ref (d + 8), .ref (d + 9), .ref (d + 10), .int 0, .ref (d + 11), .int 0, .ref (d + 12), .int 0, .ref (d + 13), .int 0, .ref (d + 14), .ref (d + 15), .ref (d + 16), .ref (d + 17), .ref (d + 18), .int 0, .null, .int 0, .null])) = G17
  have c17_ : G17 d = some (.inr (6, [.int 0, .ref (d + 1), .int 0, .ref (d + 2), .ref (d + 3), .ref (d + 4), .ref (d + 5), .ref (d + 6), .ref (d + 7), .int (-1), .int 0, .ref (d + 8), .ref (d + 9), .ref (d + 10), .int 0, .ref (d + 11), .int 0, .ref (d + 12), .int 0, .ref (d + 13), .int 0, .ref (d + 14), .ref (d + 15), .ref (d + 16), .ref (d + 17), .ref (d + 18), .int 0, .null, .int 0, .null])) := by rw [← hG, aw_up_s]
  have kp17 : ∀ x, x ≠ d → x ≠ d + 18 → G17 x = G16 x := fun x h1 h2 => by rw [← hG, aw_up_n h1, aw_up_n h2]
  have a17_ : G17 (d + 18) = some (.inl (E.2.1 1, 5, .inl (fun _ => 0))) := by rw [← hG, aw_up_n (by omega), aw_up_s]
  clear hG
  refine aw_aload_0 S d_Md_init_153 ?_
  refine aw_sipush (v := 300) S d_Md_init_154 (by decide) ?_
  refine aw_topi (show (300 : Int32) = nI 300 from rfl) ?_
  refine aw_newa (ty := .int) S 1 rfl rfl (fun U h => h) n_ac_int 300 d_Md_init_157 (300, .inl (fun _ => 0)) (fun _ => rfl) rfl (by decide) (by decide) (by decide) (by decide) ?_
  refine aw_putF (fs2 := [.int 0, .ref (d + 1), .int 0, .ref (d + 2), .ref (d + 3), .ref (d + 4), .ref (d + 5), .ref (d + 6), .ref (d + 7), .int (-1), .int 0, .ref (d + 8), .ref (d + 9), .ref (d + 10), .int 0, .ref (d + 11), .int 0, .ref (d + 12), .int 0, .ref (d + 13), .int 0, .ref (d + 14), .ref (d + 15), .ref (d + 16), .ref (d + 17), .ref (d + 18), .int 0, .ref (d + 19), .int 0, .null]) S I_Md 27 (by rw [aw_up_n (by omega)]; exact c17_) n_fl_Md_68 d_Md_init_159 rfl hb0 rfl hnm rfl rfl rfl (by decide) (Nat.le_of_ble_eq_true rfl) ?_
  generalize hG : aw_up (aw_up G17 (d + 19) (.inl (E.2.1 1, 300, .inl (fun _ => 0)))) d (.inr (6, [.int 0, .ref (d + 1), .int 0, .ref (d + 2), .ref (d + 3), .ref (d + 4), .ref (d + 5), .ref (d + 6), .ref (d + 7), .int (-1), .int 0, .ref (d + 8), .ref (d + 9), .ref (d + 10), .int 0, .ref (d + 11), .int 0, .ref (d + 12), .int 0, .ref (d + 13), .int 0, .ref (d + 14), .ref (d + 15), .ref (d + 16), .ref (d + 17), .ref (d + 18), .int 0, .ref (d + 19), .int 0, .null])) = G18
  have c18_ : G18 d = some (.inr (6, [.int 0, .ref (d + 1), .int 0, .ref (d + 2), .ref (d + 3), .ref (d + 4), .ref (d + 5), .ref (d + 6), .ref (d + 7), .int (-1), .int 0, .ref (d + 8), .ref (d + 9), .ref (d + 10), .int 0, .ref (d + 11), .int 0, .ref (d + 12), .int 0, .ref (d + 13), .int 0, .ref (d + 14), .ref (d + 15), .ref (d + 16), .ref (d + 17), .ref (d + 18), .int 0, .ref (d + 19), .int 0, .null])) := by rw [← hG, aw_up_s]
  have kp18 : ∀ x, x ≠ d → x ≠ d + 19 → G18 x = G17 x := fun x h1 h2 => by rw [← hG, aw_up_n h1, aw_up_n h2]
  have a18_ : G18 (d + 19) = some (.inl (E.2.1 1, 300, .inl (fun _ => 0))) := by rw [← hG, aw_up_n (by omega), aw_up_s]
  clear hG
  refine aw_aload_0 S d_Md_init_162 ?_
  refine aw_sipush (v := 300) S d_Md_init_163 (by decide) ?_
  refine aw_topi (show (300 : Int32) = nI 300 from rfl) ?_
  refine aw_newa (ty := .int) S 1 rfl rfl (fun U h => h) n_ac_int 300 d_Md_init_166 (300, .inl (fun _ => 0)) (fun _ => rfl) rfl (by decide) (by decide) (by decide) (by decide) ?_
  refine aw_putF (fs2 := [.int 0, .ref (d + 1), .int 0, .ref (d + 2), .ref (d + 3), .ref (d + 4), .ref (d + 5), .ref (d + 6), .ref (d + 7), .int (-1), .int 0, .ref (d + 8), .ref (d + 9), .ref (d + 10), .int 0, .ref (d + 11), .int 0, .ref (d + 12), .int 0, .ref (d + 13), .int 0, .ref (d + 14), .ref (d + 15), .ref (d + 16), .ref (d + 17), .ref (d + 18), .int 0, .ref (d + 19), .int 0, .ref (d + 20)]) S I_Md 29 (by rw [aw_up_n (by omega)]; exact c18_) n_fl_Md_71 d_Md_init_168 rfl hb0 rfl hnm rfl rfl rfl (by decide) (Nat.le_of_ble_eq_true rfl) ?_
  generalize hG : aw_up (aw_up G18 (d + 20) (.inl (E.2.1 1, 300, .inl (fun _ => 0)))) d (.inr (6, [.int 0, .ref (d + 1), .int 0, .ref (d + 2), .ref (d + 3), .ref (d + 4), .ref (d + 5), .ref (d + 6), .ref (d + 7), .int (-1), .int 0, .ref (d + 8), .ref (d + 9), .ref (d + 10), .int 0, .ref (d + 11), .int 0, .ref (d + 12), .int 0, .ref (d + 13), .int 0, .ref (d + 14), .ref (d + 15), .ref (d + 16), .ref (d + 17), .ref (d + 18), .int 0, .ref (d + 19), .int 0, .ref (d + 20)])) = G19
  have c19_ : G19 d = some (.inr (6, [.int 0, .ref (d + 1), .int 0, .ref (d + 2), .ref (d + 3), .ref (d + 4), .ref (d + 5), .ref (d + 6), .ref (d + 7), .int (-1), .int 0, .ref (d + 8), .ref (d + 9), .ref (d + 10), .int 0, .ref (d + 11), .int 0, .ref (d + 12), .int 0, .ref (d + 13), .int 0, .ref (d + 14), .ref (d + 15), .ref (d + 16), .ref (d + 17), .ref (d + 18), .int 0, .ref (d + 19), .int 0, .ref (d + 20)])) := by rw [← hG, aw_up_s]
  have kp19 : ∀ x, x ≠ d → x ≠ d + 20 → G19 x = G18 x := fun x h1 h2 => by rw [← hG, aw_up_n h1, aw_up_n h2]
  have a19_ : G19 (d + 20) = some (.inl (E.2.1 1, 300, .inl (fun _ => 0))) := by rw [← hG, aw_up_n (by omega), aw_up_s]
  clear hG
  refine aw_aload_0 S d_Md_init_171 ?_
  refine aw_iconst (v := 0) S d_Md_init_172 (by decide) ?_
  refine aw_putf (fs2 := [.int 0, .ref (d + 1), .int 0, .ref (d + 2), .ref (d + 3), .ref (d + 4), .ref (d + 5), .ref (d + 6), .ref (d + 7), .int (-1), .int 0, .ref (d + 8), .ref (d + 9), .ref (d + 10), .int 0, .ref (d + 11), .int 0, .ref (d + 12), .int 0, .ref (d + 13), .int 0, .ref (d + 14), .ref (d + 15), .ref (d + 16), .ref (d + 17), .ref (d + 18), .int 0, .ref (d + 19), .int 0, .ref (d + 20)]) S I_Md 2 c19_ n_fl_Md_74 d_Md_init_173 rfl hb0 rfl rfl rfl (by decide) (Nat.le_of_ble_eq_true rfl) ?_
  generalize hG : aw_up G19 d (.inr (6, [.int 0, .ref (d + 1), .int 0, .ref (d + 2), .ref (d + 3), .ref (d + 4), .ref (d + 5), .ref (d + 6), .ref (d + 7), .int (-1), .int 0, .ref (d + 8), .ref (d + 9), .ref (d + 10), .int 0, .ref (d + 11), .int 0, .ref (d + 12), .int 0, .ref (d + 13), .int 0, .ref (d + 14), .ref (d + 15), .ref (d + 16), .ref (d + 17), .ref (d + 18), .int 0, .ref (d + 19), .int 0, .ref (d + 20)])) = B173
  have cb173 : B173 d = some (.inr (6, [.int 0, .ref (d + 1), .int 0, .ref (d + 2), .ref (d + 3), .ref (d + 4), .ref (d + 5), .ref (d + 6), .ref (d + 7), .int (-1), .int 0, .ref (d + 8), .ref (d + 9), .ref (d + 10), .int 0, .ref (d + 11), .int 0, .ref (d + 12), .int 0, .ref (d + 13), .int 0, .ref (d + 14), .ref (d + 15), .ref (d + 16), .ref (d + 17), .ref (d + 18), .int 0, .ref (d + 19), .int 0, .ref (d + 20)])) := by rw [← hG, aw_up_s]
  have kb173 : ∀ x, x ≠ d → B173 x = G19 x := fun x h1 => by rw [← hG, aw_up_n h1]
  clear hG
  refine aw_vret S rfl d_Md_init_176 ?_ (by decide) (by decide)
  have z21 : ∀ x, x ≠ d → (x < d + 21 ∨ d + 21 ≤ x) → B173 x = B173 x := fun x _ _ => rfl
  have z20 : ∀ x, x ≠ d → (x < d + 21 ∨ d + 21 ≤ x) → B173 x = G19 x := fun x h1 h2 => (z21 x h1 (by omega)).trans (kb173 x h1)
  have z19 : ∀ x, x ≠ d → (x < d + 20 ∨ d + 21 ≤ x) → B173 x = G18 x := fun x h1 h2 => (z20 x h1 (by omega)).trans (kp19 x h1 (by omega))
  have z18 : ∀ x, x ≠ d → (x < d + 19 ∨ d + 21 ≤ x) → B173 x = G17 x := fun x h1 h2 => (z19 x h1 (by omega)).trans (kp18 x h1 (by omega))
  have z17 : ∀ x, x ≠ d → (x < d + 18 ∨ d + 21 ≤ x) → B173 x = G16 x := fun x h1 h2 => (z18 x h1 (by omega)).trans (kp17 x h1 (by omega))
  have z16 : ∀ x, x ≠ d → (x < d + 17 ∨ d + 21 ≤ x) → B173 x = G15 x := fun x h1 h2 => (z17 x h1 (by omega)).trans (kp16 x h1 (by omega))
  have z15 : ∀ x, x ≠ d → (x < d + 16 ∨ d + 21 ≤ x) → B173 x = G14 x := fun x h1 h2 => (z16 x h1 (by omega)).trans (kp15 x h1 (by omega))
  have z14 : ∀ x, x ≠ d → (x < d + 15 ∨ d + 21 ≤ x) → B173 x = G13 x := fun x h1 h2 => (z15 x h1 (by omega)).trans (kp14 x h1 (by omega))
  have z13 : ∀ x, x ≠ d → (x < d + 14 ∨ d + 21 ≤ x) → B173 x = G12 x := fun x h1 h2 => (z14 x h1 (by omega)).trans (kp13 x h1 (by omega))
  have z12 : ∀ x, x ≠ d → (x < d + 13 ∨ d + 21 ≤ x) → B173 x = G11 x := fun x h1 h2 => (z13 x h1 (by omega)).trans (kp12 x h1 (by omega))
  have z11 : ∀ x, x ≠ d → (x < d + 12 ∨ d + 21 ≤ x) → B173 x = G10 x := fun x h1 h2 => (z12 x h1 (by omega)).trans (kp11 x h1 (by omega))
  have z10 : ∀ x, x ≠ d → (x < d + 11 ∨ d + 21 ≤ x) → B173 x = G9 x := fun x h1 h2 => (z11 x h1 (by omega)).trans (kp10 x h1 (by omega))
  have z9 : ∀ x, x ≠ d → (x < d + 10 ∨ d + 21 ≤ x) → B173 x = G8 x := fun x h1 h2 => (z10 x h1 (by omega)).trans (kp9 x h1 (by omega))
  have z8 : ∀ x, x ≠ d → (x < d + 9 ∨ d + 21 ≤ x) → B173 x = G7 x := fun x h1 h2 => (z9 x h1 (by omega)).trans (kp8 x h1 (by omega))
  have z7 : ∀ x, x ≠ d → (x < d + 8 ∨ d + 21 ≤ x) → B173 x = B64 x := fun x h1 h2 => (z8 x h1 (by omega)).trans (kp7 x h1 (by omega))
  have z6 : ∀ x, x ≠ d → (x < d + 8 ∨ d + 21 ≤ x) → B173 x = G6 x := fun x h1 h2 => (z7 x h1 (by omega)).trans (kb64 x h1)
  have z5 : ∀ x, x ≠ d → (x < d + 7 ∨ d + 21 ≤ x) → B173 x = G5 x := fun x h1 h2 => (z6 x h1 (by omega)).trans (kp6 x h1 (by omega))
  have z4 : ∀ x, x ≠ d → (x < d + 6 ∨ d + 21 ≤ x) → B173 x = G4 x := fun x h1 h2 => (z5 x h1 (by omega)).trans (kp5 x h1 (by omega))
  have z3 : ∀ x, x ≠ d → (x < d + 5 ∨ d + 21 ≤ x) → B173 x = G3 x := fun x h1 h2 => (z4 x h1 (by omega)).trans (kp4 x h1 (by omega))
  have z2 : ∀ x, x ≠ d → (x < d + 4 ∨ d + 21 ≤ x) → B173 x = G2 x := fun x h1 h2 => (z3 x h1 (by omega)).trans (kp3 x h1 (by omega))
  have z1 : ∀ x, x ≠ d → (x < d + 3 ∨ d + 21 ≤ x) → B173 x = G1 x := fun x h1 h2 => (z2 x h1 (by omega)).trans (kp2 x h1 (by omega))
  have z0 : ∀ x, x ≠ d → (x < d + 2 ∨ d + 21 ≤ x) → B173 x = G0 x := fun x h1 h2 => (z1 x h1 (by omega)).trans (kp1 x h1 (by omega))
  have zg : ∀ x, x ≠ d → (x < d + 1 ∨ d + 21 ≤ x) → B173 x = g x := fun x h1 h2 => (z0 x h1 (by omega)).trans (kp0 x h1 (by omega))
  refine ⟨rfl, hb0, cb173, fun k hk => ?_, fun x hx => zg x (by omega) (by omega)⟩
  by_cases q0 : k = 0
  · subst q0; exact (z0 _ (by omega) (by omega)).trans a0_
  by_cases q1 : k = 1
  · subst q1; exact (z1 _ (by omega) (by omega)).trans a1_
  by_cases q2 : k = 2
  · subst q2; exact (z2 _ (by omega) (by omega)).trans a2_
  by_cases q3 : k = 3
  · subst q3; exact (z3 _ (by omega) (by omega)).trans a3_
  by_cases q4 : k = 4
  · subst q4; exact (z4 _ (by omega) (by omega)).trans a4_
  by_cases q5 : k = 5
  · subst q5; exact (z5 _ (by omega) (by omega)).trans a5_
  by_cases q6 : k = 6
  · subst q6; exact (z6 _ (by omega) (by omega)).trans a6_
  by_cases q7 : k = 7
  · subst q7; exact (z8 _ (by omega) (by omega)).trans a7_
  by_cases q8 : k = 8
  · subst q8; exact (z9 _ (by omega) (by omega)).trans a8_
  by_cases q9 : k = 9
  · subst q9; exact (z10 _ (by omega) (by omega)).trans a9_
  by_cases q10 : k = 10
  · subst q10; exact (z11 _ (by omega) (by omega)).trans a10_
  by_cases q11 : k = 11
  · subst q11; exact (z12 _ (by omega) (by omega)).trans a11_
  by_cases q12 : k = 12
  · subst q12; exact (z13 _ (by omega) (by omega)).trans a12_
  by_cases q13 : k = 13
  · subst q13; exact (z14 _ (by omega) (by omega)).trans a13_
  by_cases q14 : k = 14
  · subst q14; exact (z15 _ (by omega) (by omega)).trans a14_
  by_cases q15 : k = 15
  · subst q15; exact (z16 _ (by omega) (by omega)).trans a15_
  by_cases q16 : k = 16
  · subst q16; exact (z17 _ (by omega) (by omega)).trans a16_
  by_cases q17 : k = 17
  · subst q17; exact (z18 _ (by omega) (by omega)).trans a17_
  by_cases q18 : k = 18
  · subst q18; exact (z19 _ (by omega) (by omega)).trans a18_
  by_cases q19 : k = 19
  · subst q19; exact (z20 _ (by omega) (by omega)).trans a19_
  omega
