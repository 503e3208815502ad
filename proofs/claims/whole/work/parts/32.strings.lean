/-! text constants, and what the library does with them -/
section AWStr
variable {p : Program} {l : Launch} {e : Env} {R : Room} {s : State} {m : MethodId} {args : Array Value} {below : List Frame} {meth : Method} {c : Code} {E : aw_E} {cc : ByteArray} {nL : Nat} {own : String} {ret : Option FieldType} {Q : State → Prop} {mc ms : Nat} {g : AH} {n pc : Nat} {lv : List (Option Value)} {st st0 : List Value}
theorem aw_ldcS (S : aw_C p s m args meth c E cc nL own ret) (i : Nat) (hi : i < 30) {k : Nat} (hs : st_s i = (own, k)) (hd : decode cc pc = .ok (.ldc k, 2)) (kk : AW p l e R s m args below meth c E nL Q mc ms g n (pc + 2) lv (.ref (E.2.2.2.1 i) :: st)) : AW p l e R s m args below meth c E nL Q mc ms g n pc lv st := by
  intro H locs ls hR hS hl
  obtain ⟨⟨tx, h1⟩, -⟩ := S.2.2.1.1 i hi
  rw [hs] at h1
  exact va_ldcS S.1.1 S.1.2.1 S.1.2.2.2.1 h1 hd (kk H locs ls hR hS hl)
theorem aw_gets1 (S : aw_C p s m args meth c E cc nL own ret) {k : Nat} (hw : Cond.fieldLink own k "java/lang/String" "COMPACT_STRINGS" "Z" ∈ aw_tw) (hd : decode cc pc = .ok (.getstatic k, 3)) (kk : AW p l e R s m args below meth c E nL Q mc ms g n (pc + 3) lv (.int 1 :: st)) : AW p l e R s m args below meth c E nL Q mc ms g n pc lv st :=
  fun H locs ls hR hS hl => va_gets S.1.1 S.1.2.1 S.2.2.1.2.1 hS S.1.2.2.2.1 (S.1.2.2.2.2 _ hw) (fun _ h => h) hd (kk H locs ls hR hS hl)
theorem aw_getsq (S : aw_C p s m args meth c E cc nL own ret) {k : Nat} (hw : Cond.fieldLink own k "jdk/internal/util/Preconditions" "SIOOBE_FORMATTER" "Ljava/util/function/BiFunction;" ∈ aw_tw) (hd : decode cc pc = .ok (.getstatic k, 3)) (kk : ∀ x : Option Nat, AW p l e R s m args below meth c E nL Q mc ms g n (pc + 3) lv (va_rf x :: st)) : AW p l e R s m args below meth c E nL Q mc ms g n pc lv st := by
  intro H locs ls hR hS hl
  rcases S.2.2.1.2.2.2.2.2 with hZ | ⟨t, hZ⟩
  · exact va_gets S.1.1 S.1.2.1 hZ hS S.1.2.2.2.1 (S.1.2.2.2.2 _ hw) (fun _ h => h) hd (kk none H locs ls hR hS hl)
  · exact va_gets S.1.1 S.1.2.1 hZ hS S.1.2.2.2.1 (S.1.2.2.2.2 _ hw) (fun _ h => h) hd (kk (some t) H locs ls hR hS hl)
theorem aw_scod (S : aw_C p s m args meth c E cc nL own ret) (i : Nat) (hi : i < 30) {k : Nat} (hw : Cond.fieldLink own k "java/lang/String" "coder" "B" ∈ aw_tw) (hd : decode cc pc = .ok (.getfield k, 3)) (kk : AW p l e R s m args below meth c E nL Q mc ms g n (pc + 3) lv (.int 0 :: st)) : AW p l e R s m args below meth c E nL Q mc ms g n pc lv (.ref (E.2.2.2.1 i) :: st) :=
  fun H locs ls hR hS hl => vk_getf S.1.1 S.1.2.1 (S.2.2.1.1 i hi).2.2.1 hS S.1.2.2.2.1 (S.1.2.2.2.2 _ hw) (fun _ h => h) hd (kk H locs ls hR hS hl)
theorem aw_sval (S : aw_C p s m args meth c E cc nL own ret) (i : Nat) (hi : i < 30) {k : Nat} (hw : Cond.fieldLink own k "java/lang/String" "value" "[B" ∈ aw_tw) (hd : decode cc pc = .ok (.getfield k, 3)) (kk : AW p l e R s m args below meth c E nL Q mc ms g n (pc + 3) lv (.ref (E.2.2.2.2 i) :: st)) : AW p l e R s m args below meth c E nL Q mc ms g n pc lv (.ref (E.2.2.2.1 i) :: st) :=
  fun H locs ls hR hS hl => vk_getf S.1.1 S.1.2.1 (S.2.2.1.1 i hi).2.2.2.1 hS S.1.2.2.2.1 (S.1.2.2.2.2 _ hw) (fun _ h => h) hd (kk H locs ls hR hS hl)
theorem st_len : ∀ i, i < 30 → (st_b i).length < 100 := by decide +kernel
theorem aw_sbald (S : aw_C p s m args meth c E cc nL own ret) (i : Nat) (hi : i < 30) {j : Nat} (hj : j < (st_b i).length) (hd : decode cc pc = .ok (.baload, 1)) (kk : AW p l e R s m args below meth c E nL Q mc ms g n (pc + 1) lv (.int ((st_b i).getD j 0) :: st)) : AW p l e R s m args below meth c E nL Q mc ms g n pc lv (.int (nI j) :: .ref (E.2.2.2.2 i) :: st) := by
  intro H locs ls hR hS hl
  have hL := st_len i hi
  exact va_tb S.1.1 S.1.2.1 (S.2.2.1.1 i hi).2.2.2.2 hS (vp_in_nI hj (by omega)) (by rw [nI_clamp (by omega)]) hd (kk H locs ls hR hS hl)
theorem aw_slen (S : aw_C p s m args meth c E cc nL own ret) (i : Nat) (hi : i < 30) (hd : decode cc pc = .ok (.arraylength, 1)) (kk : AW p l e R s m args below meth c E nL Q mc ms g n (pc + 1) lv (.int (nI (st_b i).length) :: st)) : AW p l e R s m args below meth c E nL Q mc ms g n pc lv (.ref (E.2.2.2.2 i) :: st) :=
  fun H locs ls hR hS hl => va_tlen S.1.1 S.1.2.1 (S.2.2.1.1 i hi).2.2.2.2 hS rfl hd (kk H locs ls hR hS hl)
theorem aw_callJiR (S : aw_C p s m args meth c E cc nL own ret) {y : MethodName} {cc2 : ByteArray} {nL2 d2 i0 k : Nat} {ret2 : Option FieldType} {As : List Value} {V : Int32} (hM : EV l E d2 0 0 y cc2 nL2 ret2 g n (.ref (E.2.2.2.1 i0) :: As) (aw_Pi (fun v g2 n2 => v = V ∧ g2 = g ∧ n2 = n))) (hB : aw_MB y cc2 nL2 ret2 k) (hI : Cond.instanceMethod y ∈ aw_tw ∧ Cond.selects y.cls y y ∈ aw_tw) {i : Nat} (hw : Cond.methodLink own i y ∈ aw_tw) (hd : decode cc pc = .ok (.invokevirtual i, 3)) (hi : i0 < 30) (hy : y.cls = "java/lang/String") (hk : As.length = k) (hst : st0 = As.reverse ++ .ref (E.2.2.2.1 i0) :: st) (kk : AW p l e R s m args below meth c E nL Q mc ms g n (pc + 3) lv (.int V :: st)) (hc : mc ≤ R.cells ∧ ms ≤ R.slots := by decide) (hf : d2 + 1 ≤ R.frames ∧ 8 + (nL2 + 11) + 40 * d2 ≤ R.locals := by decide) (hroom : (st.map fun v => v.category).sum ≤ 8 := by exact Nat.le_of_ble_eq_true rfl) : AW p l e R s m args below meth c E nL Q mc ms g n pc lv st0 := by
  intro H locs ls hR hS hl
  have hts := S.1.2.2.2.2
  have cw : CallW R s args own y.cls i y cc2 nL2 ret2 (Cond.code y cc2 nL2 ret2 :: aw_tw) { frames := d2, cells := 0, slots := 0, locals := 40 * d2 } 0 0 k :=
    ⟨callB_of k hts (aw_good hB.1) rfl rfl rfl (hts _ hB.2.1) (hts _ hw) hB.2.2 hf, hts _ hI.1, hts _ hI.2⟩
  have hrecv : ∃ cellB : Cell, H[E.2.2.2.1 i0]? = some cellB ∧ cellB.vm.isStatics = false ∧ s.vm.findClass y.cls = some cellB.cls := by
    obtain ⟨cell, h1, h2, h3, -⟩ := (S.2.2.1.1 i0 hi).2.1.kept hS.2.1
    exact ⟨cell, h1, h2, by rw [hy]; exact h3⟩
  refine aw_back hS hl (va_runV (g := F0 m pc ls st0) (rest := st) (As := As) S.1 hM cw ⟨aw_blind, hrecv, aw_ready S hR hS _⟩ rfl hk hl.1 hst (lv_room hroom) hd hc) (fun r g2 n2 h => ?_)
  obtain ⟨v, rfl, rfl, rfl, rfl⟩ := h
  exact kk
end AWStr
theorem st_chr : ∀ i, i < 30 → ∀ j, j < (st_b i).length → ((((st_b i).getD j 0) &&& 255).toUInt32 % 65536).toInt32 = (st_b i).getD j 0 ∧ narrow .char (.int ((st_b i).getD j 0)) = .int ((st_b i).getD j 0) := by decide +kernel
theorem bt_255 : ∀ j, j < 128 → sp_in (nI j) 0 255 = true := by decide +kernel
/-- where c first stands -/
def sp_ixF (c : Int32) : List Int32 → Nat → Int32
  | [], _ => -1
  | b :: l, k => if b = c then nI k else sp_ixF c l (k + 1)
theorem sp_ixF_neg {c : Int32} : ∀ (l : List Int32) (k : Nat), k + l.length < 2 ^ 31 → (sp_ixF c l k < 0 ↔ c ∉ l) := by
  intro l
  induction l with
  | nil => intro k hk; simp [sp_ixF]
  | cons b l ih =>
    intro k hk
    rw [List.length_cons] at hk
    rw [sp_ixF]
    by_cases h : b = c
    · rw [if_pos h]
      constructor
      · intro h2; exact absurd h2 (nI_pos (by omega))
      · intro h2; exact absurd (by rw [h]; exact List.mem_cons_self) h2
    · rw [if_neg h, ih (k + 1) (by omega)]
      simp [Ne.symm h]
set_option maxRecDepth 100000 in
set_option maxHeartbeats 4000000 in
theorem ev_Js_coder {l : Launch} {E : aw_E} {g : AH} {n : Nat} (i : Nat) (hi : i < 30) : EV l E 0 0 0 y_Js_coder c_Js_coder 1 (some .byte) g n [.ref (E.2.2.2.1 i)] (aw_Pi (fun r_ g2 n2 => r_ = 0 ∧ g2 = g ∧ n2 = n)) := by
  refine aw_enter "java/lang/String" [some (.ref (E.2.2.2.1 i))] (by decide) rfl rfl (Nat.le_of_ble_eq_true rfl) ?_
  intro p e s m args below meth c S hnm
  refine aw_gets1 S n_fl_Js_38 d_Js_coder_0 ?_
  refine aw_if_eq S 13 d_Js_coder_3 (by decide) (fun c3 => ?_) (fun c3 => ?_)
  · exact absurd c3 (by decide)
  · refine aw_aload_0 S d_Js_coder_6 ?_
    refine aw_scod S i hi n_fl_Js_15 d_Js_coder_7 ?_
    refine aw_goto S 14 d_Js_coder_10 (by decide) ?_
    refine aw_zret S .byte rfl (by rfl) d_Js_coder_14 ?_ (by decide) (by decide)
    exact ⟨rfl, rfl, rfl⟩
set_option maxRecDepth 100000 in
set_option maxHeartbeats 4000000 in
theorem ev_Js_isLatin1 {l : Launch} {E : aw_E} {g : AH} {n : Nat} (i : Nat) (hi : i < 30) : EV l E 0 0 0 y_Js_isLatin1 c_Js_isLatin1 1 (some .boolean) g n [.ref (E.2.2.2.1 i)] (aw_Pi (fun r_ g2 n2 => r_ = 1 ∧ g2 = g ∧ n2 = n)) := by
  refine aw_enter "java/lang/String" [some (.ref (E.2.2.2.1 i))] (by decide) rfl rfl (Nat.le_of_ble_eq_true rfl) ?_
  intro p e s m args below meth c S hnm
  refine aw_gets1 S n_fl_Js_38 d_Js_isLatin1_0 ?_
  refine aw_if_eq S 17 d_Js_isLatin1_3 (by decide) (fun c3 => ?_) (fun c3 => ?_)
  · exact absurd c3 (by decide)
  · refine aw_aload_0 S d_Js_isLatin1_6 ?_
    refine aw_scod S i hi n_fl_Js_15 d_Js_isLatin1_7 ?_
    refine aw_if_ne S 17 d_Js_isLatin1_10 (by decide) (fun c10 => ?_) (fun c10 => ?_)
    · exact absurd rfl c10
    · refine aw_iconst (v := 1) S d_Js_isLatin1_13 (by decide) ?_
      refine aw_goto S 18 d_Js_isLatin1_14 (by decide) ?_
      refine aw_zret S .boolean rfl (by rfl) d_Js_isLatin1_18 ?_ (by decide) (by decide)
      exact ⟨rfl, rfl, rfl⟩
set_option maxRecDepth 100000 in
set_option maxHeartbeats 4000000 in
theorem ev_Js_length {l : Launch} {E : aw_E} {g : AH} {n : Nat} (i : Nat) (hi : i < 30) : EV l E 1 0 0 y_Js_length c_Js_length 1 (some .int) g n [.ref (E.2.2.2.1 i)] (aw_Pi (fun r_ g2 n2 => r_ = nI (st_b i).length ∧ g2 = g ∧ n2 = n)) := by
  refine aw_enter "java/lang/String" [some (.ref (E.2.2.2.1 i))] (by decide) rfl rfl (Nat.le_of_ble_eq_true rfl) ?_
  intro p e s m args below meth c S hnm
  refine aw_aload_0 S d_Js_length_0 ?_
  refine aw_sval S i hi n_fl_Js_9 d_Js_length_1 ?_
  refine aw_slen S i hi d_Js_length_4 ?_
  refine aw_aload_0 S d_Js_length_5 ?_
  refine aw_callJiR S (ev_Js_coder i hi) mb_Js_coder mi_Js_coder n_ml_Js_335 d_Js_length_6 hi rfl rfl rfl ?_
  refine aw_ishr S d_Js_length_9 ?_
  refine aw_iret S rfl d_Js_length_10 ?_ (by decide) (by decide)
  exact ⟨sb_shr0 _, rfl, rfl⟩
set_option maxRecDepth 100000 in
set_option maxHeartbeats 4000000 in
theorem ev_Jl_canEncode {l : Launch} {E : aw_E} {g : AH} {n : Nat} (c0 : Int32)  : EV l E 0 0 0 y_Jl_canEncode c_Jl_canEncode 1 (some .boolean) g n [.int c0] (aw_Pi (fun r_ g2 n2 => r_ = aw_b (sp_in c0 0 255) ∧ g2 = g ∧ n2 = n)) := by
  refine aw_enter "java/lang/StringLatin1" [some (.int c0)] (by decide) rfl rfl (Nat.le_of_ble_eq_true rfl) ?_
  intro p e s m args below meth c S hnm
  refine aw_iload_0 S d_Jl_canEncode_0 ?_
  refine aw_if_lt S 15 d_Jl_canEncode_1 (by decide) (fun c1 => ?_) (fun c1 => ?_)
  · refine aw_iconst (v := 0) S d_Jl_canEncode_15 (by decide) ?_
    refine aw_zret S .boolean rfl (by rfl) d_Jl_canEncode_16 ?_ (by decide) (by decide)
    exact ⟨by simp [aw_b, sp_in, *], rfl, rfl⟩
  · refine aw_iload_0 S d_Jl_canEncode_4 ?_
    refine aw_sipush (v := 255) S d_Jl_canEncode_5 (by decide) ?_
    refine aw_icmp_gt S 15 d_Jl_canEncode_8 (by decide) (fun c8 => ?_) (fun c8 => ?_)
    · refine aw_iconst (v := 0) S d_Jl_canEncode_15 (by decide) ?_
      refine aw_zret S .boolean rfl (by rfl) d_Jl_canEncode_16 ?_ (by decide) (by decide)
      exact ⟨by simp [aw_b, sp_in, *], rfl, rfl⟩
    · refine aw_iconst (v := 1) S d_Jl_canEncode_11 (by decide) ?_
      refine aw_goto S 16 d_Jl_canEncode_12 (by decide) ?_
      refine aw_zret S .boolean rfl (by rfl) d_Jl_canEncode_16 ?_ (by decide) (by decide)
      exact ⟨by simp [aw_b, sp_in, *], rfl, rfl⟩
set_option maxRecDepth 100000 in
set_option maxHeartbeats 4000000 in
theorem ev_Jp_checkIndex {l : Launch} {E : aw_E} {g : AH} {n : Nat} (i k : Nat) (x : Option Nat) (hik : i < k) (hk : k < 2 ^ 31) : EV l E 0 0 0 y_Jp_checkIndex c_Jp_checkIndex 3 (some .int) g n [.int (nI i), .int (nI k), va_rf x] (aw_Pi (fun r_ g2 n2 => r_ = nI i ∧ g2 = g ∧ n2 = n)) := by
  cases x with
  | none =>
    refine aw_enter "jdk/internal/util/Preconditions" [some (.int (nI i)), some (.int (nI k)), some (.null)] (by decide) rfl rfl (Nat.le_of_ble_eq_true rfl) ?_
    intro p e s m args below meth c S hnm
    refine aw_iload_0 S d_Jp_checkIndex_0 ?_
    refine aw_if_lt S 9 d_Jp_checkIndex_1 (by decide) (fun c1 => ?_) (fun c1 => ?_)
    · exact absurd c1 (nI_pos (by omega))
    · refine aw_iload_0 S d_Jp_checkIndex_4 ?_
      refine aw_iload_1 S d_Jp_checkIndex_5 ?_
      refine aw_icmp_lt S 16 d_Jp_checkIndex_6 (by decide) (fun c6 => ?_) (fun c6 => ?_)
      · refine aw_iload_0 S d_Jp_checkIndex_16 ?_
        refine aw_iret S rfl d_Jp_checkIndex_17 ?_ (by decide) (by decide)
        exact ⟨rfl, rfl, rfl⟩
      · exact absurd (nI_lt hik hk) c6
  | some t =>
    refine aw_enter "jdk/internal/util/Preconditions" [some (.int (nI i)), some (.int (nI k)), some (.ref t)] (by decide) rfl rfl (Nat.le_of_ble_eq_true rfl) ?_
    intro p e s m args below meth c S hnm
    refine aw_iload_0 S d_Jp_checkIndex_0 ?_
    refine aw_if_lt S 9 d_Jp_checkIndex_1 (by decide) (fun c1 => ?_) (fun c1 => ?_)
    · exact absurd c1 (nI_pos (by omega))
    · refine aw_iload_0 S d_Jp_checkIndex_4 ?_
      refine aw_iload_1 S d_Jp_checkIndex_5 ?_
      refine aw_icmp_lt S 16 d_Jp_checkIndex_6 (by decide) (fun c6 => ?_) (fun c6 => ?_)
      · refine aw_iload_0 S d_Jp_checkIndex_16 ?_
        refine aw_iret S rfl d_Jp_checkIndex_17 ?_ (by decide) (by decide)
        exact ⟨rfl, rfl, rfl⟩
      · exact absurd (nI_lt hik hk) c6
set_option maxRecDepth 100000 in
set_option maxHeartbeats 4000000 in
theorem ev_Js_checkIndex {l : Launch} {E : aw_E} {g : AH} {n : Nat} (i k : Nat) (hik : i < k) (hk : k < 2 ^ 31) : EV l E 1 0 0 y_Js_checkIndex c_Js_checkIndex 2 none g n [.int (nI i), .int (nI k)] (aw_Pv (fun g2 n2 => g2 = g ∧ n2 = n)) := by
  refine aw_enter "java/lang/String" [some (.int (nI i)), some (.int (nI k))] (by decide) rfl rfl (Nat.le_of_ble_eq_true rfl) ?_
  intro p e s m args below meth c S hnm
  refine aw_iload_0 S d_Js_checkIndex_0 ?_
  refine aw_iload_1 S d_Js_checkIndex_1 ?_
  refine aw_getsq S n_fl_Js_1053 d_Js_checkIndex_2 (fun x => ?_)
  refine aw_callSiR (As := [.int (nI i), .int (nI k), va_rf x]) S (ev_Jp_checkIndex i k x hik hk) mb_Jp_checkIndex n_st_Jp_checkIndex n_ml_Js_1059 d_Js_checkIndex_5 rfl rfl ?_
  refine aw_pop S d_Js_checkIndex_8 rfl ?_
  refine aw_vret S rfl d_Js_checkIndex_9 ?_ (by decide) (by decide)
  exact ⟨rfl, rfl⟩
set_option maxRecDepth 100000 in
set_option maxHeartbeats 4000000 in
theorem ev_Jl_charAt {l : Launch} {E : aw_E} {g : AH} {n : Nat} (i k : Nat) (hi : i < 30) (hk : k < (st_b i).length) : EV l E 2 0 0 y_Jl_charAt c_Jl_charAt 2 (some .char) g n [.ref (E.2.2.2.2 i), .int (nI k)] (aw_Pi (fun r_ g2 n2 => r_ = (st_b i).getD k 0 ∧ g2 = g ∧ n2 = n)) := by
  have hL := st_len i hi
  refine aw_enter "java/lang/StringLatin1" [some (.ref (E.2.2.2.2 i)), some (.int (nI k))] (by decide) rfl rfl (Nat.le_of_ble_eq_true rfl) ?_
  intro p e s m args below meth c S hnm
  refine aw_iload_1 S d_Jl_charAt_0 ?_
  refine aw_aload_0 S d_Jl_charAt_1 ?_
  refine aw_slen S i hi d_Jl_charAt_2 ?_
  refine aw_callSv0 S (ev_Js_checkIndex k (st_b i).length hk (by omega)) mb_Js_checkIndex n_st_Js_checkIndex n_ml_Jl_9 d_Jl_charAt_3 rfl rfl (fun g2_ n2_ h_ => ?_)
  obtain ⟨rfl, rfl⟩ := h_
  refine aw_aload_0 S d_Jl_charAt_6 ?_
  refine aw_iload_1 S d_Jl_charAt_7 ?_
  refine aw_sbald S i hi hk d_Jl_charAt_8 ?_
  refine aw_sipush (v := 255) S d_Jl_charAt_9 (by decide) ?_
  refine aw_iand S d_Jl_charAt_12 ?_
  refine aw_i2c S d_Jl_charAt_13 ?_
  rw [(st_chr i hi k hk).1]
  refine aw_zret S .char rfl (st_chr i hi k hk).2 d_Jl_charAt_14 ?_ (by decide) (by decide)
  exact ⟨rfl, rfl, rfl⟩
set_option maxRecDepth 100000 in
set_option maxHeartbeats 4000000 in
theorem ev_Js_charAt {l : Launch} {E : aw_E} {g : AH} {n : Nat} (i k : Nat) (hi : i < 30) (hk : k < (st_b i).length) : EV l E 3 0 0 y_Js_charAt c_Js_charAt 2 (some .char) g n [.ref (E.2.2.2.1 i), .int (nI k)] (aw_Pi (fun r_ g2 n2 => r_ = (st_b i).getD k 0 ∧ g2 = g ∧ n2 = n)) := by
  refine aw_enter "java/lang/String" [some (.ref (E.2.2.2.1 i)), some (.int (nI k))] (by decide) rfl rfl (Nat.le_of_ble_eq_true rfl) ?_
  intro p e s m args below meth c S hnm
  refine aw_aload_0 S d_Js_charAt_0 ?_
  refine aw_callJiR S (ev_Js_isLatin1 i hi) mb_Js_isLatin1 mi_Js_isLatin1 n_ml_Js_492 d_Js_charAt_1 hi rfl rfl rfl ?_
  refine aw_if_eq S 16 d_Js_charAt_4 (by decide) (fun c4 => ?_) (fun c4 => ?_)
  · exact absurd c4 (by decide)
  · refine aw_aload_0 S d_Js_charAt_7 ?_
    refine aw_sval S i hi n_fl_Js_9 d_Js_charAt_8 ?_
    refine aw_iload_1 S d_Js_charAt_11 ?_
    refine aw_callSiR S (ev_Jl_charAt i k hi hk) mb_Jl_charAt n_st_Jl_charAt n_ml_Js_495 d_Js_charAt_12 rfl rfl ?_
    refine aw_zret S .char rfl (st_chr i hi k hk).2 d_Js_charAt_15 ?_ (by decide) (by decide)
    exact ⟨rfl, rfl, rfl⟩
set_option maxRecDepth 100000 in
set_option maxHeartbeats 4000000 in
theorem ev_Jl_indexOfChar {l : Launch} {E : aw_E} {g : AH} {n : Nat} (i : Nat) (c0 : Int32) (hi : i < 30) (hc : sp_bt c0) : EV l E 0 0 0 y_Jl_indexOfChar c_Jl_indexOfChar 6 (some .int) g n [.ref (E.2.2.2.2 i), .int c0, .int 0, .int (nI (st_b i).length)] (aw_Pi (fun r_ g2 n2 => r_ = sp_ixF c0 (st_b i) 0 ∧ g2 = g ∧ n2 = n)) := by
  have hL := st_len i hi
  refine aw_enter "java/lang/StringLatin1" [some (.ref (E.2.2.2.2 i)), some (.int c0), some (.int 0), some (.int (nI (st_b i).length)), none, none] (by decide) rfl rfl (Nat.le_of_ble_eq_true rfl) ?_
  intro p e s m args below meth c S hnm
  have loop : ∀ (q : List Int32) (k : Nat), k ≤ (st_b i).length → (st_b i).drop k = q → sp_ixF c0 q k = sp_ixF c0 (st_b i) 0 → AW p l e { frames := 0, cells := 0, slots := 0, locals := 40 * 0 } s m args below meth c E 6 (aw_Z E (aw_Pi (fun r_ g2 n2 => r_ = sp_ixF c0 (st_b i) 0 ∧ g2 = g ∧ n2 = n)) below args s 0 0) 0 0 g n 7 [some (.ref (E.2.2.2.2 i)), some (.int c0), some (.int 0), some (.int (nI (st_b i).length)), some (.int c0), some (.int (nI k))] [] := by
    intro q
    induction q with
    | nil =>
      intro k hk e hv
      have hk2 : (st_b i).length ≤ k := List.drop_eq_nil_iff.mp e
      refine aw_iload_5 S d_Jl_indexOfChar_7 ?_
      refine aw_iload_3 S d_Jl_indexOfChar_9 ?_
      refine aw_icmp_ge S 31 d_Jl_indexOfChar_10 (by decide) (fun c10 => ?_) (fun c10 => ?_)
      · refine aw_iconst (v := -1) S d_Jl_indexOfChar_31 (by decide) ?_
        refine aw_iret S rfl d_Jl_indexOfChar_32 ?_ (by decide) (by decide)
        exact ⟨hv, rfl, rfl⟩
      · exact absurd (nI_le hk2 (by omega)) c10
    | cons b q ih =>
      intro k hk e hv
      have hk2 : k < (st_b i).length := by
        rcases Nat.lt_or_ge k (st_b i).length with h | h
        · exact h
        · rw [List.drop_eq_nil_iff.mpr h] at e; cases e
      have hb : (st_b i).getD k 0 = b := by
        have h1 := congrArg (fun z => z.head?) e
        simp [List.head?_drop, List.getElem?_eq_getElem hk2] at h1
        simp [List.getD_eq_getElem?_getD, List.getElem?_eq_getElem hk2, h1]
      have hq : (st_b i).drop (k + 1) = q := by
        have h1 := congrArg List.tail e
        simpa [List.tail_drop] using h1
      refine aw_iload_5 S d_Jl_indexOfChar_7 ?_
      refine aw_iload_3 S d_Jl_indexOfChar_9 ?_
      refine aw_icmp_ge S 31 d_Jl_indexOfChar_10 (by decide) (fun c10 => ?_) (fun c10 => ?_)
      · exact absurd c10 (nI_ge hk2 (by omega))
      · refine aw_aload_0 S d_Jl_indexOfChar_13 ?_
        refine aw_iload_5 S d_Jl_indexOfChar_14 ?_
        refine aw_sbald S i hi hk2 d_Jl_indexOfChar_16 ?_
        rw [hb]
        refine aw_iload_4 S d_Jl_indexOfChar_17 ?_
        refine aw_icmp_ne S 25 d_Jl_indexOfChar_19 (by decide) (fun c19 => ?_) (fun c19 => ?_)
        · refine aw_iinc_5 (v := nI (k + 1)) S d_Jl_indexOfChar_25 ((nI_succ k).symm) ?_
          refine aw_goto S 7 d_Jl_indexOfChar_28 (by decide) ?_
          exact ih (k + 1) hk2 hq (by rw [← hv, sp_ixF, if_neg c19])
        · refine aw_iload_5 S d_Jl_indexOfChar_22 ?_
          refine aw_iret S rfl d_Jl_indexOfChar_24 ?_ (by decide) (by decide)
          exact ⟨by rw [← hv, sp_ixF, if_pos c19], rfl, rfl⟩
  refine aw_iload_1 S d_Jl_indexOfChar_0 ?_
  refine aw_i2b S d_Jl_indexOfChar_1 ?_
  rw [hc.id]
  refine aw_istore_4 S d_Jl_indexOfChar_2 ?_
  refine aw_iload_2 S d_Jl_indexOfChar_4 ?_
  refine aw_istore_5 S d_Jl_indexOfChar_5 ?_
  exact loop _ 0 (Nat.zero_le _) rfl rfl
set_option maxRecDepth 100000 in
set_option maxHeartbeats 4000000 in
theorem ev_Jl_indexOf {l : Launch} {E : aw_E} {g : AH} {n : Nat} (i : Nat) (c0 : Int32) (hi : i < 30) (hc : sp_bt c0) : EV l E 1 0 0 y_Jl_indexOf c_Jl_indexOf 4 (some .int) g n [.ref (E.2.2.2.2 i), .int c0, .int 0, .int (nI (st_b i).length)] (aw_Pi (fun r_ g2 n2 => r_ = sp_ixF c0 (st_b i) 0 ∧ g2 = g ∧ n2 = n)) := by
  have hL := st_len i hi
  refine aw_enter "java/lang/StringLatin1" [some (.ref (E.2.2.2.2 i)), some (.int c0), some (.int 0), some (.int (nI (st_b i).length))] (by decide) rfl rfl (Nat.le_of_ble_eq_true rfl) ?_
  intro p e s m args below meth c S hnm
  refine aw_iload_1 S d_Jl_indexOf_0 ?_
  refine aw_callSiR S (ev_Jl_canEncode c0) mb_Jl_canEncode n_st_Jl_canEncode n_ml_Jl_88 d_Jl_indexOf_1 rfl rfl ?_
  refine aw_if_ne S 9 d_Jl_indexOf_4 (by decide) (fun c4 => ?_) (fun c4 => ?_)
  · refine aw_iload_2 S d_Jl_indexOf_9 ?_
    refine aw_iconst (v := 0) S d_Jl_indexOf_10 (by decide) ?_
    refine aw_mmax S n_ml_Jl_92 n_st_Jm_max n_ini_Jm n_co_Jm_max (by decide) (Nat.le_of_ble_eq_true rfl) (by decide) (by decide) d_Jl_indexOf_11 ?_
    rw [ite_self]
    refine aw_istore_2 S d_Jl_indexOf_14 ?_
    refine aw_iload_3 S d_Jl_indexOf_15 ?_
    refine aw_aload_0 S d_Jl_indexOf_16 ?_
    refine aw_slen S i hi d_Jl_indexOf_17 ?_
    refine aw_mmin S n_ml_Jl_38 n_st_Jm_min n_ini_Jm n_co_Jm_min (by decide) (Nat.le_of_ble_eq_true rfl) (by decide) (by decide) d_Jl_indexOf_18 ?_
    rw [ite_self]
    refine aw_istore_3 S d_Jl_indexOf_21 ?_
    refine aw_iload_2 S d_Jl_indexOf_22 ?_
    refine aw_iload_3 S d_Jl_indexOf_23 ?_
    refine aw_icmp_lt S 29 d_Jl_indexOf_24 (by decide) (fun c24 => ?_) (fun c24 => ?_)
    · refine aw_aload_0 S d_Jl_indexOf_29 ?_
      refine aw_iload_1 S d_Jl_indexOf_30 ?_
      refine aw_iload_2 S d_Jl_indexOf_31 ?_
      refine aw_iload_3 S d_Jl_indexOf_32 ?_
      refine aw_callSiR S (ev_Jl_indexOfChar i c0 hi hc) mb_Jl_indexOfChar n_st_Jl_indexOfChar n_ml_Jl_95 d_Jl_indexOf_33 rfl rfl ?_
      refine aw_iret S rfl d_Jl_indexOf_36 ?_ (by decide) (by decide)
      exact ⟨rfl, rfl, rfl⟩
    · refine aw_iconst (v := -1) S d_Jl_indexOf_27 (by decide) ?_
      refine aw_iret S rfl d_Jl_indexOf_28 ?_ (by decide) (by decide)
      have h0 : (st_b i).length = 0 := by
        rcases Nat.eq_zero_or_pos (st_b i).length with h | h
        · exact h
        · exact absurd (nI_lt h (by omega)) c24
      rw [List.length_eq_zero_iff.mp h0]
      exact ⟨rfl, rfl, rfl⟩
  · obtain ⟨j, hj, rfl⟩ := hc.nat
    rw [bt_255 j hj] at c4
    exact absurd c4 (by decide)
set_option maxRecDepth 100000 in
set_option maxHeartbeats 4000000 in
theorem ev_Js_indexOf2 {l : Launch} {E : aw_E} {g : AH} {n : Nat} (i : Nat) (c0 : Int32) (hi : i < 30) (hc : sp_bt c0) : EV l E 2 0 0 y_Js_indexOf2 c_Js_indexOf2 3 (some .int) g n [.ref (E.2.2.2.1 i), .int c0, .int 0] (aw_Pi (fun r_ g2 n2 => r_ = sp_ixF c0 (st_b i) 0 ∧ g2 = g ∧ n2 = n)) := by
  refine aw_enter "java/lang/String" [some (.ref (E.2.2.2.1 i)), some (.int c0), some (.int 0)] (by decide) rfl rfl (Nat.le_of_ble_eq_true rfl) ?_
  intro p e s m args below meth c S hnm
  refine aw_aload_0 S d_Js_indexOf2_0 ?_
  refine aw_callJiR S (ev_Js_isLatin1 i hi) mb_Js_isLatin1 mi_Js_isLatin1 n_ml_Js_492 d_Js_indexOf2_1 hi rfl rfl rfl ?_
  refine aw_if_eq S 23 d_Js_indexOf2_4 (by decide) (fun c4 => ?_) (fun c4 => ?_)
  · exact absurd c4 (by decide)
  · refine aw_aload_0 S d_Js_indexOf2_7 ?_
    refine aw_sval S i hi n_fl_Js_9 d_Js_indexOf2_8 ?_
    refine aw_iload_1 S d_Js_indexOf2_11 ?_
    refine aw_iload_2 S d_Js_indexOf2_12 ?_
    refine aw_aload_0 S d_Js_indexOf2_13 ?_
    refine aw_callJiR S (ev_Js_length i hi) mb_Js_length mi_Js_length n_ml_Js_505 d_Js_indexOf2_14 hi rfl rfl rfl ?_
    refine aw_callSiR S (ev_Jl_indexOf i c0 hi hc) mb_Jl_indexOf n_st_Jl_indexOf n_ml_Js_637 d_Js_indexOf2_17 rfl rfl ?_
    refine aw_goto S 36 d_Js_indexOf2_20 (by decide) ?_
    refine aw_iret S rfl d_Js_indexOf2_36 ?_ (by decide) (by decide)
    exact ⟨rfl, rfl, rfl⟩
set_option maxRecDepth 100000 in
set_option maxHeartbeats 4000000 in
theorem ev_Js_indexOf1 {l : Launch} {E : aw_E} {g : AH} {n : Nat} (i : Nat) (c0 : Int32) (hi : i < 30) (hc : sp_bt c0) : EV l E 3 0 0 y_Js_indexOf1 c_Js_indexOf1 2 (some .int) g n [.ref (E.2.2.2.1 i), .int c0] (aw_Pi (fun r_ g2 n2 => r_ = sp_ixF c0 (st_b i) 0 ∧ g2 = g ∧ n2 = n)) := by
  refine aw_enter "java/lang/String" [some (.ref (E.2.2.2.1 i)), some (.int c0)] (by decide) rfl rfl (Nat.le_of_ble_eq_true rfl) ?_
  intro p e s m args below meth c S hnm
  refine aw_aload_0 S d_Js_indexOf1_0 ?_
  refine aw_iload_1 S d_Js_indexOf1_1 ?_
  refine aw_iconst (v := 0) S d_Js_indexOf1_2 (by decide) ?_
  refine aw_callJiR S (ev_Js_indexOf2 i c0 hi hc) mb_Js_indexOf2 mi_Js_indexOf2 n_ml_Js_633 d_Js_indexOf1_3 hi rfl rfl rfl ?_
  refine aw_iret S rfl d_Js_indexOf1_6 ?_ (by decide) (by decide)
  exact ⟨rfl, rfl, rfl⟩
