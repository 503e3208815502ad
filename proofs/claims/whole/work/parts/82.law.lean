/-! THE LAW'S LOOP -/
theorem AtF.keep {E : aw_E} {g g2 : AH} {o L K : Nat} {tb pb : Nat → Nat} {tape pr : List Int32} {bt : Int32} (h : AtF E g o tb pb tape L bt K pr) (hf : ∀ x, o ≤ x → x < o + 25 → g2 x = g x) : AtF E g2 o tb pb tape L bt K pr := by
  obtain ⟨a1, a2, a3, a4, ⟨a5, ft, a6, a7⟩, ⟨a8, fp, a9, a10⟩, ⟨w, a11⟩, ⟨r1, f1, f2, y1, y2, y3, y4⟩, ⟨r2, f3, f4, z1, z2, z3, z4⟩, a14, zs, a15⟩ := h
  have k : ∀ j, j < 25 → g2 (o + j) = g (o + j) := fun j hj => hf _ (by omega) (by omega)
  exact ⟨a1, (k 0 (by decide)).trans a2, a3.keep (k 1 (by decide)) (k 2 (by decide)), a4.keep (k 3 (by decide)) (k 4 (by decide)), ⟨a5, ft, (k 5 (by decide)).trans a6, a7⟩, ⟨a8, fp, (k 6 (by decide)).trans a9, a10⟩, ⟨w, a11.keep (fun x q1 q2 => hf x (by omega) (by omega))⟩, ⟨r1, f1, f2, y1, (k 12 (by decide)).trans y2, (k 13 (by decide)).trans y3, (k 14 (by decide)).trans y4⟩, ⟨r2, f3, f4, z1, (k 17 (by decide)).trans z2, (k 18 (by decide)).trans z3, (k 19 (by decide)).trans z4⟩, (k 22 (by decide)).trans a14, zs, a15.keep (k 23 (by decide)) (k 24 (by decide))⟩
theorem AtS.keep {E : aw_E} {g g2 : AH} {n o : Nat} {tb pb : Nat → Nat} {tape pr : List Int32} {ts : List Tmv} {bt : Int32} {ps : List Pfv} (h : AtS E g n o tb pb tape ts bt ps pr) (hf : aw_fr g g2 (o + 25) 21) : AtS E g2 n o tb pb tape ts bt ps pr :=
  ⟨h.1.keep (fun x h1 h2 => hf x (by omega)), h.2.fr (fun x h1 h2 => hf x (by omega))⟩
theorem AtS.bts {E : aw_E} {g : AH} {n o : Nat} {tb pb : Nat → Nat} {tape pr : List Int32} {ts : List Tmv} {bt : Int32} {ps : List Pfv} (h : AtS E g n o tb pb tape ts bt ps pr) : okBt ts := by
  intro i hi
  obtain ⟨-, -, N1, N2, q⟩ := h.2.2.1 i hi
  exact ⟨q.2.2.1.bts, q.2.2.2.bts⟩
theorem AtS.prb {E : aw_E} {g : AH} {n o : Nat} {tb pb : Nat → Nat} {tape pr : List Int32} {ts : List Tmv} {bt : Int32} {ps : List Pfv} (h : AtS E g n o tb pb tape ts bt ps pr) : ∀ x ∈ pr, sp_bt x := h.1.2.2.2.1.bts
theorem mG.re {E : aw_E} {g0 g g2 : AH} {d : Nat} {v : Nat → Int32} {f : Nat → Nat → Int32} (h : mG E g0 d v f g) (hf : ∀ x, d ≤ x → x < d + 21 → g2 x = g x) : mG E g2 d v f g2 :=
  ⟨h.1, (hf d (by omega) (by omega)).trans h.2.1, fun k hk => (hf _ (by omega) (by omega)).trans (h.2.2.1 k hk), aw_fr.rf⟩
/-- class and reference say the same -/
def LI (E : aw_E) (o : Nat) (g : AH) (n : Nat) : Prop := ∃ (tb pb : Nat → Nat) (tape : List Int32) (ts : List Tmv) (bt : Int32) (ps : List Pfv) (pr : List Int32), AtS E g n o tb pb tape ts bt ps pr ∧ (∃ v f, mG E g (o + 25) v f g ∧ mSt v f tape ts bt ps pr) ∧ INV tape ts bt ps
theorem LI.mk {E : aw_E} {o n : Nat} {g2 g3 : AH} {tb pb : Nat → Nat} {tape : List Int32} {ts : List Tmv} {bt : Int32} {ps : List Pfv} {pr : List Int32} (h : AtS E g2 n o tb pb tape ts bt ps pr) (hm : mS E g2 (o + 25) g3 tape ts bt ps pr) (hI : INV tape ts bt ps) : LI E o g3 n := by
  obtain ⟨v, f, h1, h2⟩ := hm
  exact ⟨tb, pb, tape, ts, bt, ps, pr, h.keep h1.2.2.2, ⟨v, f, h1.re (fun _ _ _ => rfl), h2⟩, hI⟩
section LawRows
variable {p : Program} {l : Launch} {e : Env} {R : Room} {s : State} {m : MethodId} {args : Array Value} {below : List Frame} {meth : Method} {c : Code} {E : aw_E} {cc : ByteArray} {nL : Nat} {own : String} {ret : Option FieldType} {Q : State → Prop} {mc ms : Nat} {g : AH} {n pc : Nat} {lv : List (Option Value)} {st : List Value} {b L : Nat} {xs : Nat → Int32}
theorem aw_sld {j : Nat} (S : aw_C p s m args meth c E cc nL own ret) (hX : va_X b L xs s s.heap) (hbl : b < s.heap.size) (hE : E.2.2.1 = s.heap.size) (hL : L ≤ 2048) (hj : j < L) (hd : decode cc pc = .ok (.iaload, 1)) (kk : AW p l e R s m args below meth c E nL Q mc ms g n (pc + 1) lv (.int (xs j) :: st)) : AW p l e R s m args below meth c E nL Q mc ms g n pc lv (.int (nI j) :: .ref b :: st) := by
  intro H locs ls hR hS hl
  refine va_sld S.1.1 S.1.2.1 hX hbl (show ¬ E.2.2.1 ≤ b by omega) hS (vp_in_nI hj (by omega)) hd ?_
  rw [nI_clamp (by omega)]
  exact kk H locs ls hR hS hl
theorem aw_slen2 (S : aw_C p s m args meth c E cc nL own ret) (hX : va_X b L xs s s.heap) (hbl : b < s.heap.size) (hE : E.2.2.1 = s.heap.size) (hd : decode cc pc = .ok (.arraylength, 1)) (kk : AW p l e R s m args below meth c E nL Q mc ms g n (pc + 1) lv (.int (nI L) :: st)) : AW p l e R s m args below meth c E nL Q mc ms g n pc lv (.ref b :: st) :=
  fun H locs ls hR hS hl => va_slen S.1.1 S.1.2.1 hX hbl (show ¬ E.2.2.1 ≤ b by omega) hS hd (kk H locs ls hR hS hl)
end LawRows
theorem lw_gt {L k : Nat} (hL : L ≤ 2048) (hk : k ≤ 4096) : nI L - 4 < nI k ↔ L < k + 4 := by
  rcases Nat.lt_or_ge L 4 with h | h
  · have : ∀ L, L < 4 → nI L - 4 < 0 := by decide +kernel
    exact ⟨fun _ => by omega, fun _ => Int32.lt_of_lt_of_le (this L h) (nI_pos' (by omega))⟩
  · rw [show (4 : Int32) = nI 4 from rfl, nI_subt h, nI_ltI (by omega) (by omega)]
    omega
set_option maxRecDepth 100000 in
set_option maxHeartbeats 4000000 in
theorem lw_type {p : Program} {e : Env} {s : State} {m : MethodId} {below : List Frame} {meth : Method} {c : Code} {l : Launch} {b L : Nat} {xs : Nat → Int32} {E : aw_E} {o k n : Nat} {g : AH} (S : aw_C p s m #[Value.ref b] meth c E code 4 "AddressTermsLaw" ret) (hX : va_X b L xs s s.heap) (hbl : b < s.heap.size) (hE : E.2.2.1 = s.heap.size) (hL : L ≤ 2048) (hk : 4 * k + 4 ≤ L) (hLI : LI E o g n) (s523 : ∀ (g : AH) (n : Nat), LI E o g n → AW p l e room_1 s m #[Value.ref b] below meth c E 4 (lw_Z below #[Value.ref b] s) (46 + 5 * k + 5) (16000 + 2009 * k + 2009) g n 523 [some (.ref b), some (.ref o), some (.ref (o + 25)), some (.int (nI (4 * k)))] []) : AW p l e room_1 s m #[Value.ref b] below meth c E 4 (lw_Z below #[Value.ref b] s) (46 + 5 * k) (16000 + 2009 * k) g n 108 [some (.ref b), some (.ref o), some (.ref (o + 25)), some (.int (nI (4 * k)))] [] := by
  obtain ⟨tb, pb, tape, ts, bt, ps, pr, hS, ⟨v, f, hM, hs⟩, hI⟩ := hLI
  have tl := hs.1.1
  have nl := hs.2.1.1
  refine aw_aload_1 S d_Lw_law_108 ?_
  refine aw_aload_0 S d_Lw_law_109 ?_
  refine aw_iload_3 S d_Lw_law_110 ?_
  refine aw_iconst (v := 1) S d_Lw_law_111 (by decide) ?_
  refine aw_iadd S d_Lw_law_112 ?_
  refine aw_topi (nI_1 _) ?_
  refine aw_sld S hX hbl hE hL (by omega) d_Lw_law_113 ?_
  refine aw_i2l S d_Lw_law_114 ?_
  refine aw_bipush (v := 32) S d_Lw_law_115 (by decide) ?_
  refine aw_lshl S d_Lw_law_117 ?_
  refine aw_aload_0 S d_Lw_law_118 ?_
  refine aw_iload_3 S d_Lw_law_119 ?_
  refine aw_iconst (v := 2) S d_Lw_law_120 (by decide) ?_
  refine aw_iadd S d_Lw_law_121 ?_
  refine aw_topi (nI_add _ 2) ?_
  refine aw_sld S hX hbl hE hL (by omega) d_Lw_law_122 ?_
  refine aw_i2l S d_Lw_law_123 ?_
  refine aw_ldc2 S n_ct_Lw_13 d_Lw_law_124 ?_
  refine aw_land S d_Lw_law_127 ?_
  refine aw_lor S d_Lw_law_128 ?_
  refine aw_aload_0 S d_Lw_law_129 ?_
  refine aw_iload_3 S d_Lw_law_130 ?_
  refine aw_iconst (v := 3) S d_Lw_law_131 (by decide) ?_
  refine aw_iadd S d_Lw_law_132 ?_
  refine aw_topi (nI_add _ 3) ?_
  refine aw_sld S hX hbl hE hL (by omega) d_Lw_law_133 ?_
  refine aw_callViA S (46 + 5 * k + 5) (16000 + 2009 * k + 2009) (ev_At_type _ _ hS) mb_At_type mi_At_type n_ml_Lw_15 d_Lw_law_134 I_At hS.1.2.1 rfl rfl rfl (fun v_ g2_ n2_ h_ => ?_) (hm := ⟨by omega, by omega, by show _ ≤ 600000; omega, by show _ ≤ 7302250; omega⟩)
  obtain ⟨rfl, tb2, pb2, hS2, hmd⟩ := h_
  have hM2 : mG E g2_ (o + 25) v f g2_ := hM.re (fun x q1 q2 => hmd x q1 (by omega))
  refine aw_aload_2 S d_Lw_law_137 ?_
  refine aw_aload_0 S d_Lw_law_138 ?_
  refine aw_iload_3 S d_Lw_law_139 ?_
  refine aw_iconst (v := 1) S d_Lw_law_140 (by decide) ?_
  refine aw_iadd S d_Lw_law_141 ?_
  refine aw_topi (nI_1 _) ?_
  refine aw_sld S hX hbl hE hL (by omega) d_Lw_law_142 ?_
  refine aw_i2l S d_Lw_law_143 ?_
  refine aw_bipush (v := 32) S d_Lw_law_144 (by decide) ?_
  refine aw_lshl S d_Lw_law_146 ?_
  refine aw_aload_0 S d_Lw_law_147 ?_
  refine aw_iload_3 S d_Lw_law_148 ?_
  refine aw_iconst (v := 2) S d_Lw_law_149 (by decide) ?_
  refine aw_iadd S d_Lw_law_150 ?_
  refine aw_topi (nI_add _ 2) ?_
  refine aw_sld S hX hbl hE hL (by omega) d_Lw_law_151 ?_
  refine aw_i2l S d_Lw_law_152 ?_
  refine aw_ldc2 S n_ct_Lw_13 d_Lw_law_153 ?_
  refine aw_land S d_Lw_law_156 ?_
  refine aw_lor S d_Lw_law_157 ?_
  refine aw_aload_0 S d_Lw_law_158 ?_
  refine aw_iload_3 S d_Lw_law_159 ?_
  refine aw_iconst (v := 3) S d_Lw_law_160 (by decide) ?_
  refine aw_iadd S d_Lw_law_161 ?_
  refine aw_topi (nI_add _ 3) ?_
  refine aw_sld S hX hbl hE hL (by omega) d_Lw_law_162 ?_
  refine aw_callVi0 S (ev_Md_type _ _ hM2 hs) mb_Md_type mi_Md_type n_ml_Lw_19 d_Lw_law_163 I_Md hM2.2.1 rfl rfl rfl (fun v_ g2_ n2_ h_ => ?_) (hc := ⟨by show _ ≤ 600000; omega, by show _ ≤ 7302250; omega⟩)
  obtain ⟨rfl, rfl, hm⟩ := h_
  refine aw_icmp_eq S 523 d_Lw_law_166 (by decide) (fun c166 => ?_) (fun c166 => ?_)
  · exact s523 _ _ (LI.mk hS2 hm (hI.type _ _))
  · exact absurd rfl c166
set_option maxRecDepth 100000 in
set_option maxHeartbeats 4000000 in
theorem lw_resolve {p : Program} {e : Env} {s : State} {m : MethodId} {below : List Frame} {meth : Method} {c : Code} {l : Launch} {b L : Nat} {xs : Nat → Int32} {E : aw_E} {o k n : Nat} {g : AH} (S : aw_C p s m #[Value.ref b] meth c E code 4 "AddressTermsLaw" ret) (hX : va_X b L xs s s.heap) (hbl : b < s.heap.size) (hE : E.2.2.1 = s.heap.size) (hL : L ≤ 2048) (hk : 4 * k + 4 ≤ L) (hLI : LI E o g n) (s523 : ∀ (g : AH) (n : Nat), LI E o g n → AW p l e room_1 s m #[Value.ref b] below meth c E 4 (lw_Z below #[Value.ref b] s) (46 + 5 * k + 5) (16000 + 2009 * k + 2009) g n 523 [some (.ref b), some (.ref o), some (.ref (o + 25)), some (.int (nI (4 * k)))] []) : AW p l e room_1 s m #[Value.ref b] below meth c E 4 (lw_Z below #[Value.ref b] s) (46 + 5 * k) (16000 + 2009 * k) g n 171 [some (.ref b), some (.ref o), some (.ref (o + 25)), some (.int (nI (4 * k)))] [] := by
  obtain ⟨tb, pb, tape, ts, bt, ps, pr, hS, ⟨v, f, hM, hs⟩, hI⟩ := hLI
  have tl := hs.1.1
  have nl := hs.2.1.1
  refine aw_aload_1 S d_Lw_law_171 ?_
  refine aw_callViA S (46 + 5 * k + 5) (16000 + 2009 * k + 2009) (ev_At_resolve hS hI.2.1.a) mb_At_resolve mi_At_resolve n_ml_Lw_20 d_Lw_law_172 I_At hS.1.2.1 rfl rfl rfl (fun v_ g2_ n2_ h_ => ?_) (hm := ⟨by omega, by omega, by show _ ≤ 600000; omega, by show _ ≤ 7302250; omega⟩)
  obtain ⟨rfl, tb2, pb2, hS2, hmd⟩ := h_
  have hM2 : mG E g2_ (o + 25) v f g2_ := hM.re (fun x q1 q2 => hmd x q1 (by omega))
  refine aw_aload_2 S d_Lw_law_175 ?_
  refine aw_callVi0 S (ev_Md_resolve hM2 hs hI.2.1 hI.2.2.2.2) mb_Md_resolve mi_Md_resolve n_ml_Lw_24 d_Lw_law_176 I_Md hM2.2.1 rfl rfl rfl (fun v_ g2_ n2_ h_ => ?_) (hc := ⟨by show _ ≤ 600000; omega, by show _ ≤ 7302250; omega⟩)
  obtain ⟨rfl, rfl, hm⟩ := h_
  refine aw_icmp_eq S 523 d_Lw_law_179 (by decide) (fun c179 => ?_) (fun c179 => ?_)
  · exact s523 _ _ (LI.mk hS2 hm (hI.resolve nl tl))
  · exact absurd rfl c179
set_option maxRecDepth 100000 in
set_option maxHeartbeats 4000000 in
theorem lw_base {p : Program} {e : Env} {s : State} {m : MethodId} {below : List Frame} {meth : Method} {c : Code} {l : Launch} {b L : Nat} {xs : Nat → Int32} {E : aw_E} {o k n : Nat} {g : AH} (S : aw_C p s m #[Value.ref b] meth c E code 4 "AddressTermsLaw" ret) (hX : va_X b L xs s s.heap) (hbl : b < s.heap.size) (hE : E.2.2.1 = s.heap.size) (hL : L ≤ 2048) (hk : 4 * k + 4 ≤ L) (hLI : LI E o g n) (s523 : ∀ (g : AH) (n : Nat), LI E o g n → AW p l e room_1 s m #[Value.ref b] below meth c E 4 (lw_Z below #[Value.ref b] s) (46 + 5 * k + 5) (16000 + 2009 * k + 2009) g n 523 [some (.ref b), some (.ref o), some (.ref (o + 25)), some (.int (nI (4 * k)))] []) : AW p l e room_1 s m #[Value.ref b] below meth c E 4 (lw_Z below #[Value.ref b] s) (46 + 5 * k) (16000 + 2009 * k) g n 184 [some (.ref b), some (.ref o), some (.ref (o + 25)), some (.int (nI (4 * k)))] [] := by
  obtain ⟨tb, pb, tape, ts, bt, ps, pr, hS, ⟨v, f, hM, hs⟩, hI⟩ := hLI
  have tl := hs.1.1
  have nl := hs.2.1.1
  refine aw_aload_1 S d_Lw_law_184 ?_
  refine aw_aload_0 S d_Lw_law_185 ?_
  refine aw_iload_3 S d_Lw_law_186 ?_
  refine aw_iconst (v := 1) S d_Lw_law_187 (by decide) ?_
  refine aw_iadd S d_Lw_law_188 ?_
  refine aw_topi (nI_1 _) ?_
  refine aw_sld S hX hbl hE hL (by omega) d_Lw_law_189 ?_
  refine aw_callViA S (46 + 5 * k + 5) (16000 + 2009 * k + 2009) (ev_At_base _ hS) mb_At_base mi_At_base n_ml_Lw_25 d_Lw_law_190 I_At hS.1.2.1 rfl rfl rfl (fun v_ g2_ n2_ h_ => ?_) (hm := ⟨by omega, by omega, by show _ ≤ 600000; omega, by show _ ≤ 7302250; omega⟩)
  obtain ⟨rfl, tb2, pb2, hS2, hmd⟩ := h_
  have hM2 : mG E g2_ (o + 25) v f g2_ := hM.re (fun x q1 q2 => hmd x q1 (by omega))
  refine aw_aload_2 S d_Lw_law_193 ?_
  refine aw_aload_0 S d_Lw_law_194 ?_
  refine aw_iload_3 S d_Lw_law_195 ?_
  refine aw_iconst (v := 1) S d_Lw_law_196 (by decide) ?_
  refine aw_iadd S d_Lw_law_197 ?_
  refine aw_topi (nI_1 _) ?_
  refine aw_sld S hX hbl hE hL (by omega) d_Lw_law_198 ?_
  refine aw_callVi0 S (ev_Md_base _ hM2 hs) mb_Md_base mi_Md_base n_ml_Lw_29 d_Lw_law_199 I_Md hM2.2.1 rfl rfl rfl (fun v_ g2_ n2_ h_ => ?_) (hc := ⟨by show _ ≤ 600000; omega, by show _ ≤ 7302250; omega⟩)
  obtain ⟨rfl, rfl, hm⟩ := h_
  refine aw_icmp_eq S 523 d_Lw_law_202 (by decide) (fun c202 => ?_) (fun c202 => ?_)
  · exact s523 _ _ (LI.mk hS2 hm (hI.base _))
  · exact absurd rfl c202
set_option maxRecDepth 100000 in
set_option maxHeartbeats 4000000 in
theorem lw_label {p : Program} {e : Env} {s : State} {m : MethodId} {below : List Frame} {meth : Method} {c : Code} {l : Launch} {b L : Nat} {xs : Nat → Int32} {E : aw_E} {o k n : Nat} {g : AH} (S : aw_C p s m #[Value.ref b] meth c E code 4 "AddressTermsLaw" ret) (hX : va_X b L xs s s.heap) (hbl : b < s.heap.size) (hE : E.2.2.1 = s.heap.size) (hL : L ≤ 2048) (hk : 4 * k + 4 ≤ L) (hLI : LI E o g n) (s523 : ∀ (g : AH) (n : Nat), LI E o g n → AW p l e room_1 s m #[Value.ref b] below meth c E 4 (lw_Z below #[Value.ref b] s) (46 + 5 * k + 5) (16000 + 2009 * k + 2009) g n 523 [some (.ref b), some (.ref o), some (.ref (o + 25)), some (.int (nI (4 * k)))] []) : AW p l e room_1 s m #[Value.ref b] below meth c E 4 (lw_Z below #[Value.ref b] s) (46 + 5 * k) (16000 + 2009 * k) g n 207 [some (.ref b), some (.ref o), some (.ref (o + 25)), some (.int (nI (4 * k)))] [] := by
  obtain ⟨tb, pb, tape, ts, bt, ps, pr, hS, ⟨v, f, hM, hs⟩, hI⟩ := hLI
  have tl := hs.1.1
  have nl := hs.2.1.1
  refine aw_aload_1 S d_Lw_law_207 ?_
  refine aw_aload_0 S d_Lw_law_208 ?_
  refine aw_iload_3 S d_Lw_law_209 ?_
  refine aw_iconst (v := 1) S d_Lw_law_210 (by decide) ?_
  refine aw_iadd S d_Lw_law_211 ?_
  refine aw_topi (nI_1 _) ?_
  refine aw_sld S hX hbl hE hL (by omega) d_Lw_law_212 ?_
  refine aw_callViA S (46 + 5 * k + 5) (16000 + 2009 * k + 2009) (ev_At_label _ hS) mb_At_label mi_At_label n_ml_Lw_30 d_Lw_law_213 I_At hS.1.2.1 rfl rfl rfl (fun v_ g2_ n2_ h_ => ?_) (hm := ⟨by omega, by omega, by show _ ≤ 600000; omega, by show _ ≤ 7302250; omega⟩)
  obtain ⟨rfl, tb2, pb2, hS2, hmd⟩ := h_
  have hM2 : mG E g2_ (o + 25) v f g2_ := hM.re (fun x q1 q2 => hmd x q1 (by omega))
  refine aw_aload_2 S d_Lw_law_216 ?_
  refine aw_aload_0 S d_Lw_law_217 ?_
  refine aw_iload_3 S d_Lw_law_218 ?_
  refine aw_iconst (v := 1) S d_Lw_law_219 (by decide) ?_
  refine aw_iadd S d_Lw_law_220 ?_
  refine aw_topi (nI_1 _) ?_
  refine aw_sld S hX hbl hE hL (by omega) d_Lw_law_221 ?_
  refine aw_callVi0 S (ev_Md_label _ hM2 hs (find_eq hI.2.1 (Or.inr (Or.inl ⟨rfl, rfl⟩)))) mb_Md_label mi_Md_label n_ml_Lw_33 d_Lw_law_222 I_Md hM2.2.1 rfl rfl rfl (fun v_ g2_ n2_ h_ => ?_) (hc := ⟨by show _ ≤ 600000; omega, by show _ ≤ 7302250; omega⟩)
  obtain ⟨rfl, rfl, hm⟩ := h_
  refine aw_icmp_eq S 523 d_Lw_law_225 (by decide) (fun c225 => ?_) (fun c225 => ?_)
  · exact s523 _ _ (LI.mk hS2 hm (hI.label nl _))
  · exact absurd rfl c225
set_option maxRecDepth 100000 in
set_option maxHeartbeats 4000000 in
theorem lw_literal {p : Program} {e : Env} {s : State} {m : MethodId} {below : List Frame} {meth : Method} {c : Code} {l : Launch} {b L : Nat} {xs : Nat → Int32} {E : aw_E} {o k n : Nat} {g : AH} (S : aw_C p s m #[Value.ref b] meth c E code 4 "AddressTermsLaw" ret) (hX : va_X b L xs s s.heap) (hbl : b < s.heap.size) (hE : E.2.2.1 = s.heap.size) (hL : L ≤ 2048) (hk : 4 * k + 4 ≤ L) (hLI : LI E o g n) (s523 : ∀ (g : AH) (n : Nat), LI E o g n → AW p l e room_1 s m #[Value.ref b] below meth c E 4 (lw_Z below #[Value.ref b] s) (46 + 5 * k + 5) (16000 + 2009 * k + 2009) g n 523 [some (.ref b), some (.ref o), some (.ref (o + 25)), some (.int (nI (4 * k)))] []) : AW p l e room_1 s m #[Value.ref b] below meth c E 4 (lw_Z below #[Value.ref b] s) (46 + 5 * k) (16000 + 2009 * k) g n 230 [some (.ref b), some (.ref o), some (.ref (o + 25)), some (.int (nI (4 * k)))] [] := by
  obtain ⟨tb, pb, tape, ts, bt, ps, pr, hS, ⟨v, f, hM, hs⟩, hI⟩ := hLI
  have tl := hs.1.1
  have nl := hs.2.1.1
  refine aw_aload_1 S d_Lw_law_230 ?_
  refine aw_aload_0 S d_Lw_law_231 ?_
  refine aw_iload_3 S d_Lw_law_232 ?_
  refine aw_iconst (v := 1) S d_Lw_law_233 (by decide) ?_
  refine aw_iadd S d_Lw_law_234 ?_
  refine aw_topi (nI_1 _) ?_
  refine aw_sld S hX hbl hE hL (by omega) d_Lw_law_235 ?_
  refine aw_callViA S (46 + 5 * k + 5) (16000 + 2009 * k + 2009) (ev_At_literal _ hS) mb_At_literal mi_At_literal n_ml_Lw_34 d_Lw_law_236 I_At hS.1.2.1 rfl rfl rfl (fun v_ g2_ n2_ h_ => ?_) (hm := ⟨by omega, by omega, by show _ ≤ 600000; omega, by show _ ≤ 7302250; omega⟩)
  obtain ⟨rfl, tb2, pb2, hS2, hmd⟩ := h_
  have hM2 : mG E g2_ (o + 25) v f g2_ := hM.re (fun x q1 q2 => hmd x q1 (by omega))
  refine aw_aload_2 S d_Lw_law_239 ?_
  refine aw_aload_0 S d_Lw_law_240 ?_
  refine aw_iload_3 S d_Lw_law_241 ?_
  refine aw_iconst (v := 1) S d_Lw_law_242 (by decide) ?_
  refine aw_iadd S d_Lw_law_243 ?_
  refine aw_topi (nI_1 _) ?_
  refine aw_sld S hX hbl hE hL (by omega) d_Lw_law_244 ?_
  refine aw_callVi0 S (ev_Md_literal _ hM2 hs hI.2.1 hI.1.bt) mb_Md_literal mi_Md_literal n_ml_Lw_37 d_Lw_law_245 I_Md hM2.2.1 rfl rfl rfl (fun v_ g2_ n2_ h_ => ?_) (hc := ⟨by show _ ≤ 600000; omega, by show _ ≤ 7302250; omega⟩)
  obtain ⟨rfl, rfl, hm⟩ := h_
  refine aw_icmp_eq S 523 d_Lw_law_248 (by decide) (fun c248 => ?_) (fun c248 => ?_)
  · exact s523 _ _ (LI.mk hS2 hm (hI.literal nl _))
  · exact absurd rfl c248
set_option maxRecDepth 100000 in
set_option maxHeartbeats 4000000 in
theorem lw_tagged {p : Program} {e : Env} {s : State} {m : MethodId} {below : List Frame} {meth : Method} {c : Code} {l : Launch} {b L : Nat} {xs : Nat → Int32} {E : aw_E} {o k n : Nat} {g : AH} (S : aw_C p s m #[Value.ref b] meth c E code 4 "AddressTermsLaw" ret) (hX : va_X b L xs s s.heap) (hbl : b < s.heap.size) (hE : E.2.2.1 = s.heap.size) (hL : L ≤ 2048) (hk : 4 * k + 4 ≤ L) (hLI : LI E o g n) (s523 : ∀ (g : AH) (n : Nat), LI E o g n → AW p l e room_1 s m #[Value.ref b] below meth c E 4 (lw_Z below #[Value.ref b] s) (46 + 5 * k + 5) (16000 + 2009 * k + 2009) g n 523 [some (.ref b), some (.ref o), some (.ref (o + 25)), some (.int (nI (4 * k)))] []) : AW p l e room_1 s m #[Value.ref b] below meth c E 4 (lw_Z below #[Value.ref b] s) (46 + 5 * k) (16000 + 2009 * k) g n 253 [some (.ref b), some (.ref o), some (.ref (o + 25)), some (.int (nI (4 * k)))] [] := by
  obtain ⟨tb, pb, tape, ts, bt, ps, pr, hS, ⟨v, f, hM, hs⟩, hI⟩ := hLI
  have tl := hs.1.1
  have nl := hs.2.1.1
  refine aw_aload_1 S d_Lw_law_253 ?_
  refine aw_aload_0 S d_Lw_law_254 ?_
  refine aw_iload_3 S d_Lw_law_255 ?_
  refine aw_iconst (v := 1) S d_Lw_law_256 (by decide) ?_
  refine aw_iadd S d_Lw_law_257 ?_
  refine aw_topi (nI_1 _) ?_
  refine aw_sld S hX hbl hE hL (by omega) d_Lw_law_258 ?_
  refine aw_callViA S (46 + 5 * k + 5) (16000 + 2009 * k + 2009) (ev_At_tagged _ hS hI.2.1.l) mb_At_tagged mi_At_tagged n_ml_Lw_38 d_Lw_law_259 I_At hS.1.2.1 rfl rfl rfl (fun v_ g2_ n2_ h_ => ?_) (hm := ⟨by omega, by omega, by show _ ≤ 600000; omega, by show _ ≤ 7302250; omega⟩)
  obtain ⟨rfl, tb2, pb2, hS2, hmd⟩ := h_
  have hM2 : mG E g2_ (o + 25) v f g2_ := hM.re (fun x q1 q2 => hmd x q1 (by omega))
  refine aw_aload_2 S d_Lw_law_262 ?_
  refine aw_aload_0 S d_Lw_law_263 ?_
  refine aw_iload_3 S d_Lw_law_264 ?_
  refine aw_iconst (v := 1) S d_Lw_law_265 (by decide) ?_
  refine aw_iadd S d_Lw_law_266 ?_
  refine aw_topi (nI_1 _) ?_
  refine aw_sld S hX hbl hE hL (by omega) d_Lw_law_267 ?_
  refine aw_callVi0 S (ev_Md_tagged _ hM2 hs hI.2.1) mb_Md_tagged mi_Md_tagged n_ml_Lw_41 d_Lw_law_268 I_Md hM2.2.1 rfl rfl rfl (fun v_ g2_ n2_ h_ => ?_) (hc := ⟨by show _ ≤ 600000; omega, by show _ ≤ 7302250; omega⟩)
  obtain ⟨rfl, rfl, hm⟩ := h_
  refine aw_icmp_eq S 523 d_Lw_law_271 (by decide) (fun c271 => ?_) (fun c271 => ?_)
  · exact s523 _ _ (LI.mk hS2 hm (hI.tagged nl _))
  · exact absurd rfl c271
set_option maxRecDepth 100000 in
set_option maxHeartbeats 4000000 in
theorem lw_prefix {p : Program} {e : Env} {s : State} {m : MethodId} {below : List Frame} {meth : Method} {c : Code} {l : Launch} {b L : Nat} {xs : Nat → Int32} {E : aw_E} {o k n : Nat} {g : AH} (S : aw_C p s m #[Value.ref b] meth c E code 4 "AddressTermsLaw" ret) (hX : va_X b L xs s s.heap) (hbl : b < s.heap.size) (hE : E.2.2.1 = s.heap.size) (hL : L ≤ 2048) (hk : 4 * k + 4 ≤ L) (hLI : LI E o g n) (s523 : ∀ (g : AH) (n : Nat), LI E o g n → AW p l e room_1 s m #[Value.ref b] below meth c E 4 (lw_Z below #[Value.ref b] s) (46 + 5 * k + 5) (16000 + 2009 * k + 2009) g n 523 [some (.ref b), some (.ref o), some (.ref (o + 25)), some (.int (nI (4 * k)))] []) : AW p l e room_1 s m #[Value.ref b] below meth c E 4 (lw_Z below #[Value.ref b] s) (46 + 5 * k) (16000 + 2009 * k) g n 276 [some (.ref b), some (.ref o), some (.ref (o + 25)), some (.int (nI (4 * k)))] [] := by
  obtain ⟨tb, pb, tape, ts, bt, ps, pr, hS, ⟨v, f, hM, hs⟩, hI⟩ := hLI
  have tl := hs.1.1
  have nl := hs.2.1.1
  refine aw_aload_1 S d_Lw_law_276 ?_
  refine aw_aload_0 S d_Lw_law_277 ?_
  refine aw_iload_3 S d_Lw_law_278 ?_
  refine aw_iconst (v := 1) S d_Lw_law_279 (by decide) ?_
  refine aw_iadd S d_Lw_law_280 ?_
  refine aw_topi (nI_1 _) ?_
  refine aw_sld S hX hbl hE hL (by omega) d_Lw_law_281 ?_
  refine aw_callViA S (46 + 5 * k + 5) (16000 + 2009 * k + 2009) (ev_At_prefix _ hS) mb_At_prefix mi_At_prefix n_ml_Lw_42 d_Lw_law_282 I_At hS.1.2.1 rfl rfl rfl (fun v_ g2_ n2_ h_ => ?_) (hm := ⟨by omega, by omega, by show _ ≤ 600000; omega, by show _ ≤ 7302250; omega⟩)
  obtain ⟨rfl, tb2, pb2, hS2, hmd⟩ := h_
  have hM2 : mG E g2_ (o + 25) v f g2_ := hM.re (fun x q1 q2 => hmd x q1 (by omega))
  refine aw_aload_2 S d_Lw_law_285 ?_
  refine aw_aload_0 S d_Lw_law_286 ?_
  refine aw_iload_3 S d_Lw_law_287 ?_
  refine aw_iconst (v := 1) S d_Lw_law_288 (by decide) ?_
  refine aw_iadd S d_Lw_law_289 ?_
  refine aw_topi (nI_1 _) ?_
  refine aw_sld S hX hbl hE hL (by omega) d_Lw_law_290 ?_
  refine aw_callVi0 S (ev_Md_prefix _ hM2 hs) mb_Md_prefix mi_Md_prefix n_ml_Lw_45 d_Lw_law_291 I_Md hM2.2.1 rfl rfl rfl (fun v_ g2_ n2_ h_ => ?_) (hc := ⟨by show _ ≤ 600000; omega, by show _ ≤ 7302250; omega⟩)
  obtain ⟨rfl, rfl, hm⟩ := h_
  refine aw_icmp_eq S 523 d_Lw_law_294 (by decide) (fun c294 => ?_) (fun c294 => ?_)
  · exact s523 _ _ (LI.mk hS2 hm (hI.pfx nl _))
  · exact absurd rfl c294
set_option maxRecDepth 100000 in
set_option maxHeartbeats 4000000 in
theorem lw_part {p : Program} {e : Env} {s : State} {m : MethodId} {below : List Frame} {meth : Method} {c : Code} {l : Launch} {b L : Nat} {xs : Nat → Int32} {E : aw_E} {o k n : Nat} {g : AH} (S : aw_C p s m #[Value.ref b] meth c E code 4 "AddressTermsLaw" ret) (hX : va_X b L xs s s.heap) (hbl : b < s.heap.size) (hE : E.2.2.1 = s.heap.size) (hL : L ≤ 2048) (hk : 4 * k + 4 ≤ L) (hLI : LI E o g n) (s523 : ∀ (g : AH) (n : Nat), LI E o g n → AW p l e room_1 s m #[Value.ref b] below meth c E 4 (lw_Z below #[Value.ref b] s) (46 + 5 * k + 5) (16000 + 2009 * k + 2009) g n 523 [some (.ref b), some (.ref o), some (.ref (o + 25)), some (.int (nI (4 * k)))] []) : AW p l e room_1 s m #[Value.ref b] below meth c E 4 (lw_Z below #[Value.ref b] s) (46 + 5 * k) (16000 + 2009 * k) g n 299 [some (.ref b), some (.ref o), some (.ref (o + 25)), some (.int (nI (4 * k)))] [] := by
  obtain ⟨tb, pb, tape, ts, bt, ps, pr, hS, ⟨v, f, hM, hs⟩, hI⟩ := hLI
  have tl := hs.1.1
  have nl := hs.2.1.1
  refine aw_aload_1 S d_Lw_law_299 ?_
  refine aw_aload_0 S d_Lw_law_300 ?_
  refine aw_iload_3 S d_Lw_law_301 ?_
  refine aw_iconst (v := 1) S d_Lw_law_302 (by decide) ?_
  refine aw_iadd S d_Lw_law_303 ?_
  refine aw_topi (nI_1 _) ?_
  refine aw_sld S hX hbl hE hL (by omega) d_Lw_law_304 ?_
  refine aw_aload_0 S d_Lw_law_305 ?_
  refine aw_iload_3 S d_Lw_law_306 ?_
  refine aw_iconst (v := 2) S d_Lw_law_307 (by decide) ?_
  refine aw_iadd S d_Lw_law_308 ?_
  refine aw_topi (nI_add _ 2) ?_
  refine aw_sld S hX hbl hE hL (by omega) d_Lw_law_309 ?_
  refine aw_callViA S (46 + 5 * k + 5) (16000 + 2009 * k + 2009) (ev_At_part _ _ hS) mb_At_part mi_At_part n_ml_Lw_46 d_Lw_law_310 I_At hS.1.2.1 rfl rfl rfl (fun v_ g2_ n2_ h_ => ?_) (hm := ⟨by omega, by omega, by show _ ≤ 600000; omega, by show _ ≤ 7302250; omega⟩)
  obtain ⟨rfl, tb2, pb2, hS2, hmd⟩ := h_
  have hM2 : mG E g2_ (o + 25) v f g2_ := hM.re (fun x q1 q2 => hmd x q1 (by omega))
  refine aw_aload_2 S d_Lw_law_313 ?_
  refine aw_aload_0 S d_Lw_law_314 ?_
  refine aw_iload_3 S d_Lw_law_315 ?_
  refine aw_iconst (v := 1) S d_Lw_law_316 (by decide) ?_
  refine aw_iadd S d_Lw_law_317 ?_
  refine aw_topi (nI_1 _) ?_
  refine aw_sld S hX hbl hE hL (by omega) d_Lw_law_318 ?_
  refine aw_aload_0 S d_Lw_law_319 ?_
  refine aw_iload_3 S d_Lw_law_320 ?_
  refine aw_iconst (v := 2) S d_Lw_law_321 (by decide) ?_
  refine aw_iadd S d_Lw_law_322 ?_
  refine aw_topi (nI_add _ 2) ?_
  refine aw_sld S hX hbl hE hL (by omega) d_Lw_law_323 ?_
  refine aw_callVi0 S (ev_Md_part _ _ hM2 hs) mb_Md_part mi_Md_part n_ml_Lw_50 d_Lw_law_324 I_Md hM2.2.1 rfl rfl rfl (fun v_ g2_ n2_ h_ => ?_) (hc := ⟨by show _ ≤ 600000; omega, by show _ ≤ 7302250; omega⟩)
  obtain ⟨rfl, rfl, hm⟩ := h_
  refine aw_icmp_eq S 523 d_Lw_law_327 (by decide) (fun c327 => ?_) (fun c327 => ?_)
  · exact s523 _ _ (LI.mk hS2 hm (hI))
  · exact absurd rfl c327
set_option maxRecDepth 100000 in
set_option maxHeartbeats 4000000 in
theorem lw_kind {p : Program} {e : Env} {s : State} {m : MethodId} {below : List Frame} {meth : Method} {c : Code} {l : Launch} {b L : Nat} {xs : Nat → Int32} {E : aw_E} {o k n : Nat} {g : AH} (S : aw_C p s m #[Value.ref b] meth c E code 4 "AddressTermsLaw" ret) (hX : va_X b L xs s s.heap) (hbl : b < s.heap.size) (hE : E.2.2.1 = s.heap.size) (hL : L ≤ 2048) (hk : 4 * k + 4 ≤ L) (hLI : LI E o g n) (s523 : ∀ (g : AH) (n : Nat), LI E o g n → AW p l e room_1 s m #[Value.ref b] below meth c E 4 (lw_Z below #[Value.ref b] s) (46 + 5 * k + 5) (16000 + 2009 * k + 2009) g n 523 [some (.ref b), some (.ref o), some (.ref (o + 25)), some (.int (nI (4 * k)))] []) : AW p l e room_1 s m #[Value.ref b] below meth c E 4 (lw_Z below #[Value.ref b] s) (46 + 5 * k) (16000 + 2009 * k) g n 332 [some (.ref b), some (.ref o), some (.ref (o + 25)), some (.int (nI (4 * k)))] [] := by
  obtain ⟨tb, pb, tape, ts, bt, ps, pr, hS, ⟨v, f, hM, hs⟩, hI⟩ := hLI
  have tl := hs.1.1
  have nl := hs.2.1.1
  refine aw_aload_1 S d_Lw_law_332 ?_
  refine aw_aload_0 S d_Lw_law_333 ?_
  refine aw_iload_3 S d_Lw_law_334 ?_
  refine aw_iconst (v := 1) S d_Lw_law_335 (by decide) ?_
  refine aw_iadd S d_Lw_law_336 ?_
  refine aw_topi (nI_1 _) ?_
  refine aw_sld S hX hbl hE hL (by omega) d_Lw_law_337 ?_
  refine aw_callViA S (46 + 5 * k + 5) (16000 + 2009 * k + 2009) (ev_At_kind _ hS.1 hS.2) mb_At_kind mi_At_kind n_ml_Lw_51 d_Lw_law_338 I_At hS.1.2.1 rfl rfl rfl (fun v_ g2_ n2_ h_ => ?_) (hm := ⟨by omega, by omega, by show _ ≤ 600000; omega, by show _ ≤ 7302250; omega⟩)
  obtain ⟨rfl, rfl, rfl⟩ := h_
  refine aw_aload_2 S d_Lw_law_341 ?_
  refine aw_aload_0 S d_Lw_law_342 ?_
  refine aw_iload_3 S d_Lw_law_343 ?_
  refine aw_iconst (v := 1) S d_Lw_law_344 (by decide) ?_
  refine aw_iadd S d_Lw_law_345 ?_
  refine aw_topi (nI_1 _) ?_
  refine aw_sld S hX hbl hE hL (by omega) d_Lw_law_346 ?_
  refine aw_callVi0 S (ev_Md_kind _ hM hs) mb_Md_kind mi_Md_kind n_ml_Lw_54 d_Lw_law_347 I_Md hM.2.1 rfl rfl rfl (fun v_ g2_ n2_ h_ => ?_) (hc := ⟨by show _ ≤ 600000; omega, by show _ ≤ 7302250; omega⟩)
  obtain ⟨rfl, rfl, rfl⟩ := h_
  refine aw_icmp_eq S 523 d_Lw_law_350 (by decide) (fun c350 => ?_) (fun c350 => ?_)
  · exact s523 _ _ ⟨tb, pb, tape, ts, bt, ps, pr, hS, ⟨v, f, hM, hs⟩, hI⟩
  · exact absurd rfl c350
set_option maxRecDepth 100000 in
set_option maxHeartbeats 4000000 in
theorem lw_sort {p : Program} {e : Env} {s : State} {m : MethodId} {below : List Frame} {meth : Method} {c : Code} {l : Launch} {b L : Nat} {xs : Nat → Int32} {E : aw_E} {o k n : Nat} {g : AH} (S : aw_C p s m #[Value.ref b] meth c E code 4 "AddressTermsLaw" ret) (hX : va_X b L xs s s.heap) (hbl : b < s.heap.size) (hE : E.2.2.1 = s.heap.size) (hL : L ≤ 2048) (hk : 4 * k + 4 ≤ L) (hLI : LI E o g n) (s523 : ∀ (g : AH) (n : Nat), LI E o g n → AW p l e room_1 s m #[Value.ref b] below meth c E 4 (lw_Z below #[Value.ref b] s) (46 + 5 * k + 5) (16000 + 2009 * k + 2009) g n 523 [some (.ref b), some (.ref o), some (.ref (o + 25)), some (.int (nI (4 * k)))] []) : AW p l e room_1 s m #[Value.ref b] below meth c E 4 (lw_Z below #[Value.ref b] s) (46 + 5 * k) (16000 + 2009 * k) g n 355 [some (.ref b), some (.ref o), some (.ref (o + 25)), some (.int (nI (4 * k)))] [] := by
  obtain ⟨tb, pb, tape, ts, bt, ps, pr, hS, ⟨v, f, hM, hs⟩, hI⟩ := hLI
  have tl := hs.1.1
  have nl := hs.2.1.1
  refine aw_aload_1 S d_Lw_law_355 ?_
  refine aw_aload_0 S d_Lw_law_356 ?_
  refine aw_iload_3 S d_Lw_law_357 ?_
  refine aw_iconst (v := 1) S d_Lw_law_358 (by decide) ?_
  refine aw_iadd S d_Lw_law_359 ?_
  refine aw_topi (nI_1 _) ?_
  refine aw_sld S hX hbl hE hL (by omega) d_Lw_law_360 ?_
  refine aw_callViA S (46 + 5 * k + 5) (16000 + 2009 * k + 2009) (ev_At_sort _ hS.1 hS.2) mb_At_sort mi_At_sort n_ml_Lw_55 d_Lw_law_361 I_At hS.1.2.1 rfl rfl rfl (fun v_ g2_ n2_ h_ => ?_) (hm := ⟨by omega, by omega, by show _ ≤ 600000; omega, by show _ ≤ 7302250; omega⟩)
  obtain ⟨rfl, rfl, rfl⟩ := h_
  refine aw_aload_2 S d_Lw_law_364 ?_
  refine aw_aload_0 S d_Lw_law_365 ?_
  refine aw_iload_3 S d_Lw_law_366 ?_
  refine aw_iconst (v := 1) S d_Lw_law_367 (by decide) ?_
  refine aw_iadd S d_Lw_law_368 ?_
  refine aw_topi (nI_1 _) ?_
  refine aw_sld S hX hbl hE hL (by omega) d_Lw_law_369 ?_
  refine aw_callVi0 S (ev_Md_sort _ hM hs) mb_Md_sort mi_Md_sort n_ml_Lw_58 d_Lw_law_370 I_Md hM.2.1 rfl rfl rfl (fun v_ g2_ n2_ h_ => ?_) (hc := ⟨by show _ ≤ 600000; omega, by show _ ≤ 7302250; omega⟩)
  obtain ⟨rfl, rfl, rfl⟩ := h_
  refine aw_icmp_eq S 523 d_Lw_law_373 (by decide) (fun c373 => ?_) (fun c373 => ?_)
  · exact s523 _ _ ⟨tb, pb, tape, ts, bt, ps, pr, hS, ⟨v, f, hM, hs⟩, hI⟩
  · exact absurd rfl c373
set_option maxRecDepth 100000 in
set_option maxHeartbeats 4000000 in
theorem lw_alike {p : Program} {e : Env} {s : State} {m : MethodId} {below : List Frame} {meth : Method} {c : Code} {l : Launch} {b L : Nat} {xs : Nat → Int32} {E : aw_E} {o k n : Nat} {g : AH} (S : aw_C p s m #[Value.ref b] meth c E code 4 "AddressTermsLaw" ret) (hX : va_X b L xs s s.heap) (hbl : b < s.heap.size) (hE : E.2.2.1 = s.heap.size) (hL : L ≤ 2048) (hk : 4 * k + 4 ≤ L) (hLI : LI E o g n) (s523 : ∀ (g : AH) (n : Nat), LI E o g n → AW p l e room_1 s m #[Value.ref b] below meth c E 4 (lw_Z below #[Value.ref b] s) (46 + 5 * k + 5) (16000 + 2009 * k + 2009) g n 523 [some (.ref b), some (.ref o), some (.ref (o + 25)), some (.int (nI (4 * k)))] []) : AW p l e room_1 s m #[Value.ref b] below meth c E 4 (lw_Z below #[Value.ref b] s) (46 + 5 * k) (16000 + 2009 * k) g n 378 [some (.ref b), some (.ref o), some (.ref (o + 25)), some (.int (nI (4 * k)))] [] := by
  obtain ⟨tb, pb, tape, ts, bt, ps, pr, hS, ⟨v, f, hM, hs⟩, hI⟩ := hLI
  have tl := hs.1.1
  have nl := hs.2.1.1
  refine aw_aload_1 S d_Lw_law_378 ?_
  refine aw_aload_0 S d_Lw_law_379 ?_
  refine aw_iload_3 S d_Lw_law_380 ?_
  refine aw_iconst (v := 1) S d_Lw_law_381 (by decide) ?_
  refine aw_iadd S d_Lw_law_382 ?_
  refine aw_topi (nI_1 _) ?_
  refine aw_sld S hX hbl hE hL (by omega) d_Lw_law_383 ?_
  refine aw_aload_0 S d_Lw_law_384 ?_
  refine aw_iload_3 S d_Lw_law_385 ?_
  refine aw_iconst (v := 2) S d_Lw_law_386 (by decide) ?_
  refine aw_iadd S d_Lw_law_387 ?_
  refine aw_topi (nI_add _ 2) ?_
  refine aw_sld S hX hbl hE hL (by omega) d_Lw_law_388 ?_
  refine aw_callViA S (46 + 5 * k + 5) (16000 + 2009 * k + 2009) (ev_At_alike _ _ hS.1 hS.2) mb_At_alike mi_At_alike n_ml_Lw_59 d_Lw_law_389 I_At hS.1.2.1 rfl rfl rfl (fun v_ g2_ n2_ h_ => ?_) (hm := ⟨by omega, by omega, by show _ ≤ 600000; omega, by show _ ≤ 7302250; omega⟩)
  obtain ⟨rfl, rfl, rfl⟩ := h_
  refine aw_aload_2 S d_Lw_law_392 ?_
  refine aw_aload_0 S d_Lw_law_393 ?_
  refine aw_iload_3 S d_Lw_law_394 ?_
  refine aw_iconst (v := 1) S d_Lw_law_395 (by decide) ?_
  refine aw_iadd S d_Lw_law_396 ?_
  refine aw_topi (nI_1 _) ?_
  refine aw_sld S hX hbl hE hL (by omega) d_Lw_law_397 ?_
  refine aw_aload_0 S d_Lw_law_398 ?_
  refine aw_iload_3 S d_Lw_law_399 ?_
  refine aw_iconst (v := 2) S d_Lw_law_400 (by decide) ?_
  refine aw_iadd S d_Lw_law_401 ?_
  refine aw_topi (nI_add _ 2) ?_
  refine aw_sld S hX hbl hE hL (by omega) d_Lw_law_402 ?_
  refine aw_callVi0 S (ev_Md_alike _ _ hM hs) mb_Md_alike mi_Md_alike n_ml_Lw_62 d_Lw_law_403 I_Md hM.2.1 rfl rfl rfl (fun v_ g2_ n2_ h_ => ?_) (hc := ⟨by show _ ≤ 600000; omega, by show _ ≤ 7302250; omega⟩)
  obtain ⟨rfl, rfl, rfl⟩ := h_
  refine aw_icmp_eq S 523 d_Lw_law_406 (by decide) (fun c406 => ?_) (fun c406 => ?_)
  · exact s523 _ _ ⟨tb, pb, tape, ts, bt, ps, pr, hS, ⟨v, f, hM, hs⟩, hI⟩
  · exact absurd rfl c406
set_option maxRecDepth 100000 in
set_option maxHeartbeats 4000000 in
theorem lw_compare {p : Program} {e : Env} {s : State} {m : MethodId} {below : List Frame} {meth : Method} {c : Code} {l : Launch} {b L : Nat} {xs : Nat → Int32} {E : aw_E} {o k n : Nat} {g : AH} (S : aw_C p s m #[Value.ref b] meth c E code 4 "AddressTermsLaw" ret) (hX : va_X b L xs s s.heap) (hbl : b < s.heap.size) (hE : E.2.2.1 = s.heap.size) (hL : L ≤ 2048) (hk : 4 * k + 4 ≤ L) (hLI : LI E o g n) (s523 : ∀ (g : AH) (n : Nat), LI E o g n → AW p l e room_1 s m #[Value.ref b] below meth c E 4 (lw_Z below #[Value.ref b] s) (46 + 5 * k + 5) (16000 + 2009 * k + 2009) g n 523 [some (.ref b), some (.ref o), some (.ref (o + 25)), some (.int (nI (4 * k)))] []) : AW p l e room_1 s m #[Value.ref b] below meth c E 4 (lw_Z below #[Value.ref b] s) (46 + 5 * k) (16000 + 2009 * k) g n 411 [some (.ref b), some (.ref o), some (.ref (o + 25)), some (.int (nI (4 * k)))] [] := by
  obtain ⟨tb, pb, tape, ts, bt, ps, pr, hS, ⟨v, f, hM, hs⟩, hI⟩ := hLI
  have tl := hs.1.1
  have nl := hs.2.1.1
  refine aw_aload_1 S d_Lw_law_411 ?_
  refine aw_aload_0 S d_Lw_law_412 ?_
  refine aw_iload_3 S d_Lw_law_413 ?_
  refine aw_iconst (v := 1) S d_Lw_law_414 (by decide) ?_
  refine aw_iadd S d_Lw_law_415 ?_
  refine aw_topi (nI_1 _) ?_
  refine aw_sld S hX hbl hE hL (by omega) d_Lw_law_416 ?_
  refine aw_aload_0 S d_Lw_law_417 ?_
  refine aw_iload_3 S d_Lw_law_418 ?_
  refine aw_iconst (v := 2) S d_Lw_law_419 (by decide) ?_
  refine aw_iadd S d_Lw_law_420 ?_
  refine aw_topi (nI_add _ 2) ?_
  refine aw_sld S hX hbl hE hL (by omega) d_Lw_law_421 ?_
  refine aw_callViA S (46 + 5 * k + 5) (16000 + 2009 * k + 2009) (ev_At_compare _ _ hS.1 hS.2) mb_At_compare mi_At_compare n_ml_Lw_63 d_Lw_law_422 I_At hS.1.2.1 rfl rfl rfl (fun v_ g2_ n2_ h_ => ?_) (hm := ⟨by omega, by omega, by show _ ≤ 600000; omega, by show _ ≤ 7302250; omega⟩)
  obtain ⟨rfl, rfl, rfl⟩ := h_
  refine aw_aload_2 S d_Lw_law_425 ?_
  refine aw_aload_0 S d_Lw_law_426 ?_
  refine aw_iload_3 S d_Lw_law_427 ?_
  refine aw_iconst (v := 1) S d_Lw_law_428 (by decide) ?_
  refine aw_iadd S d_Lw_law_429 ?_
  refine aw_topi (nI_1 _) ?_
  refine aw_sld S hX hbl hE hL (by omega) d_Lw_law_430 ?_
  refine aw_aload_0 S d_Lw_law_431 ?_
  refine aw_iload_3 S d_Lw_law_432 ?_
  refine aw_iconst (v := 2) S d_Lw_law_433 (by decide) ?_
  refine aw_iadd S d_Lw_law_434 ?_
  refine aw_topi (nI_add _ 2) ?_
  refine aw_sld S hX hbl hE hL (by omega) d_Lw_law_435 ?_
  refine aw_callVi0 S (ev_Md_compare _ _ hM hs hI.2.1 hS.bts) mb_Md_compare mi_Md_compare n_ml_Lw_66 d_Lw_law_436 I_Md hM.2.1 rfl rfl rfl (fun v_ g2_ n2_ h_ => ?_) (hc := ⟨by show _ ≤ 600000; omega, by show _ ≤ 7302250; omega⟩)
  obtain ⟨rfl, rfl, rfl⟩ := h_
  refine aw_icmp_eq S 523 d_Lw_law_439 (by decide) (fun c439 => ?_) (fun c439 => ?_)
  · exact s523 _ _ ⟨tb, pb, tape, ts, bt, ps, pr, hS, ⟨v, f, hM, hs⟩, hI⟩
  · exact absurd rfl c439
set_option maxRecDepth 100000 in
set_option maxHeartbeats 4000000 in
theorem lw_print {p : Program} {e : Env} {s : State} {m : MethodId} {below : List Frame} {meth : Method} {c : Code} {l : Launch} {b L : Nat} {xs : Nat → Int32} {E : aw_E} {o k n : Nat} {g : AH} (S : aw_C p s m #[Value.ref b] meth c E code 4 "AddressTermsLaw" ret) (hX : va_X b L xs s s.heap) (hbl : b < s.heap.size) (hE : E.2.2.1 = s.heap.size) (hL : L ≤ 2048) (hk : 4 * k + 4 ≤ L) (hLI : LI E o g n) (s523 : ∀ (g : AH) (n : Nat), LI E o g n → AW p l e room_1 s m #[Value.ref b] below meth c E 4 (lw_Z below #[Value.ref b] s) (46 + 5 * k + 5) (16000 + 2009 * k + 2009) g n 523 [some (.ref b), some (.ref o), some (.ref (o + 25)), some (.int (nI (4 * k)))] []) : AW p l e room_1 s m #[Value.ref b] below meth c E 4 (lw_Z below #[Value.ref b] s) (46 + 5 * k) (16000 + 2009 * k) g n 444 [some (.ref b), some (.ref o), some (.ref (o + 25)), some (.int (nI (4 * k)))] [] := by
  obtain ⟨tb, pb, tape, ts, bt, ps, pr, hS, ⟨v, f, hM, hs⟩, hI⟩ := hLI
  have tl := hs.1.1
  have nl := hs.2.1.1
  refine aw_aload_1 S d_Lw_law_444 ?_
  refine aw_aload_0 S d_Lw_law_445 ?_
  refine aw_iload_3 S d_Lw_law_446 ?_
  refine aw_iconst (v := 1) S d_Lw_law_447 (by decide) ?_
  refine aw_iadd S d_Lw_law_448 ?_
  refine aw_topi (nI_1 _) ?_
  refine aw_sld S hX hbl hE hL (by omega) d_Lw_law_449 ?_
  refine aw_aload_0 S d_Lw_law_450 ?_
  refine aw_iload_3 S d_Lw_law_451 ?_
  refine aw_iconst (v := 2) S d_Lw_law_452 (by decide) ?_
  refine aw_iadd S d_Lw_law_453 ?_
  refine aw_topi (nI_add _ 2) ?_
  refine aw_sld S hX hbl hE hL (by omega) d_Lw_law_454 ?_
  refine aw_callViA S (46 + 5 * k + 5) (16000 + 2009 * k + 2009) (ev_At_print _ _ hS hI.2.1 hI.2.2.1 hI.2.2.2.1) mb_At_print mi_At_print n_ml_Lw_67 d_Lw_law_455 I_At hS.1.2.1 rfl rfl rfl (fun v_ g2_ n2_ h_ => ?_) (hm := ⟨by omega, by omega, by show _ ≤ 600000; omega, by show _ ≤ 7302250; omega⟩)
  obtain ⟨rfl, tb2, pb2, hS2, hmd⟩ := h_
  have hM2 : mG E g2_ (o + 25) v f g2_ := hM.re (fun x q1 q2 => hmd x q1 (by omega))
  refine aw_aload_2 S d_Lw_law_458 ?_
  refine aw_aload_0 S d_Lw_law_459 ?_
  refine aw_iload_3 S d_Lw_law_460 ?_
  refine aw_iconst (v := 1) S d_Lw_law_461 (by decide) ?_
  refine aw_iadd S d_Lw_law_462 ?_
  refine aw_topi (nI_1 _) ?_
  refine aw_sld S hX hbl hE hL (by omega) d_Lw_law_463 ?_
  refine aw_aload_0 S d_Lw_law_464 ?_
  refine aw_iload_3 S d_Lw_law_465 ?_
  refine aw_iconst (v := 2) S d_Lw_law_466 (by decide) ?_
  refine aw_iadd S d_Lw_law_467 ?_
  refine aw_topi (nI_add _ 2) ?_
  refine aw_sld S hX hbl hE hL (by omega) d_Lw_law_468 ?_
  refine aw_callVi0 S (ev_Md_print _ _ hM2 hs hI.2.1 hI.2.2.2.1) mb_Md_print mi_Md_print n_ml_Lw_70 d_Lw_law_469 I_Md hM2.2.1 rfl rfl rfl (fun v_ g2_ n2_ h_ => ?_) (hc := ⟨by show _ ≤ 600000; omega, by show _ ≤ 7302250; omega⟩)
  obtain ⟨rfl, rfl, hm⟩ := h_
  refine aw_icmp_eq S 523 d_Lw_law_472 (by decide) (fun c472 => ?_) (fun c472 => ?_)
  · exact s523 _ _ (LI.mk hS2 hm (hI))
  · exact absurd rfl c472
set_option maxRecDepth 100000 in
set_option maxHeartbeats 4000000 in
theorem lw_at {p : Program} {e : Env} {s : State} {m : MethodId} {below : List Frame} {meth : Method} {c : Code} {l : Launch} {b L : Nat} {xs : Nat → Int32} {E : aw_E} {o k n : Nat} {g : AH} (S : aw_C p s m #[Value.ref b] meth c E code 4 "AddressTermsLaw" ret) (hX : va_X b L xs s s.heap) (hbl : b < s.heap.size) (hE : E.2.2.1 = s.heap.size) (hL : L ≤ 2048) (hk : 4 * k + 4 ≤ L) (hLI : LI E o g n) (s523 : ∀ (g : AH) (n : Nat), LI E o g n → AW p l e room_1 s m #[Value.ref b] below meth c E 4 (lw_Z below #[Value.ref b] s) (46 + 5 * k + 5) (16000 + 2009 * k + 2009) g n 523 [some (.ref b), some (.ref o), some (.ref (o + 25)), some (.int (nI (4 * k)))] []) : AW p l e room_1 s m #[Value.ref b] below meth c E 4 (lw_Z below #[Value.ref b] s) (46 + 5 * k) (16000 + 2009 * k) g n 477 [some (.ref b), some (.ref o), some (.ref (o + 25)), some (.int (nI (4 * k)))] [] := by
  obtain ⟨tb, pb, tape, ts, bt, ps, pr, hS, ⟨v, f, hM, hs⟩, hI⟩ := hLI
  have tl := hs.1.1
  have nl := hs.2.1.1
  refine aw_aload_1 S d_Lw_law_477 ?_
  refine aw_aload_0 S d_Lw_law_478 ?_
  refine aw_iload_3 S d_Lw_law_479 ?_
  refine aw_iconst (v := 1) S d_Lw_law_480 (by decide) ?_
  refine aw_iadd S d_Lw_law_481 ?_
  refine aw_topi (nI_1 _) ?_
  refine aw_sld S hX hbl hE hL (by omega) d_Lw_law_482 ?_
  refine aw_callViA S (46 + 5 * k + 5) (16000 + 2009 * k + 2009) (ev_At_at _ hS.1) mb_At_at mi_At_at n_ml_Lw_71 d_Lw_law_483 I_At hS.1.2.1 rfl rfl rfl (fun v_ g2_ n2_ h_ => ?_) (hm := ⟨by omega, by omega, by show _ ≤ 600000; omega, by show _ ≤ 7302250; omega⟩)
  obtain ⟨rfl, rfl, rfl⟩ := h_
  refine aw_aload_2 S d_Lw_law_486 ?_
  refine aw_aload_0 S d_Lw_law_487 ?_
  refine aw_iload_3 S d_Lw_law_488 ?_
  refine aw_iconst (v := 1) S d_Lw_law_489 (by decide) ?_
  refine aw_iadd S d_Lw_law_490 ?_
  refine aw_topi (nI_1 _) ?_
  refine aw_sld S hX hbl hE hL (by omega) d_Lw_law_491 ?_
  refine aw_callVi0 S (ev_Md_at _ hM hs hS.prb) mb_Md_at mi_Md_at n_ml_Lw_74 d_Lw_law_492 I_Md hM.2.1 rfl rfl rfl (fun v_ g2_ n2_ h_ => ?_) (hc := ⟨by show _ ≤ 600000; omega, by show _ ≤ 7302250; omega⟩)
  obtain ⟨rfl, rfl, rfl⟩ := h_
  refine aw_icmp_eq S 523 d_Lw_law_495 (by decide) (fun c495 => ?_) (fun c495 => ?_)
  · exact s523 _ _ ⟨tb, pb, tape, ts, bt, ps, pr, hS, ⟨v, f, hM, hs⟩, hI⟩
  · exact absurd rfl c495
set_option maxRecDepth 100000 in
set_option maxHeartbeats 4000000 in
theorem lw_count {p : Program} {e : Env} {s : State} {m : MethodId} {below : List Frame} {meth : Method} {c : Code} {l : Launch} {b L : Nat} {xs : Nat → Int32} {E : aw_E} {o k n : Nat} {g : AH} (S : aw_C p s m #[Value.ref b] meth c E code 4 "AddressTermsLaw" ret) (hX : va_X b L xs s s.heap) (hbl : b < s.heap.size) (hE : E.2.2.1 = s.heap.size) (hL : L ≤ 2048) (hk : 4 * k + 4 ≤ L) (hLI : LI E o g n) (s523 : ∀ (g : AH) (n : Nat), LI E o g n → AW p l e room_1 s m #[Value.ref b] below meth c E 4 (lw_Z below #[Value.ref b] s) (46 + 5 * k + 5) (16000 + 2009 * k + 2009) g n 523 [some (.ref b), some (.ref o), some (.ref (o + 25)), some (.int (nI (4 * k)))] []) : AW p l e room_1 s m #[Value.ref b] below meth c E 4 (lw_Z below #[Value.ref b] s) (46 + 5 * k) (16000 + 2009 * k) g n 500 [some (.ref b), some (.ref o), some (.ref (o + 25)), some (.int (nI (4 * k)))] [] := by
  obtain ⟨tb, pb, tape, ts, bt, ps, pr, hS, ⟨v, f, hM, hs⟩, hI⟩ := hLI
  have tl := hs.1.1
  have nl := hs.2.1.1
  refine aw_aload_1 S d_Lw_law_500 ?_
  refine aw_aload_0 S d_Lw_law_501 ?_
  refine aw_iload_3 S d_Lw_law_502 ?_
  refine aw_iconst (v := 1) S d_Lw_law_503 (by decide) ?_
  refine aw_iadd S d_Lw_law_504 ?_
  refine aw_topi (nI_1 _) ?_
  refine aw_sld S hX hbl hE hL (by omega) d_Lw_law_505 ?_
  refine aw_callViA S (46 + 5 * k + 5) (16000 + 2009 * k + 2009) (ev_At_count _ hS.1) mb_At_count mi_At_count n_ml_Lw_75 d_Lw_law_506 I_At hS.1.2.1 rfl rfl rfl (fun v_ g2_ n2_ h_ => ?_) (hm := ⟨by omega, by omega, by show _ ≤ 600000; omega, by show _ ≤ 7302250; omega⟩)
  obtain ⟨rfl, rfl, rfl⟩ := h_
  refine aw_aload_2 S d_Lw_law_509 ?_
  refine aw_aload_0 S d_Lw_law_510 ?_
  refine aw_iload_3 S d_Lw_law_511 ?_
  refine aw_iconst (v := 1) S d_Lw_law_512 (by decide) ?_
  refine aw_iadd S d_Lw_law_513 ?_
  refine aw_topi (nI_1 _) ?_
  refine aw_sld S hX hbl hE hL (by omega) d_Lw_law_514 ?_
  refine aw_callVi0 S (ev_Md_count _ hM hs) mb_Md_count mi_Md_count n_ml_Lw_78 d_Lw_law_515 I_Md hM.2.1 rfl rfl rfl (fun v_ g2_ n2_ h_ => ?_) (hc := ⟨by show _ ≤ 600000; omega, by show _ ≤ 7302250; omega⟩)
  obtain ⟨rfl, rfl, rfl⟩ := h_
  refine aw_icmp_eq S 523 d_Lw_law_518 (by decide) (fun c518 => ?_) (fun c518 => ?_)
  · exact s523 _ _ ⟨tb, pb, tape, ts, bt, ps, pr, hS, ⟨v, f, hM, hs⟩, hI⟩
  · exact absurd rfl c518
set_option maxRecDepth 100000 in
set_option maxHeartbeats 4000000 in
theorem lw_loop {p : Program} {e : Env} {s : State} {m : MethodId} {below : List Frame} {meth : Method} {c : Code} {l : Launch} {b L : Nat} {xs : Nat → Int32} {E : aw_E} {o : Nat} (S : aw_C p s m #[Value.ref b] meth c E code 4 "AddressTermsLaw" ret) (hX : va_X b L xs s s.heap) (hbl : b < s.heap.size) (hE : E.2.2.1 = s.heap.size) (hL : L ≤ 2048) (hb : c.code = code) (hr : meth.sig.returnType = ret) : ∀ (j k : Nat) (g : AH) (n : Nat), L ≤ 4 * k + 4 * j → 4 * k ≤ 2048 → LI E o g n → AW p l e room_1 s m #[Value.ref b] below meth c E 4 (lw_Z below #[Value.ref b] s) (46 + 5 * k) (16000 + 2009 * k) g n 18 [some (.ref b), some (.ref o), some (.ref (o + 25)), some (.int (nI (4 * k)))] [] := by
  intro j
  induction j with
  | zero =>
    intro k g n hj hk hLI
    refine aw_iload_3 S d_Lw_law_18 ?_
    refine aw_aload_0 S d_Lw_law_19 ?_
    refine aw_slen2 S hX hbl hE d_Lw_law_20 ?_
    refine aw_iconst (v := 4) S d_Lw_law_21 (by decide) ?_
    refine aw_isub S d_Lw_law_22 ?_
    refine aw_icmp_gt S 529 d_Lw_law_23 (by decide) (fun c23 => ?_) (fun c23 => ?_)
    · refine aw_iconst (v := 1) S d_Lw_law_529 (by decide) ?_
      intro H locs ls hR hS hl
      exact va_forget (fun q hq => by have := hS.2.2 q hq; rw [← hE]; exact this) (W.widen (by omega) (by omega) (lw_ret S.1.1 hb hr S.2.2.2.2.2 d_Lw_law_530))
    · exact absurd ((lw_gt hL (by omega)).mpr (by omega)) c23
  | succ j ih =>
    intro k g n hj hk hLI
    have s523 : 4 * k + 4 ≤ L → ∀ (g : AH) (n : Nat), LI E o g n → AW p l e room_1 s m #[Value.ref b] below meth c E 4 (lw_Z below #[Value.ref b] s) (46 + 5 * k + 5) (16000 + 2009 * k + 2009) g n 523 [some (.ref b), some (.ref o), some (.ref (o + 25)), some (.int (nI (4 * k)))] [] := by
      intro h4 g n hLI
      refine aw_iinc_3 (v := nI (4 * (k + 1))) S d_Lw_law_523 (nI_add (4 * k) 4) ?_
      refine aw_goto S 18 d_Lw_law_526 (by decide) ?_
      exact aw_wide (by omega) (by omega) (ih (k + 1) _ _ (by omega) (by omega) hLI)
    refine aw_iload_3 S d_Lw_law_18 ?_
    refine aw_aload_0 S d_Lw_law_19 ?_
    refine aw_slen2 S hX hbl hE d_Lw_law_20 ?_
    refine aw_iconst (v := 4) S d_Lw_law_21 (by decide) ?_
    refine aw_isub S d_Lw_law_22 ?_
    refine aw_icmp_gt S 529 d_Lw_law_23 (by decide) (fun c23 => ?_) (fun c23 => ?_)
    · refine aw_iconst (v := 1) S d_Lw_law_529 (by decide) ?_
      intro H locs ls hR hS hl
      exact va_forget (fun q hq => by have := hS.2.2 q hq; rw [← hE]; exact this) (W.widen (by omega) (by omega) (lw_ret S.1.1 hb hr S.2.2.2.2.2 d_Lw_law_530))
    · have h4 : 4 * k + 4 ≤ L := Nat.not_lt.mp (fun z => c23 ((lw_gt hL (k := 4 * k) (by omega)).mpr z))
      have s523 := s523 h4
      refine aw_aload_0 S d_Lw_law_26 ?_
      refine aw_iload_3 S d_Lw_law_27 ?_
      refine aw_sld S hX hbl hE hL (by omega) d_Lw_law_28 ?_
      refine aw_bipush (v := 15) S d_Lw_law_29 (by decide) ?_
      refine aw_iand S d_Lw_law_31 ?_
      obtain ⟨z, hz, ez⟩ := pk_andE (xs (4 * k)) (m := 15) 4 (by decide)
      refine aw_topi ez ?_
      rcases (show z = 0 ∨ z = 1 ∨ z = 2 ∨ z = 3 ∨ z = 4 ∨ z = 5 ∨ z = 6 ∨ z = 7 ∨ z = 8 ∨ z = 9 ∨ z = 10 ∨ z = 11 ∨ z = 12 ∨ z = 13 ∨ z = 14 ∨ z = 15 by omega) with rfl | rfl | rfl | rfl | rfl | rfl | rfl | rfl | rfl | rfl | rfl | rfl | rfl | rfl | rfl | rfl
      · exact aw_tableIn S 108 d_Lw_law_32 (by decide) (by decide) rfl (by decide) (lw_type S hX hbl hE hL h4 hLI s523)
      · exact aw_tableIn S 171 d_Lw_law_32 (by decide) (by decide) rfl (by decide) (lw_resolve S hX hbl hE hL h4 hLI s523)
      · exact aw_tableIn S 184 d_Lw_law_32 (by decide) (by decide) rfl (by decide) (lw_base S hX hbl hE hL h4 hLI s523)
      · exact aw_tableIn S 207 d_Lw_law_32 (by decide) (by decide) rfl (by decide) (lw_label S hX hbl hE hL h4 hLI s523)
      · exact aw_tableIn S 230 d_Lw_law_32 (by decide) (by decide) rfl (by decide) (lw_literal S hX hbl hE hL h4 hLI s523)
      · exact aw_tableIn S 253 d_Lw_law_32 (by decide) (by decide) rfl (by decide) (lw_tagged S hX hbl hE hL h4 hLI s523)
      · exact aw_tableIn S 276 d_Lw_law_32 (by decide) (by decide) rfl (by decide) (lw_prefix S hX hbl hE hL h4 hLI s523)
      · exact aw_tableIn S 299 d_Lw_law_32 (by decide) (by decide) rfl (by decide) (lw_part S hX hbl hE hL h4 hLI s523)
      · exact aw_tableIn S 332 d_Lw_law_32 (by decide) (by decide) rfl (by decide) (lw_kind S hX hbl hE hL h4 hLI s523)
      · exact aw_tableIn S 355 d_Lw_law_32 (by decide) (by decide) rfl (by decide) (lw_sort S hX hbl hE hL h4 hLI s523)
      · exact aw_tableIn S 378 d_Lw_law_32 (by decide) (by decide) rfl (by decide) (lw_alike S hX hbl hE hL h4 hLI s523)
      · exact aw_tableIn S 411 d_Lw_law_32 (by decide) (by decide) rfl (by decide) (lw_compare S hX hbl hE hL h4 hLI s523)
      · exact aw_tableIn S 444 d_Lw_law_32 (by decide) (by decide) rfl (by decide) (lw_print S hX hbl hE hL h4 hLI s523)
      · exact aw_tableIn S 477 d_Lw_law_32 (by decide) (by decide) rfl (by decide) (lw_at S hX hbl hE hL h4 hLI s523)
      · exact aw_tableIn S 500 d_Lw_law_32 (by decide) (by decide) rfl (by decide) (lw_count S hX hbl hE hL h4 hLI s523)
      · exact aw_tableOut S 523 d_Lw_law_32 (by decide) (by decide) (aw_wide (by omega) (by omega) (s523 _ _ hLI))
set_option maxRecDepth 100000 in
set_option maxHeartbeats 4000000 in
theorem whole_start {p : Program} {e : Env} {s : State} {m : MethodId} {below : List Frame} {meth : Method} {c : Code} (l : Launch) {b L : Nat} {xs : Nat → Int32} (hL : L ≤ 2048) (C0 : lw_At p s m meth c b L xs) : W p l e room_1 s m #[Value.ref b] below meth c s.heap [] 0 0 (lw_Z below #[Value.ref b] s) (entryFrame m ([Value.ref b] : List Value).toArray 4) := by
  obtain ⟨E, hE, S⟩ := lw_env C0
  obtain ⟨hx, hb, hr, hml, hown, hts, hX, hbl, hlocks, hgv⟩ := C0
  have hl := lv_entry ([.ref b] : List Value) (n := 4) (Nat.le_of_ble_eq_true rfl)
  rw [lg_entry_eq]
  suffices K : AW p l e room_1 s m #[Value.ref b] below meth c E 4 (lw_Z below #[Value.ref b] s) 0 0 (fun _ => none) s.heap.size 0 [some (.ref b), none, none, none] [] from K s.heap [] _ ⟨rfl, fun a e h => by cases h⟩ va_S.rf hl
  generalize ho : s.heap.size = o at hE ⊢
  refine aw_new S I_At n_cl_Lw_7 n_ib_At n_ini_At d_Lw_law_0 [.null, .null, .null, .null, .null, .null, .null, .null, .int 0, .int 0, .int 0] (fun j hj => by rcases (show j = 0 ∨ j = 1 ∨ j = 2 ∨ j = 3 ∨ j = 4 ∨ j = 5 ∨ j = 6 ∨ j = 7 ∨ j = 8 ∨ j = 9 ∨ j = 10 by omega) with rfl | rfl | rfl | rfl | rfl | rfl | rfl | rfl | rfl | rfl | rfl <;> rfl) (by decide) (by decide) ?_
  refine aw_dup S d_Lw_law_3 rfl ?_
  refine aw_callIvA S 25 7125 (ev_At_init (o := o) (fun _ => 0) (fun _ => 0) (by omega) (aw_up_s _ _ _) rfl) mb_At_init n_im_At_init rfl n_ml_Lw_9 d_Lw_law_4 rfl rfl (fun g2_ n2_ h_ => ?_)
  obtain ⟨rfl, hA, -⟩ := h_
  refine aw_astore_1 S d_Lw_law_7 ?_
  refine aw_new S I_Md n_cl_Lw_10 n_ib_Md n_ini_Md d_Lw_law_8 [.int 0, .null, .int 0, .null, .null, .null, .null, .null, .null, .int 0, .int 0, .null, .null, .null, .int 0, .null, .int 0, .null, .int 0, .null, .int 0, .null, .null, .null, .null, .null, .int 0, .null, .int 0, .null] (fun j hj => by rcases (show j = 0 ∨ j = 1 ∨ j = 2 ∨ j = 3 ∨ j = 4 ∨ j = 5 ∨ j = 6 ∨ j = 7 ∨ j = 8 ∨ j = 9 ∨ j = 10 ∨ j = 11 ∨ j = 12 ∨ j = 13 ∨ j = 14 ∨ j = 15 ∨ j = 16 ∨ j = 17 ∨ j = 18 ∨ j = 19 ∨ j = 20 ∨ j = 21 ∨ j = 22 ∨ j = 23 ∨ j = 24 ∨ j = 25 ∨ j = 26 ∨ j = 27 ∨ j = 28 ∨ j = 29 by omega) with rfl | rfl | rfl | rfl | rfl | rfl | rfl | rfl | rfl | rfl | rfl | rfl | rfl | rfl | rfl | rfl | rfl | rfl | rfl | rfl | rfl | rfl | rfl | rfl | rfl | rfl | rfl | rfl | rfl | rfl <;> rfl) (by decide) (by decide) ?_
  refine aw_dup S d_Lw_law_11 rfl ?_
  refine aw_callIvA S 46 16000 (ev_Md_init (d := o + 25) (by omega) (aw_up_s _ _ _) rfl) mb_Md_init n_im_Md_init rfl n_ml_Lw_12 d_Lw_law_12 rfl rfl (fun g2_ n2_ h_ => ?_)
  obtain ⟨rfl, hM⟩ := h_
  refine aw_astore_2 S d_Lw_law_15 ?_
  refine aw_iconst (v := 0) S d_Lw_law_16 (by decide) ?_
  refine aw_topi nI_0.symm ?_
  refine aw_istore_3 S d_Lw_law_17 ?_
  subst ho
  refine lw_loop S hX hbl hE hL hb hr 512 0 _ _ (by omega) (by omega) ⟨fun _ => 0, fun _ => 0, [], [], -1, [], [], ⟨hA.keep (fun x h1 h2 => ?_), ?_⟩, ⟨_, _, hM.re (fun _ _ _ => rfl), ?_⟩, ?_⟩
  · rw [hM.2.2.2 x (by omega), aw_up_n (by omega)]
  · exact ⟨by omega, fun i hi => absurd hi (Nat.not_lt_zero i), fun j hj => absurd hj (Nat.not_lt_zero j), fun i j hi => absurd hi (Nat.not_lt_zero i), fun i j hi => absurd hi (Nat.not_lt_zero i)⟩
  · exact ⟨⟨Nat.zero_le _, rfl, mL.nil⟩, ⟨Nat.zero_le _, rfl, fun i hi => absurd hi (Nat.not_lt_zero i)⟩, rfl, ⟨Nat.zero_le _, rfl, fun j hj => absurd hj (Nat.not_lt_zero j)⟩, ⟨Nat.zero_le _, rfl, mL.nil⟩⟩
  · exact ⟨okTp.nil, fun i hi => absurd hi (Nat.not_lt_zero i), fun i hi => absurd hi (Nat.not_lt_zero i), fun i hi => absurd hi (Nat.not_lt_zero i), Or.inl rfl⟩
