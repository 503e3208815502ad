/-! CALLS -/
theorem aw_good {y : MethodName} {cc : ByteArray} {nL : Nat} {ret : Option FieldType} (h : Cond.code y cc nL ret ∈ aw_tw) : GoodIn aw_tw (Cond.code y cc nL ret :: aw_tw) := by
  intro w hw
  rcases List.mem_cons.mp hw with rfl | hw
  · exact ⟨h, Or.inl rfl⟩
  · exact ⟨hw, good_of_word (List.all_eq_true.mp aw_tw_good w hw)⟩
/-- a method's words: its code, its class made ready, how many parameters -/
def aw_MB (y : MethodName) (cc : ByteArray) (nL : Nat) (ret : Option FieldType) (k : Nat) : Prop := Cond.code y cc nL ret ∈ aw_tw ∧ Cond.initialized y.cls ∈ aw_tw ∧ (y.cls ≠ "java/lang/invoke/MethodHandle" ∧ y.cls ≠ "java/lang/invoke/VarHandle" ∧ (parseMethodDescriptor y.desc).map (fun d => d.parameters.length) = some k)
theorem aw_blind {E : aw_E} {g : AH} {n : Nat} {av : List Value} : FrameBlind (va_Pc av (fun U => aw_R E g n U.heap ∧ aw_K E U)) := by
  intro a U g2 mk q
  obtain ⟨q0, qR, qK, qS, qb⟩ := q
  exact ⟨q0, qR, va_K.moved (u := U) (U := U.calling g2 mk a) (Vm.Alike.refl U.vm) qK, aw_St.same rfl qS, qb⟩
section AWCall
variable {p : Program} {l : Launch} {e : Env} {R : Room} {s : State} {m : MethodId} {args : Array Value} {below : List Frame} {meth : Method} {c : Code} {E : aw_E} {cc : ByteArray} {nL : Nat} {own : String} {ret : Option FieldType} {Q : State → Prop} {mc ms : Nat} {g : AH} {n pc : Nat} {lv : List (Option Value)} {st st0 : List Value}
theorem aw_ready (S : aw_C p s m args meth c E cc nL own ret) {H : Heap} {locs : List Loc} (hR : aw_R E g n H) (hS : va_S (aw_A E) s.heap H locs) (av : List Value) (U : State) (hU : U.heap = H) (hW : s.WarmedH U.vm) : va_Pc av (fun U => aw_R E g n U.heap ∧ aw_K E U) av.toArray U := by
  refine ⟨rfl, by rw [hU]; exact hR, va_K.moved hW.alike S.2.1, ?_, ?_⟩
  · rw [hU]
    exact aw_St.kept hS (aw_St.moved hW S.2.2.1)
  · rw [hU]
    exact Nat.le_trans S.2.2.2.1 hS.1
/-- behind a call -/
theorem aw_back {mc2 ms2 : Nat} {Post : Option Value → AH → Nat → Prop} {a : Array Value} {H : Heap} {locs : List Loc} {ls : Array Slot} (hS : va_S (aw_A E) s.heap H locs) (hl : lv_has ls nL (aw_pos 0 lv)) (hr : va_Run p l e R s m args below meth c H locs mc ms mc2 ms2 (F0 m pc ls st0) st (aw_Q E Post a) (aw_A E))
    (kk : ∀ (r : Option Value) (g2 : AH) (n2 : Nat), Post r g2 n2 → AW p l e R s m args below meth c E nL Q (mc + mc2) (ms + ms2) g2 n2 (pc + 3) lv (r.toList ++ st)) : W p l e R s m args below meth c H locs mc ms Q (F0 m pc ls st0) := by
  intro T hT X
  obtain ⟨v, st₀, t, T', L, h0, X', hL, e1, e2, ⟨⟨r, g2, n2, hv, hp, hR2⟩, hz, hk⟩, stp⟩ := hr T hT X
  cases hv
  rw [h0] at hz hk
  obtain ⟨t2, a1, b1⟩ := kk v g2 n2 hp T'.heap (locs ++ L) ls (by rw [e1]; exact hR2) ⟨Nat.le_trans hS.1 (by rw [e1]; exact hz), fun q h1 h2 => by rw [e1, hk q (Nat.lt_of_lt_of_le h1 hS.1) h2]; exact hS.2.1 q h1 h2, fun q hq => by
      rcases List.mem_append.mp hq with h | h
      · exact hS.2.2 q h
      · exact hL q h⟩ hl T' rfl X'
  exact ⟨t2, stp t2 a1, b1⟩
theorem aw_callV (S : aw_C p s m args meth c E cc nL own ret) {y : MethodName} {cc2 : ByteArray} {nL2 d2 mc2 ms2 a k : Nat} {ret2 : Option FieldType} {As : List Value} {Post : Option Value → AH → Nat → Prop} (hM : EV l E d2 mc2 ms2 y cc2 nL2 ret2 g n (.ref a :: As) Post) (hB : aw_MB y cc2 nL2 ret2 k) (hI : Cond.instanceMethod y ∈ aw_tw ∧ Cond.selects y.cls y y ∈ aw_tw) {i : Nat} (hw : Cond.methodLink own i y ∈ aw_tw) (hd : decode cc pc = .ok (.invokevirtual i, 3))
    {ci N : Nat} {C : String} {T : u_T} {ty : Nat → FieldType} (I : aw_CI ci C T N ty) {fs : List Value} (ha : g a = some (.inr (ci, fs))) (hC : C = y.cls) (hk : As.length = k) (hst : st0 = As.reverse ++ .ref a :: st) (hf : d2 + 1 ≤ R.frames ∧ 8 + (nL2 + 11) + 40 * d2 ≤ R.locals) (hroom : (st.map fun v => v.category).sum ≤ 8) (hc : mc + mc2 ≤ R.cells ∧ ms + ms2 ≤ R.slots)
    (kk : ∀ (r : Option Value) (g2 : AH) (n2 : Nat), Post r g2 n2 → AW p l e R s m args below meth c E nL Q (mc + mc2) (ms + ms2) g2 n2 (pc + 3) lv (r.toList ++ st)) : AW p l e R s m args below meth c E nL Q mc ms g n pc lv st0 := by
  intro H locs ls hR hS hl
  subst hC
  have hts := S.1.2.2.2.2
  have cw : CallW R s args own y.cls i y cc2 nL2 ret2 (Cond.code y cc2 nL2 ret2 :: aw_tw) { frames := d2, cells := mc2, slots := ms2, locals := 40 * d2 } mc2 ms2 k :=
    ⟨callB_of k hts (aw_good hB.1) rfl rfl rfl (hts _ hB.2.1) (hts _ hw) hB.2.2 hf, hts _ hI.1, hts _ hI.2⟩
  have hrecv : ∃ cellB : Cell, H[a]? = some cellB ∧ cellB.vm.isStatics = false ∧ s.vm.findClass y.cls = some cellB.cls := va_recv (q0 := 0) S.2.1 (aw_one (hR.2 a _ ha)) I.1 rfl
  exact aw_back hS hl (va_runV (g := F0 m pc ls st0) (rest := st) (As := As) S.1 hM cw ⟨aw_blind, hrecv, aw_ready S hR hS _⟩ rfl hk hl.1 hst (lv_room hroom) hd hc) kk
theorem aw_callS (S : aw_C p s m args meth c E cc nL own ret) {y : MethodName} {cc2 : ByteArray} {nL2 d2 mc2 ms2 k : Nat} {ret2 : Option FieldType} {As : List Value} {Post : Option Value → AH → Nat → Prop} (hM : EV l E d2 mc2 ms2 y cc2 nL2 ret2 g n As Post) (hB : aw_MB y cc2 nL2 ret2 k) (hI : Cond.static y ∈ aw_tw) {i : Nat} (hw : Cond.methodLink own i y ∈ aw_tw) (hd : decode cc pc = .ok (.invokestatic i, 3))
    (hk : As.length = k) (hst : st0 = As.reverse ++ st) (hf : d2 + 1 ≤ R.frames ∧ 8 + (nL2 + 11) + 40 * d2 ≤ R.locals) (hroom : (st.map fun v => v.category).sum ≤ 8) (hc : mc + mc2 ≤ R.cells ∧ ms + ms2 ≤ R.slots)
    (kk : ∀ (r : Option Value) (g2 : AH) (n2 : Nat), Post r g2 n2 → AW p l e R s m args below meth c E nL Q (mc + mc2) (ms + ms2) g2 n2 (pc + 3) lv (r.toList ++ st)) : AW p l e R s m args below meth c E nL Q mc ms g n pc lv st0 := by
  intro H locs ls hR hS hl
  have hts := S.1.2.2.2.2
  have cw : CallB R s args own i y cc2 nL2 ret2 (Cond.code y cc2 nL2 ret2 :: aw_tw) { frames := d2, cells := mc2, slots := ms2, locals := 40 * d2 } mc2 ms2 k ∧ (Cond.static y).before args s = true :=
    ⟨callB_of k hts (aw_good hB.1) rfl rfl rfl (hts _ hB.2.1) (hts _ hw) hB.2.2 hf, hts _ hI⟩
  exact aw_back hS hl (va_runS (g := F0 m pc ls st0) (rest := st) (As := As) S.1 hM cw ⟨aw_blind, aw_ready S hR hS _⟩ rfl hk hl.1 hst (lv_room hroom) hd hc) kk
theorem aw_callI (S : aw_C p s m args meth c E cc nL own ret) {y : MethodName} {cc2 : ByteArray} {nL2 d2 mc2 ms2 a k : Nat} {As : List Value} {Post : Option Value → AH → Nat → Prop} (hM : EV l E d2 mc2 ms2 y cc2 nL2 none g n (.ref a :: As) Post) (hB : aw_MB y cc2 nL2 none k) (hI : Cond.instanceMethod y ∈ aw_tw) (hy1 : y.name = "<init>") {i : Nat} (hw : Cond.methodLink own i y ∈ aw_tw) (hd : decode cc pc = .ok (.invokespecial i, 3))
    (hk : As.length = k) (hst : st0 = As.reverse ++ .ref a :: st) (hf : d2 + 1 ≤ R.frames ∧ 8 + (nL2 + 11) + 40 * d2 ≤ R.locals) (hroom : (st.map fun v => v.category).sum ≤ 8) (hc : mc + mc2 ≤ R.cells ∧ ms + ms2 ≤ R.slots)
    (kk : ∀ (r : Option Value) (g2 : AH) (n2 : Nat), Post r g2 n2 → AW p l e R s m args below meth c E nL Q (mc + mc2) (ms + ms2) g2 n2 (pc + 3) lv (r.toList ++ st)) : AW p l e R s m args below meth c E nL Q mc ms g n pc lv st0 := by
  intro H locs ls hR hS hl
  have hts := S.1.2.2.2.2
  have cw : CallB R s args own i y cc2 nL2 none (Cond.code y cc2 nL2 none :: aw_tw) { frames := d2, cells := mc2, slots := ms2, locals := 40 * d2 } mc2 ms2 k ∧ y.name = "<init>" ∧ (Cond.instanceMethod y).before args s = true :=
    ⟨callB_of k hts (aw_good hB.1) rfl rfl rfl (hts _ hB.2.1) (hts _ hw) hB.2.2 hf, hy1, hts _ hI⟩
  exact aw_back hS hl (va_runI (g := F0 m pc ls st0) (rest := st) (As := As) S.1 hM cw ⟨aw_blind, aw_ready S hR hS _⟩ rfl hk hl.1 hst (lv_room hroom) hd hc) kk
theorem aw_callSN (S : aw_C p s m args meth c E cc nL own ret) {y : MethodName} {host : String} {cc2 : ByteArray} {nL2 d2 mc2 ms2 k : Nat} {ret2 : Option FieldType} {As : List Value} {Post : Option Value → AH → Nat → Prop} (hM : EV l E d2 mc2 ms2 y cc2 nL2 ret2 g n As Post) (hB : aw_MB y cc2 nL2 ret2 k) (hI : Cond.static y ∈ aw_tw) {i : Nat} (hw : va_Nw (.methodLinkNest own i y host) s) (hd : decode cc pc = .ok (.invokestatic i, 3))
    (hk : As.length = k) (hst : st0 = As.reverse ++ st) (hf : d2 + 1 ≤ R.frames ∧ 8 + (nL2 + 11) + 40 * d2 ≤ R.locals) (hroom : (st.map fun v => v.category).sum ≤ 8) (hc : mc + mc2 ≤ R.cells ∧ ms + ms2 ≤ R.slots)
    (kk : ∀ (r : Option Value) (g2 : AH) (n2 : Nat), Post r g2 n2 → AW p l e R s m args below meth c E nL Q (mc + mc2) (ms + ms2) g2 n2 (pc + 3) lv (r.toList ++ st)) : AW p l e R s m args below meth c E nL Q mc ms g n pc lv st0 := by
  intro H locs ls hR hS hl
  have hts := S.1.2.2.2.2
  have cw := va_cnB (R := R) (s := s) (args := args) (own := own) (host := host) (index := i) (maxL := nL2) (mc := mc2) (ms := ms2) (y := y) (bytes := cc2) (ret := ret2) (rm := { frames := d2, cells := mc2, slots := ms2, locals := 40 * d2 }) k hts (aw_good hB.1) rfl rfl rfl hw (hts _ hB.2.1) hB.2.2 hf
  exact aw_back hS hl (va_runSN (g := F0 m pc ls st0) (rest := st) (As := As) S.1 hM ⟨cw, hts _ hI, trivial⟩ ⟨aw_blind, aw_ready S hR hS _⟩ rfl hk hl.1 hst (lv_room hroom) hd hc) kk
theorem aw_mmax (S : aw_C p s m args meth c E cc nL own ret) {i : Nat} (hw : Cond.methodLink own i Lib.Math.max.name ∈ aw_tw) (hw2 : Cond.static Lib.Math.max.name ∈ aw_tw) (hw3 : Cond.initialized "java/lang/Math" ∈ aw_tw) (hw4 : Cond.code Lib.Math.max.name Lib.Math.max.code 2 (some .int) ∈ aw_tw) (hf : 1 ≤ R.frames) (hlo : (st.map fun v => v.category).sum + 13 ≤ R.locals) (hc : mc ≤ R.cells) (hs : ms ≤ R.slots) {x y : Int32} (hd : decode cc pc = .ok (.invokestatic i, 3)) (kk : AW p l e R s m args below meth c E nL Q mc ms g n (pc + 3) lv (.int (if x < y then y else x) :: st)) : AW p l e R s m args below meth c E nL Q mc ms g n pc lv (.int y :: .int x :: st) := by
  intro H locs ls hR hS hl
  have hts := S.1.2.2.2.2
  exact va_mmax S.1.1 S.1.2.1 (S.1.2.2.1.trans hl.1.symm) S.1.2.2.2.1 (hts _ hw) (hts _ hw2) (hts _ hw3) (hts _ hw4) hf hlo hc hs hd (kk H locs ls hR hS hl)
theorem aw_mmin (S : aw_C p s m args meth c E cc nL own ret) {i : Nat} (hw : Cond.methodLink own i Lib.Math.min.name ∈ aw_tw) (hw2 : Cond.static Lib.Math.min.name ∈ aw_tw) (hw3 : Cond.initialized "java/lang/Math" ∈ aw_tw) (hw4 : Cond.code Lib.Math.min.name Lib.Math.min.code 2 (some .int) ∈ aw_tw) (hf : 1 ≤ R.frames) (hlo : (st.map fun v => v.category).sum + 13 ≤ R.locals) (hc : mc ≤ R.cells) (hs : ms ≤ R.slots) {x y : Int32} (hd : decode cc pc = .ok (.invokestatic i, 3)) (kk : AW p l e R s m args below meth c E nL Q mc ms g n (pc + 3) lv (.int (if y < x then y else x) :: st)) : AW p l e R s m args below meth c E nL Q mc ms g n pc lv (.int y :: .int x :: st) := by
  intro H locs ls hR hS hl
  have hts := S.1.2.2.2.2
  exact va_mmin S.1.1 S.1.2.1 (S.1.2.2.1.trans hl.1.symm) S.1.2.2.2.1 (hts _ hw) (hts _ hw2) (hts _ hw3) (hts _ hw4) hf hlo hc hs hd (kk H locs ls hR hS hl)
end AWCall
