/-! THE LAW'S START: the classes, the arrays, the texts -/
def lw_sr (q : String × Nat) : Cond → Bool := fun w => match w with
  | .stringRef a k _ => a == q.1 && k == q.2
  | _ => false
set_option maxRecDepth 100000 in
theorem lw_sr_all : ∀ i, i < 30 → lw_tbl.any (lw_sr (st_s i)) = true := by decide +kernel
theorem lw_sr_of {s : State} {args : Array Value} (hts : ∀ w ∈ lw_tbl, w.before args s = true) (i : Nat) (hi : i < 30) : ∃ tx : String, (Cond.stringRef (st_s i).1 (st_s i).2 tx).before args s = true := by
  obtain ⟨w, hw, hm⟩ := List.any_eq_true.mp (lw_sr_all i hi)
  unfold lw_sr at hm
  split at hm
  · next a k tx =>
    rw [Bool.and_eq_true, beq_iff_eq, beq_iff_eq] at hm
    refine ⟨tx, ?_⟩
    rw [← hm.1, ← hm.2]
    exact hts _ hw
  · cases hm
def lw_tm (i : Nat) : Term := .string (st_s i).1 (st_s i).2
def lw_fl : List Cond := flatC (Jvm.Cond.and given_1 narrow_1)
set_option maxRecDepth 100000 in
theorem lw_f1 : ∀ i, i < 30 → Cond.exactly (lw_tm i) "java/lang/String" ∈ lw_fl := by decide +kernel
set_option maxRecDepth 100000 in
theorem lw_f2 : ∀ i, i < 30 → Cond.eq (.field (lw_tm i) "java/lang/String" "coder" "B") (.int 0) ∈ lw_fl := by decide +kernel
set_option maxRecDepth 100000 in
theorem lw_f3 : ∀ i, i < 30 → Cond.arrayOf (.field (lw_tm i) "java/lang/String" "value" "[B") .byte ∈ lw_fl := by decide +kernel
set_option maxRecDepth 100000 in
theorem lw_f4 : ∀ i, i < 30 → Cond.eq (.length (.field (lw_tm i) "java/lang/String" "value" "[B")) (.int (Int32.ofNat (st_b i).length)) ∈ lw_fl := by decide +kernel
set_option maxRecDepth 100000 in
theorem lw_f5 : ∀ i, i < 30 → ∀ j, j < (st_b i).length → Cond.eq (.elem (.field (lw_tm i) "java/lang/String" "value" "[B") (.int (Int32.ofNat j))) (.int ((st_b i).getD j 0)) ∈ lw_fl := by decide +kernel
theorem lw_f6 : ∀ i, i < 30 → (st_b i).length < 2 ^ 31 := by decide +kernel
theorem lw_lits {args : Array Value} {s : State} {A : Nat → Prop} (hs : ∀ w ∈ lw_fl, w.before args s = true) (hts : ∀ w ∈ lw_tbl, w.before args s = true) (hA : ∀ a : Nat, a < s.heap.size → ¬ A a) : ∃ q : Nat → Nat × Nat, ∀ i, i < 30 → (∃ tx : String, vk_R (st_s i).1 (st_s i).2 tx (q i).1 s) ∧ va_O "java/lang/String" (q i).1 A s s.heap ∧ va_OF "java/lang/String" "coder" "B" (.int 0) (q i).1 A s s.heap ∧ va_OF "java/lang/String" "value" "[B" (.ref (q i).2) (q i).1 A s s.heap ∧ va_T .byte (q i).2 (st_b i).length (fun j => .int ((st_b i).getD j 0)) A s s.heap := by
  have h0 : ∀ i : Nat, ∃ q : Nat × Nat, i < 30 → (∃ tx : String, vk_R (st_s i).1 (st_s i).2 tx q.1 s) ∧ va_O "java/lang/String" q.1 A s s.heap ∧ va_OF "java/lang/String" "coder" "B" (.int 0) q.1 A s s.heap ∧ va_OF "java/lang/String" "value" "[B" (.ref q.2) q.1 A s s.heap ∧ va_T .byte q.2 (st_b i).length (fun j => .int ((st_b i).getD j 0)) A s s.heap := by
    intro i
    by_cases hi : i < 30
    · obtain ⟨a, c, cA, kA, q1, q2, q3, q4, q5, q6, -⟩ := Cond.exactly_spec (args := args) (first := s) (o := none) (s := s) (idx := []) (t := lw_tm i) (cls := "java/lang/String") (hs _ (lw_f1 i hi))
      obtain ⟨t, ht, hT⟩ := va_Tof (f := fun j => .int ((st_b i).getD j 0)) (A := A) (lw_f6 i hi) (hs _ (lw_f3 i hi)) (va_eqt (hs _ (lw_f4 i hi))) (fun j hj => va_eqt (hs _ (lw_f5 i hi j hj))) hA
      obtain ⟨tx, htx⟩ := lw_sr_of hts i hi
      exact ⟨(a, t), fun _ => ⟨⟨tx, vk_R.of htx q1⟩, ⟨cA, q3, q5, by rw [q6]; exact q2, hA a (Array.getElem?_eq_some_iff.mp q3).1⟩, vk_OFof q1 (va_eqt (hs _ (lw_f2 i hi))) hA, vk_OFof q1 ht hA, hT⟩⟩
    · exact ⟨(0, 0), fun h => absurd h hi⟩
  obtain ⟨ad, had⟩ := Classical.axiomOfChoice h0
  exact ⟨ad, had⟩
set_option maxRecDepth 100000 in
theorem lw_nw : ∀ q ∈ aw_tn, Cond.methodLinkNest q.1 q.2.1 q.2.2 "AddressTerms" ∈ lw_tbl := by decide +kernel
set_option maxRecDepth 100000 in
theorem lw_o2 : Cond.arrayOver (.object aw_c2) ∈ lw_tbl := by decide +kernel
set_option maxRecDepth 100000 in
theorem lw_o3 : Cond.arrayOver (.object aw_c3) ∈ lw_tbl := by decide +kernel
set_option maxRecDepth 100000 in
theorem lw_z1 : Cond.laysStatic "java/lang/String" "COMPACT_STRINGS" "Z" ∈ lw_tbl := by decide +kernel
set_option maxRecDepth 100000 in
theorem lw_z2 : Cond.initialized "java/lang/String" ∈ lw_tbl := by decide +kernel
set_option maxRecDepth 100000 in
theorem lw_z3 : Cond.eq (.static "java/lang/String" "COMPACT_STRINGS" "Z") (.int 1) ∈ lw_fl := by decide +kernel
set_option maxRecDepth 100000 in
theorem lw_z4 : Cond.laysStatic "jdk/internal/util/Preconditions" "SIOOBE_FORMATTER" "Ljava/util/function/BiFunction;" ∈ lw_tbl := by decide +kernel
set_option maxRecDepth 100000 in
theorem lw_z5 : Cond.initialized "jdk/internal/util/Preconditions" ∈ lw_tbl := by decide +kernel
set_option maxRecDepth 100000 in
theorem lw_z6 : Cond.isRef (.static "jdk/internal/util/Preconditions" "SIOOBE_FORMATTER" "Ljava/util/function/BiFunction;") ∈ lw_fl := by decide +kernel
theorem lw_env {p : Program} {s : State} {m : MethodId} {meth : Method} {c : Code} {b L : Nat} {xs : Nat → Int32} (C0 : lw_At p s m meth c b L xs) : ∃ E : aw_E, E.2.2.1 = s.heap.size ∧ aw_C p s m #[Value.ref b] meth c E code 4 "AddressTermsLaw" ret := by
  obtain ⟨hx, hb, hr, hml, hown, hts, hX, hbl, hlocks, hgv⟩ := C0
  have hs : ∀ w ∈ lw_fl, w.before #[Value.ref b] s = true := flat_of_before _ hgv
  have hta : ∀ w ∈ aw_tw, w.before #[Value.ref b] s = true := fun w h => hts w (aw_tw_in w h)
  obtain ⟨c0, i0, k0⟩ := u_known hta I_Px.2.1 (hta _ n_ib_Px)
  obtain ⟨c1, i1, k1⟩ := u_known hta I_Rf.2.1 (hta _ n_ib_Rf)
  obtain ⟨c2, i2, k2⟩ := u_known hta I_Rs.2.1 (hta _ n_ib_Rs)
  obtain ⟨c3, i3, k3⟩ := u_known hta I_Rw.2.1 (hta _ n_ib_Rw)
  obtain ⟨c4, i4, k4⟩ := u_known hta I_Tm.2.1 (hta _ n_ib_Tm)
  obtain ⟨c5, i5, k5⟩ := u_known hta I_At.2.1 (hta _ n_ib_At)
  obtain ⟨c6, i6, k6⟩ := u_known hta I_Md.2.1 (hta _ n_ib_Md)
  obtain ⟨a0, q0, p0, e01, e02, e03⟩ := Cond.arrayClass_spec (args := #[Value.ref b]) (first := s) (o := none) (s := s) (idx := []) (hta _ n_ac_byte)
  obtain ⟨a1, q1, p1, e11, e12, e13⟩ := Cond.arrayClass_spec (args := #[Value.ref b]) (first := s) (o := none) (s := s) (idx := []) (hta _ n_ac_int)
  obtain ⟨p2, a2, q2, e21, -, e22, e23, e24⟩ := Cond.arrayOver_spec (args := #[Value.ref b]) (first := s) (o := none) (s := s) (idx := []) (hts _ lw_o2)
  obtain ⟨p3, a3, q3, e31, -, e32, e33, e34⟩ := Cond.arrayOver_spec (args := #[Value.ref b]) (first := s) (o := none) (s := s) (idx := []) (hts _ lw_o3)
  obtain ⟨ad, had⟩ := lw_lits (A := fun q => s.heap.size ≤ q) hs hts (fun a h => Nat.not_le.mpr h)
  refine ⟨((fun k => match k with | 0 => c0 | 1 => c1 | 2 => c2 | 3 => c3 | 4 => c4 | 5 => c5 | _ => c6, fun k => match k with | 0 => i0 | 1 => i1 | 2 => i2 | 3 => i3 | 4 => i4 | 5 => i5 | _ => i6), fun k => match k with | 0 => a0 | 1 => a1 | 2 => a2 | _ => a3, s.heap.size, fun i => (ad i).1, fun i => (ad i).2), rfl, ⟨hx, hb, hml, hown, hta⟩, ⟨?_, ?_⟩, ⟨fun i hi => ?_, ?_, ?_, ?_, ?_, ?_⟩, Nat.le_refl _, hr, hlocks⟩
  · intro k q hq
    rcases k with _ | _ | _ | _ | _ | _ | _ | k
    · cases hq; exact k0
    · cases hq; exact k1
    · cases hq; exact k2
    · cases hq; exact k3
    · cases hq; exact k4
    · cases hq; exact k5
    · cases hq; exact k6
    · cases hq
  · intro k q hq
    rcases k with _ | _ | _ | _ | k
    · cases hq
      exact ⟨fun n z => ⟨fun k h => (by cases h), q0, e02, p0, e03⟩, e01⟩
    · cases hq
      exact ⟨fun n z => ⟨fun k h => (by cases h), q1, e12, p1, e13⟩, e11⟩
    · cases hq
      exact ⟨fun n z => ⟨fun k h => (by cases h), q2, e22, p2, e23⟩, q2, p2, e22, e23, e21, e24⟩
    · cases hq
      exact ⟨fun n z => ⟨fun k h => (by cases h), q3, e32, p3, e33⟩, q3, p3, e32, e33, e31, e34⟩
    · cases hq
  · exact had i hi
  · exact va_Zof (hts _ lw_z1) (hts _ lw_z2) (va_eqt (hs _ lw_z3)) (fun a h => Nat.not_le.mpr h)
  · exact fun q hq => va_Nw.of rfl (hts _ (lw_nw q hq))
  · exact va_AO.of (hts _ lw_o2)
  · exact va_AO.of (hts _ lw_o3)
  · exact va_Zqof (hts _ lw_z4) (hts _ lw_z5) (hs _ lw_z6) (fun a h => Nat.not_le.mpr h)
