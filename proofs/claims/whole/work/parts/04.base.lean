/-! THE WALK OVER AN ABSTRACT HEAP: what it is -/
def aw_up (g : AH) (a : Nat) (e : va_E) : AH := fun x => if x = a then some e else g x
theorem aw_up_s (g : AH) (a : Nat) (e : va_E) : aw_up g a e a = some e := by simp [aw_up]
theorem aw_up_n {g : AH} {a b : Nat} {e : va_E} (h : b ≠ a) : aw_up g a e b = g b := by simp [aw_up, h]
def aw_tys (E : aw_E) : List (ClassId × FieldType) := [(E.2.1 0, .byte), (E.2.1 1, .int), (E.2.1 2, .object aw_c2), (E.2.1 3, .object aw_c3)]
def aw_R (E : aw_E) (g : AH) (n : Nat) (H : Heap) : Prop := H.size = n ∧ ∀ (a : Nat) (e : va_E), g a = some e → va_at E.1 vwCl (a, e) H
theorem aw_R.lt {E : aw_E} {g : AH} {n : Nat} {H : Heap} (h : aw_R E g n H) {a : Nat} {e : va_E} (ha : g a = some e) : a < n := by
  rw [← h.1]; exact (h.2 a e ha).lt
/-- a cell is written -/
theorem aw_R.put {E : aw_E} {g : AH} {n : Nat} {H H1 : Heap} (h : aw_R E g n H) (a : Nat) (e : va_E) (z : H1.size = H.size) (oq : ∀ q : Nat, q ≠ a → H1[q]? = H[q]?) (he : va_at E.1 vwCl (a, e) H1) : aw_R E (aw_up g a e) n H1 := by
  refine ⟨z.trans h.1, fun b eb hb => ?_⟩
  by_cases hq : b = a
  · subst hq
    rw [aw_up_s] at hb
    cases hb
    exact he
  · rw [aw_up_n hq] at hb
    exact (h.2 b eb hb).kept (oq b hq)
/-- a cell is made -/
theorem aw_R.push {E : aw_E} {g : AH} {n : Nat} {H H1 : Heap} (h : aw_R E g n H) (e : va_E) (z : H1.size = n + 1) (oq : ∀ q : Nat, q < n → H1[q]? = H[q]?) (he : va_at E.1 vwCl (n, e) H1) : aw_R E (aw_up g n e) (n + 1) H1 := by
  refine ⟨z, fun b eb hb => ?_⟩
  by_cases hq : b = n
  · subst hq
    rw [aw_up_s] at hb
    cases hb
    exact he
  · rw [aw_up_n hq] at hb
    exact (h.2 b eb hb).kept (oq b (h.lt hb))
/-- the locals by their places -/
def aw_pos : Nat → List (Option Value) → List (Nat × Value)
  | _, [] => []
  | k, none :: r => aw_pos (k + 1) r
  | k, some v :: r => (k, v) :: aw_pos (k + 1) r
theorem aw_pos_mem : ∀ (lv : List (Option Value)) (k : Nat) (q : Nat × Value), q ∈ aw_pos k lv ↔ ∃ j : Nat, lv[j]? = some (some q.2) ∧ q.1 = k + j := by
  intro lv
  induction lv with
  | nil => intro k q; simp [aw_pos]
  | cons o r ih =>
    intro k q
    cases o with
    | none =>
      rw [aw_pos, ih]
      constructor
      · rintro ⟨j, h1, h2⟩
        exact ⟨j + 1, by simpa using h1, by omega⟩
      · rintro ⟨j, h1, h2⟩
        cases j with
        | zero => simp at h1
        | succ j => exact ⟨j, by simpa using h1, by omega⟩
    | some v =>
      rw [aw_pos, List.mem_cons, ih]
      constructor
      · rintro (rfl | ⟨j, h1, h2⟩)
        · exact ⟨0, by simp, by simp⟩
        · exact ⟨j + 1, by simpa using h1, by omega⟩
      · rintro ⟨j, h1, h2⟩
        cases j with
        | zero =>
          left
          obtain ⟨q1, q2⟩ := q
          simp at h1 h2
          rw [h1, h2]
        | succ j => exact Or.inr ⟨j, by simpa using h1, by omega⟩
theorem aw_pos_in {lv : List (Option Value)} {i : Nat} {v : Value} (h : lv[i]? = some (some v)) : (i, v) ∈ aw_pos 0 lv := (aw_pos_mem lv 0 (i, v)).mpr ⟨i, h, (Nat.zero_add i).symm⟩
theorem aw_pos_at {ls : Array Slot} {nL : Nat} {lv : List (Option Value)} (h : lv_has ls nL (aw_pos 0 lv)) {i : Nat} {v : Value} (hv : lv[i]? = some (some v)) : ls[i]? = some (.val v) := h.2.2 (i, v) (aw_pos_in hv)
/-- no long stands just before this place -/
def aw_nl (lv : List (Option Value)) (i : Nat) : Bool := match i with
  | 0 => true
  | i + 1 => match lv[i]? with
    | some (some v) => !(v.category == 2)
    | _ => true
theorem aw_nl_use {lv : List (Option Value)} {i j : Nat} {v : Value} (h : aw_nl lv i = true) (hj : lv[j]? = some (some v)) (hi : j + 1 = i) : (v.category == 2) = false := by
  subst hi
  simpa [aw_nl, hj] using h
theorem aw_pos_set {ls2 : Array Slot} {nL i : Nat} {lv : List (Option Value)} {v : Value} (hp : aw_nl lv i = true) (h : lv_has ls2 nL ((i, v) :: (aw_pos 0 lv).filter (fun q => !(q.1 == i) && !(q.1 + 1 == i && q.2.category == 2)))) : lv_has ls2 nL (aw_pos 0 (lv.set i (some v))) := by
  refine ⟨h.1, h.2.1, fun q hq => ?_⟩
  obtain ⟨j, hj, e⟩ := (aw_pos_mem _ 0 q).mp hq
  obtain ⟨q1, q2⟩ := q
  have e : q1 = j := by simpa using e
  subst e
  by_cases hji : q1 = i
  · subst hji
    rw [List.getElem?_set_self'] at hj
    cases hl : lv[q1]? with
    | none => simp [hl] at hj
    | some o =>
      simp [hl] at hj
      subst hj
      exact h.2.2 _ List.mem_cons_self
  · rw [List.getElem?_set_ne (fun z => hji z.symm)] at hj
    refine h.2.2 _ (List.mem_cons_of_mem _ (List.mem_filter.mpr ⟨aw_pos_in hj, ?_⟩))
    by_cases hk : q1 + 1 = i
    · have := aw_nl_use hp hj hk
      simp [hji, this]
    · simp [hji, hk]
theorem aw_pos_set2 {ls2 : Array Slot} {nL i : Nat} {lv : List (Option Value)} {v : Value} (hp : aw_nl lv i = true) (h : lv_has ls2 nL ((i, v) :: (aw_pos 0 lv).filter (fun q => !(q.1 == i) && (!(q.1 == i + 1) && !(q.1 + 1 == i && q.2.category == 2))))) : lv_has ls2 nL (aw_pos 0 ((lv.set i (some v)).set (i + 1) none)) := by
  refine ⟨h.1, h.2.1, fun q hq => ?_⟩
  obtain ⟨j, hj, e⟩ := (aw_pos_mem _ 0 q).mp hq
  obtain ⟨q1, q2⟩ := q
  have e : q1 = j := by simpa using e
  subst e
  by_cases h2 : q1 = i + 1
  · subst h2
    rw [List.getElem?_set_self'] at hj
    cases hl : (lv.set i (some v))[i + 1]? with
    | none => simp [hl] at hj
    | some o => simp [hl] at hj
  · rw [List.getElem?_set_ne (fun z => h2 z.symm)] at hj
    by_cases hji : q1 = i
    · subst hji
      rw [List.getElem?_set_self'] at hj
      cases hl : lv[q1]? with
      | none => simp [hl] at hj
      | some o =>
        simp [hl] at hj
        subst hj
        exact h.2.2 _ List.mem_cons_self
    · rw [List.getElem?_set_ne (fun z => hji z.symm)] at hj
      refine h.2.2 _ (List.mem_cons_of_mem _ (List.mem_filter.mpr ⟨aw_pos_in hj, ?_⟩))
      by_cases hk : q1 + 1 = i
      · have := aw_nl_use hp hj hk
        simp [hji, h2, this]
      · simp [hji, h2, hk]
/-- what a method's walk stands on -/
def aw_C (p : Program) (s : State) (m : MethodId) (args : Array Value) (meth : Method) (c : Code) (E : aw_E) (cc : ByteArray) (nL : Nat) (own : String) (ret : Option FieldType) : Prop :=
  CallFix p m c cc nL s args aw_tw own ∧ va_K E.1 vwCl (aw_tys E) s ∧ aw_St E s s.heap ∧ E.2.2.1 ≤ s.heap.size ∧ meth.sig.returnType = ret ∧ meth.locks = false
/-- the machine's walk, from here to Q -/
def AW (p : Program) (l : Launch) (e : Env) (R : Room) (s : State) (m : MethodId) (args : Array Value) (below : List Frame) (meth : Method) (c : Code) (E : aw_E) (nL : Nat) (Q : State → Prop) (mc ms : Nat) (g : AH) (n pc : Nat) (lv : List (Option Value)) (st : List Value) : Prop :=
  ∀ (H : Heap) (locs : List Loc) (ls : Array Slot), aw_R E g n H → va_S (aw_A E) s.heap H locs → lv_has ls nL (aw_pos 0 lv) → W p l e R s m args below meth c H locs mc ms Q (F0 m pc ls st)
/-- a method's end: its answer, the abstract heap behind it and its number of cells are as Post says -/
def aw_Q (E : aw_E) (Post : Option Value → AH → Nat → Prop) : Array Value → State → Outcome → State → Prop := fun _ st oc t => (∃ (r : Option Value) (g2 : AH) (n2 : Nat), oc = .returned r ∧ Post r g2 n2 ∧ aw_R E g2 n2 t.heap) ∧ va_F (aw_A E) st t
def aw_Z (E : aw_E) (Post : Option Value → AH → Nat → Prop) (below : List Frame) (args : Array Value) (s : State) (MC MS : Nat) : State → Prop := MQ below (aw_Q E Post) args s MC MS (aw_A E)
def aw_K (E : aw_E) (U : State) : Prop := va_K E.1 vwCl (aw_tys E) U ∧ aw_St E U U.heap ∧ E.2.2.1 ≤ U.heap.size
/-- answers by their kind -/
def aw_Pi (P : Int32 → AH → Nat → Prop) : Option Value → AH → Nat → Prop := fun r g n => ∃ v : Int32, r = some (.int v) ∧ P v g n
def aw_Pl (P : Int64 → AH → Nat → Prop) : Option Value → AH → Nat → Prop := fun r g n => ∃ v : Int64, r = some (.long v) ∧ P v g n
def aw_Pq (P : Option Nat → AH → Nat → Prop) : Option Value → AH → Nat → Prop := fun r g n => ∃ v : Option Nat, r = some (va_rf v) ∧ P v g n
def aw_Pv (P : AH → Nat → Prop) : Option Value → AH → Nat → Prop := fun r g n => r = none ∧ P g n
/-- THE CONTRACT: method y (bytes cc, nL locals, answer's type ret), called at the heap g of n cells with av, returns as Post says; it nests d frames, makes at most mc cells of ms slots -/
def EV (l : Launch) (E : aw_E) (d mc ms : Nat) (y : MethodName) (cc : ByteArray) (nL : Nat) (ret : Option FieldType) (g : AH) (n : Nat) (av : List Value) (Post : Option Value → AH → Nat → Prop) : Prop :=
  Met l y (Cond.code y cc nL ret :: aw_tw) { frames := d, cells := mc, slots := ms, locals := 40 * d } (va_Pc av (fun U => aw_R E g n U.heap ∧ aw_K E U)) (aw_Q E Post) mc ms (aw_A E)
theorem aw_enter {l : Launch} {E : aw_E} {d mc ms : Nat} {y : MethodName} {cc : ByteArray} {nL : Nat} {ret : Option FieldType} {g : AH} {n : Nat} {av : List Value} {Post : Option Value → AH → Nat → Prop} (own : String) (lv : List (Option Value)) (hy : plainName y.cls = true) (hown : y.cls = own) (hlv : lv_args 0 av = aw_pos 0 lv) (hlen : (lg_sl av).length ≤ nL)
    (body : ∀ (p : Program) (e : Env) (s : State) (m : MethodId) (args : Array Value) (below : List Frame) (meth : Method) (c : Code), aw_C p s m args meth c E cc nL own ret → meth.name = y.name → AW p l e { frames := d, cells := mc, slots := ms, locals := 40 * d } s m args below meth c E nL (aw_Z E Post below args s mc ms) 0 0 g n 0 lv []) : EV l E d mc ms y cc nL ret g n av Post := by
  subst hown
  refine Met.ofW (cc := cc) (maxL := nL) (ret := ret) hy rfl ?_
  intro p e s m args below meth c s₁ B hml hv
  obtain ⟨rfl, hR, hK, hSt, hb0⟩ := hv
  have hts := atoms_spec (ws := Cond.code y cc nL ret :: aw_tw) B.pre
  have hl := lv_entry av (n := nL) hlen
  rw [lg_entry_eq]
  rw [hlv] at hl
  exact body p e s m _ below meth c ⟨⟨B.exec, B.bytes, hml, findClass_of_methodNamed B.named, fun w h => hts w (List.mem_cons_of_mem _ h)⟩, hK, hSt, hb0, B.returns, B.notSynchronized⟩ (name_of_methodNamed B.named B.method).1 s.heap [] _ hR va_S.rf hl
theorem aw_one {D : va_G} {cl : List vw_C} {q : Nat × va_E} {H : Heap} (h : va_at D cl q H) : va_P D cl [q] H := by
  intro k q2 hk
  cases k with
  | zero => cases hk; exact h
  | succ k => simp at hk
/-- a class of the worlds: its number, name, fields, their types -/
def aw_CI (ci : Nat) (C : String) (T : u_T) (N : Nat) (ty : Nat → FieldType) : Prop := vwCl[ci]? = some (C, T, N) ∧ (∀ w ∈ u_ws C T N, w ∈ aw_tw) ∧ (∀ k, k < N → parseFieldDescriptor (T k).2.2.1 = some (ty k)) ∧ (∀ a, a < N → ∀ b, b < N → a ≠ b → (T a).2.1 ≠ (T b).2.1)
section AWHeap
variable {p : Program} {l : Launch} {e : Env} {R : Room} {s : State} {m : MethodId} {args : Array Value} {below : List Frame} {meth : Method} {c : Code} {E : aw_E} {cc : ByteArray} {nL : Nat} {own : String} {ret : Option FieldType} {Q : State → Prop} {mc ms : Nat} {g : AH} {n pc : Nat} {lv : List (Option Value)} {st : List Value}
theorem aw_getf (S : aw_C p s m args meth c E cc nL own ret) {ci N : Nat} {C : String} {T : u_T} {ty : Nat → FieldType} (I : aw_CI ci C T N ty) (k : Nat) {a : Nat} {fs : List Value} (ha : g a = some (.inr (ci, fs))) {i : Nat} (hw : Cond.fieldLink own i (T k).1 (T k).2.1 (T k).2.2.1 ∈ aw_tw) (hd : decode cc pc = .ok (.getfield i, 3)) {v : Value} (hv : fs[k]? = some v) (hk : k < N)
    (kk : AW p l e R s m args below meth c E nL Q mc ms g n (pc + 3) lv (v :: st)) : AW p l e R s m args below meth c E nL Q mc ms g n pc lv (.ref a :: st) :=
  fun H locs ls hR hS hl => va_get (D := E.1) (cl := vwCl) (ws := [(a, .inr (ci, fs))]) S.1.1 S.1.2.1 S.1.2.2.2.2 I.2.1 S.1.2.2.2.1 S.2.1 (aw_one (hR.2 a _ ha)) 0 rfl I.1 k hk (S.1.2.2.2.2 _ hw) (fun _ h => h) hv hd (kk H locs ls hR hS hl)
theorem aw_putf (S : aw_C p s m args meth c E cc nL own ret) {ci N : Nat} {C : String} {T : u_T} {ty : Nat → FieldType} (I : aw_CI ci C T N ty) (k : Nat) {a : Nat} {fs : List Value} (ha : g a = some (.inr (ci, fs))) {i : Nat} (hw : Cond.fieldLink own i (T k).1 (T k).2.1 (T k).2.2.1 ∈ aw_tw) (hd : decode cc pc = .ok (.putfield i, 3)) {v : Value} {fs2 : List Value} (hs : fs.set k v = fs2) (hA : E.2.2.1 ≤ a) (hfin : (T k).2.2.2 = false) (hn : narrow (ty k) v = v) (hfit : fits (ty k) v = true) (hk : k < N) (hlen : k < fs.length)
    (kk : AW p l e R s m args below meth c E nL Q mc ms (aw_up g a (.inr (ci, fs2))) n (pc + 3) lv st) : AW p l e R s m args below meth c E nL Q mc ms g n pc lv (v :: .ref a :: st) := by
  subst hs
  intro H locs ls hR hS hl
  have hap := va_apart (own := own) S.1.2.2.2.2 I.2.1 ty I.2.2.1 I.2.2.2 S.2.1 I.1
  obtain ⟨r, h1, cell, q1, q2, q3, q4⟩ := hR.2 a _ ha
  have hr : r = (C, T, N) := Option.some.inj (h1.symm.trans I.1)
  subst hr
  obtain ⟨hSl, hfc, kC, hkC, hkind⟩ := S.2.1.1 ci _ I.1
  obtain ⟨cf, kf, fi, f, hi, hsl⟩ := hSl k hk
  have hlay := S.1.2.2.2.2 _ (I.2.1 _ (u_in_lay hk))
  unfold u_lay at hlay
  rw [if_neg (by rw [hfin]; decide)] at hlay
  have hst := (u_facts hfc hkC (u_lays S.1.2.2.2.2 I.2.1 hk) hi).1
  have h6 := u_store hfc hkC hkind hlay hi (I.2.2.1 k hk) hn hfit
  refine W.putK S.1.1 S.1.2.1 (f := f) ⟨S.1.2.2.2.1, S.1.2.2.2.2 _ hw, ⟨_, _, _, hi⟩, hst⟩ (by rw [q2]; exact h6) q1 q3 (by rw [hsl]; exact k2_hasslot (q4 k hk)) rfl rfl hd fun H' e1 e2 e3 => ?_
  rw [hsl] at e1 ⊢
  exact kk H' _ ls (hR.put a _ e2 e3 ⟨_, I.1, t_OB.to (V := updV (vp_V fs) k v) ⟨_, e1, q2, q3, t_set q4 hap hk v⟩ (fun j _ => vp_updV_set hlen v j)⟩) (hS.put e2 e3 hA) hl
theorem aw_putF (S : aw_C p s m args meth c E cc nL own ret) {ci N : Nat} {C : String} {T : u_T} {ty : Nat → FieldType} (I : aw_CI ci C T N ty) (k : Nat) {a : Nat} {fs : List Value} (ha : g a = some (.inr (ci, fs))) {i : Nat} (hw : Cond.fieldLink own i (T k).1 (T k).2.1 (T k).2.2.1 ∈ aw_tw) (hd : decode cc pc = .ok (.putfield i, 3)) {v : Value} {fs2 : List Value} (hs : fs.set k v = fs2) (hA : E.2.2.1 ≤ a) (hfin : (T k).2.2.2 = true) (hin2 : meth.name = "<init>") (hdecl : (T k).1 = own) (hn : narrow (ty k) v = v) (hfit : fits (ty k) v = true) (hk : k < N) (hlen : k < fs.length)
    (kk : AW p l e R s m args below meth c E nL Q mc ms (aw_up g a (.inr (ci, fs2))) n (pc + 3) lv st) : AW p l e R s m args below meth c E nL Q mc ms g n pc lv (v :: .ref a :: st) := by
  subst hs
  intro H locs ls hR hS hl
  have hap := va_apart (own := own) S.1.2.2.2.2 I.2.1 ty I.2.2.1 I.2.2.2 S.2.1 I.1
  obtain ⟨r, h1, cell, q1, q2, q3, q4⟩ := hR.2 a _ ha
  have hr : r = (C, T, N) := Option.some.inj (h1.symm.trans I.1)
  subst hr
  obtain ⟨hSl, hfc, kC, hkC, hkind⟩ := S.2.1.1 ci _ I.1
  obtain ⟨cf, kf, fi, f, hi, hsl⟩ := hSl k hk
  have hlay := S.1.2.2.2.2 _ (I.2.1 _ (u_in_lay hk))
  unfold u_lay at hlay
  rw [if_pos hfin] at hlay
  have hst := (u_facts hfc hkC (u_lays S.1.2.2.2.2 I.2.1 hk) hi).1
  have hcf : m.cls = cf := by
    obtain ⟨_, _, c', _, _, _, -, -, hf', -, -, -, hown2, -⟩ := Cond.laysFinal_spec hlay
    have e1 : c' = cf := by have := hi.symm.trans hf'; simp at this; exact this.1.symm
    rw [hdecl] at hown2
    rw [← e1]; exact Option.some.inj (S.1.2.2.2.1.symm.trans hown2)
  have h6 := u_fits hfc hkC hkind (Or.inr hlay) hi (I.2.2.1 k hk) hn hfit
  refine W.putFinK S.1.1 S.1.2.1 S.1.2.2.2.1 (S.1.2.2.2.2 _ hw) hi hst hcf hin2 (by rw [q2]; exact h6) q1 q3 (by rw [hsl]; exact k2_hasslot (q4 k hk)) rfl rfl hd fun H' e1 e2 e3 => ?_
  rw [hsl] at e1 ⊢
  exact kk H' _ ls (hR.put a _ e2 e3 ⟨_, I.1, t_OB.to (V := updV (vp_V fs) k v) ⟨_, e1, q2, q3, t_set q4 hap hk v⟩ (fun j _ => vp_updV_set hlen v j)⟩) (hS.put e2 e3 hA) hl
theorem aw_iald (S : aw_C p s m args meth c E cc nL own ret) {a N : Nat} {f : Nat → Int32} (ha : g a = some (.inl (E.2.1 1, N, .inl f))) {i : Int32} (hd : decode cc pc = .ok (.iaload, 1)) (hin : vp_in i N) (kk : AW p l e R s m args below meth c E nL Q mc ms g n (pc + 1) lv (.int (f i.toNatClampNeg) :: st)) : AW p l e R s m args below meth c E nL Q mc ms g n pc lv (.int i :: .ref a :: st) :=
  fun H locs ls hR hS hl => va_iald (D := E.1) (cl := vwCl) (ws := [(a, .inl (E.2.1 1, N, .inl f))]) (tys := aw_tys E) S.1.1 S.1.2.1 S.2.1 (aw_one (hR.2 a _ ha)) 0 1 rfl rfl hin hd (kk H locs ls hR hS hl)
theorem aw_bald (S : aw_C p s m args meth c E cc nL own ret) {a N : Nat} {f : Nat → Int32} (ha : g a = some (.inl (E.2.1 0, N, .inl f))) {i : Int32} (hd : decode cc pc = .ok (.baload, 1)) (hin : vp_in i N) (kk : AW p l e R s m args below meth c E nL Q mc ms g n (pc + 1) lv (.int (f i.toNatClampNeg) :: st)) : AW p l e R s m args below meth c E nL Q mc ms g n pc lv (.int i :: .ref a :: st) :=
  fun H locs ls hR hS hl => va_bald (D := E.1) (cl := vwCl) (ws := [(a, .inl (E.2.1 0, N, .inl f))]) (tys := aw_tys E) S.1.1 S.1.2.1 S.2.1 (aw_one (hR.2 a _ ha)) 0 0 rfl rfl hin hd (kk H locs ls hR hS hl)
theorem aw_aald (S : aw_C p s m args meth c E cc nL own ret) (t : Nat) {a N : Nat} {f : Nat → Option Nat} {cA : ClassId} {C : String} (ht : (aw_tys E)[t]? = some (cA, .object C)) (ha : g a = some (.inl (cA, N, .inr (.inr (.inr (.inr f)))))) {i : Int32} (hd : decode cc pc = .ok (.aaload, 1)) (hin : vp_in i N) (kk : AW p l e R s m args below meth c E nL Q mc ms g n (pc + 1) lv (va_rf (f i.toNatClampNeg) :: st)) : AW p l e R s m args below meth c E nL Q mc ms g n pc lv (.int i :: .ref a :: st) :=
  fun H locs ls hR hS hl => va_aldq (D := E.1) (cl := vwCl) (ws := [(a, .inl (cA, N, .inr (.inr (.inr (.inr f)))))]) (tys := aw_tys E) S.1.1 S.1.2.1 S.2.1 (aw_one (hR.2 a _ ha)) 0 t rfl ht hin hd (kk H locs ls hR hS hl)
theorem aw_alen (S : aw_C p s m args meth c E cc nL own ret) (t : Nat) {a : Nat} {x : vp_A} {cA : ClassId} {ty : FieldType} (ht : (aw_tys E)[t]? = some (cA, ty)) (ha : g a = some (.inl (cA, x))) (hd : decode cc pc = .ok (.arraylength, 1)) (kk : AW p l e R s m args below meth c E nL Q mc ms g n (pc + 1) lv (.int (nI x.1) :: st)) : AW p l e R s m args below meth c E nL Q mc ms g n pc lv (.ref a :: st) :=
  fun H locs ls hR hS hl => va_alen (D := E.1) (cl := vwCl) (ws := [(a, .inl (cA, x))]) (tys := aw_tys E) S.1.1 S.1.2.1 S.2.1 (aw_one (hR.2 a _ ha)) 0 t rfl ht rfl hd (kk H locs ls hR hS hl)
theorem aw_iast (S : aw_C p s m args meth c E cc nL own ret) {a N : Nat} {f : Nat → Int32} (ha : g a = some (.inl (E.2.1 1, N, .inl f))) {i x : Int32} (hd : decode cc pc = .ok (.iastore, 1)) (hA : E.2.2.1 ≤ a) (hin : vp_in i N) (kk : AW p l e R s m args below meth c E nL Q mc ms (aw_up g a (.inl (E.2.1 1, N, .inl (upd f i.toNatClampNeg x)))) n (pc + 1) lv st) : AW p l e R s m args below meth c E nL Q mc ms g n pc lv (.int x :: .int i :: .ref a :: st) := by
  intro H locs ls hR hS hl
  refine W.iast S.1.1 S.1.2.1 (hR.2 a _ ha) ((S.2.1.2 1 _ rfl).1 N (fun j => .int (f j))) (fun q => by cases q) (by show ¬ (i < 0 ∨ (arrV _ _ _).slots.size ≤ _); rw [arrV_size]; exact hin) rfl rfl hd fun H1 e1 z oq => ?_
  refine kk H1 _ ls (hR.put a _ z oq ?_) (hS.put z oq hA) hl
  show H1[a]? = some (vp_cell _ _)
  rw [e1]
  dsimp only
  rw [vp_cell_i, vp_cell_i, arrV_store]
  congr 2
  funext q
  by_cases hq : q = i.toNatClampNeg
  · subst hq
    simp [updV, upd]
  · simp [updV, upd, hq]
theorem aw_bast (S : aw_C p s m args meth c E cc nL own ret) {a N : Nat} {f : Nat → Int32} (ha : g a = some (.inl (E.2.1 0, N, .inl f))) {i x : Int32} (hd : decode cc pc = .ok (.bastore, 1)) (hA : E.2.2.1 ≤ a) (hin : vp_in i N) (kk : AW p l e R s m args below meth c E nL Q mc ms (aw_up g a (.inl (E.2.1 0, N, .inl (upd f i.toNatClampNeg x.toInt8.toInt32)))) n (pc + 1) lv st) : AW p l e R s m args below meth c E nL Q mc ms g n pc lv (.int x :: .int i :: .ref a :: st) := by
  intro H locs ls hR hS hl
  refine W.bast S.1.1 S.1.2.1 (hR.2 a _ ha) ((S.2.1.2 0 _ rfl).1 N (fun j => .int (f j))) (fun q => by cases q) (by show ¬ (i < 0 ∨ (arrV _ _ _).slots.size ≤ _); rw [arrV_size]; exact hin) rfl rfl hd fun H1 e1 z oq => ?_
  refine kk H1 _ ls (hR.put a _ z oq ?_) (hS.put z oq hA) hl
  show H1[a]? = some (vp_cell _ _)
  rw [e1]
  dsimp only
  rw [vp_cell_i, vp_cell_i, arrV_store, narrow_byte]
  congr 2
  funext q
  by_cases hq : q = i.toNatClampNeg
  · subst hq
    simp [updV, upd]
  · simp [updV, upd, hq]
theorem aw_aast (S : aw_C p s m args meth c E cc nL own ret) (t : Nat) {ci N a v : Nat} {C : String} {T : u_T} {NF : Nat} {ty : Nat → FieldType} (I : aw_CI ci C T NF ty) {cA : ClassId} (ht : (aw_tys E)[t]? = some (cA, .object C)) {f : Nat → Option Nat} {vs : List Value} (ha : g a = some (.inl (cA, N, .inr (.inr (.inr (.inr f)))))) (hv : g v = some (.inr (ci, vs))) {i : Int32} (hd : decode cc pc = .ok (.aastore, 1)) (hA : E.2.2.1 ≤ a) (hin : vp_in i N) (kk : AW p l e R s m args below meth c E nL Q mc ms (aw_up g a (.inl (cA, N, .inr (.inr (.inr (.inr (va_up f i.toNatClampNeg (some v)))))))) n (pc + 1) lv st) : AW p l e R s m args below meth c E nL Q mc ms g n pc lv (.ref v :: .int i :: .ref a :: st) := by
  intro H locs ls hR hS hl
  have hlt : i.toNatClampNeg < N := Nat.not_le.mp fun q => hin (Or.inr q)
  have h0 : ¬ i < 0 := fun q => hin (Or.inl q)
  obtain ⟨r', hr', cellV, g1, g2, g3, -⟩ := hR.2 v _ hv
  have hcls := (S.2.1.1 ci _ I.1).2
  obtain ⟨kA, comp, k1, k2, k3, -⟩ := (S.2.1.2 t _ ht).2
  have hcomp : comp = E.1.1 ci := Option.some.inj (k3.symm.trans hcls.1)
  subst hcomp
  obtain ⟨kC, hkC, -⟩ := hcls.2
  refine W.aast S.1.1 S.1.2.1 (hR.2 a _ ha) (fun q h => by cases h) (fun h => by cases h) k1 k2 rfl hkC ⟨h0, by show _ < (arrV _ _ _).slots.size; rw [arrV_size]; exact hlt⟩ g1 (fun q h => by rw [g3] at h; cases h) (by rw [g2]; exact hkC) (by rw [g2]; exact va_assign hcls) rfl rfl hd fun H1 e1 z oq => ?_
  refine kk H1 _ ls (hR.put a _ z oq ?_) (hS.put z oq hA) hl
  show H1[a]? = some (vp_cell _ _)
  rw [e1]
  dsimp only
  rw [vp_cell_q, vp_cell_q, arrV_store]
  congr 2
  funext q
  by_cases hq : q = i.toNatClampNeg
  · subst hq
    simp [updV, va_up, va_rf]
  · simp [updV, va_up, hq]
theorem aw_new (S : aw_C p s m args meth c E cc nL own ret) {ci N : Nat} {C : String} {T : u_T} {ty : Nat → FieldType} (I : aw_CI ci C T N ty) {i : Nat} (hw1 : Cond.classLink own i C ∈ aw_tw) (hw2 : Cond.instantiable C N ∈ aw_tw) (hw3 : Cond.initialized C ∈ aw_tw) (hd : decode cc pc = .ok (.new i, 3)) (fs : List Value) (hfs : ∀ j, j < N → defaultValue (ty j) = vp_V fs j) (hc : mc + 1 ≤ R.cells) (hsl : ms + N ≤ R.slots) (kk : AW p l e R s m args below meth c E nL Q (mc + 1) (ms + N) (aw_up g n (.inr (ci, fs))) (n + 1) (pc + 3) lv (.ref n :: st)) : AW p l e R s m args below meth c E nL Q mc ms g n pc lv st := by
  intro H locs ls hR hS hl
  have hKn := S.2.1.1 ci _ I.1
  have hts := S.1.2.2.2.2
  refine W.newcK S.1.1 S.1.2.1 S.1.2.2.2.1 (hts _ hw1) (hts _ hw2) (hts _ hw3) rfl hd hc hsl hKn.2.1 hR.1 fun H1 kC hkC e1 z1 o1 => ?_
  refine kk H1 locs ls (hR.push _ z1 o1 ⟨_, I.1, (u_born ty hts I.2.1 hKn hkC e1 I.2.2.1).to hfs⟩) ?_ hl
  have z := hR.1
  exact ⟨Nat.le_trans hS.1 (by omega), fun x h1 h2 => (o1 x (by rw [← z]; exact Nat.lt_of_lt_of_le h1 hS.1)).trans (hS.2.1 x h1 h2), hS.2.2⟩
theorem aw_newa (S : aw_C p s m args meth c E cc nL own ret) (t : Nat) {at_ : ArrayType} {ty : FieldType} (hty : newarray.typeOf at_ = ty) {cA : ClassId} (ht : (aw_tys E)[t]? = some (cA, ty)) (hT : ∀ U : State, va_RA U cA ty → U.vm.findClass ("[" ++ ty.toString) = some cA) (hw : Cond.arrayClass ty ∈ aw_tw) {i : Int32} (N : Nat) (hd : decode cc pc = .ok (.newarray at_, 2)) (a0 : vp_A) (ha0 : ∀ cA : ClassId, vp_cell cA a0 = arrV cA N (fun _ => defaultValue ty)) (hi : i = nI N) (hN : N < 100000) (hb : componentBytes ty ≤ 8) (hc : mc + 1 ≤ R.cells) (hsl : ms + N ≤ R.slots) (kk : AW p l e R s m args below meth c E nL Q (mc + 1) (ms + N) (aw_up g n (.inl (cA, a0))) (n + 1) (pc + 2) lv (.ref n :: st)) : AW p l e R s m args below meth c E nL Q mc ms g n pc lv (.int i :: st) := by
  subst hty
  subst hi
  intro H locs ls hR hS hl
  have hts := S.1.2.2.2.2
  have hbb : N * componentBytes (newarray.typeOf at_) ≤ 536870912 := Nat.le_trans (Nat.mul_le_mul (Nat.le_of_lt hN) hb) (by decide)
  refine va_newaK S.1.1 S.1.2.1 (hts _ hw) rfl hd rfl (nI_pos (by omega)) (nI_clamp (by omega)) hbb hc hsl hR.1 fun H1 cA1 e1 z1 o1 hAr hNm => ?_
  have hcA : cA1 = cA := Option.some.inj (hNm.symm.trans (hT s (S.2.1.2 t _ ht).2))
  subst hcA
  refine kk H1 locs ls (hR.push _ z1 o1 ?_) ?_ hl
  · show H1[n]? = some (vp_cell _ _)
    rw [ha0]
    exact e1
  · have z := hR.1
    exact ⟨Nat.le_trans hS.1 (by omega), fun x h1 h2 => (o1 x (by rw [← z]; exact Nat.lt_of_lt_of_le h1 hS.1)).trans (hS.2.1 x h1 h2), hS.2.2⟩
theorem aw_anew (S : aw_C p s m args meth c E cc nL own ret) (t : Nat) {C : String} {cA : ClassId} (ht : (aw_tys E)[t]? = some (cA, .object C)) {i : Int32} (N : Nat) {j : Nat} (hw1 : Cond.classLink own j C ∈ aw_tw) (hw2 : va_AO C s) (hd : decode cc pc = .ok (.anewarray j, 3)) (hi : i = nI N) (hN : N < 100000) (hc : mc + 1 ≤ R.cells) (hsl : ms + N ≤ R.slots) (kk : AW p l e R s m args below meth c E nL Q (mc + 1) (ms + N) (aw_up g n (.inl (cA, N, .inr (.inr (.inr (.inr (fun _ => none))))))) (n + 1) (pc + 3) lv (.ref n :: st)) : AW p l e R s m args below meth c E nL Q mc ms g n pc lv (.int i :: st) := by
  subst hi
  intro H locs ls hR hS hl
  have hts := S.1.2.2.2.2
  have hcl : (nI N).toNatClampNeg = N := nI_clamp (by omega)
  refine W.anew S.1.1 S.1.2.1 S.1.2.2.2.1 (hts _ hw1) (va_AO.use hw2) rfl hd rfl (nI_pos (by omega)) (by rw [hcl]; omega) hc (by rw [hcl]; exact hsl) fun cA1 kA comp f1 f2 f3 f4 => ?_
  obtain ⟨kA', comp', -, -, -, k4⟩ := (S.2.1.2 t _ ht).2
  have hcA : cA1 = cA := Option.some.inj (f1.symm.trans k4)
  subst hcA
  rw [hcl]
  generalize hH1 : H.push ({ cls := cA1, slots := Array.replicate N .null, vm := .none } : Cell) = H1
  have z1 : H1.size = H.size + 1 := by rw [← hH1, Array.size_push]
  have e1 : H1[H.size]? = some (arrV cA1 N (fun _ => .null)) := by rw [← hH1, Array.getElem?_push_size, ← arrV_new]
  have o1 : ∀ q : Nat, q < H.size → H1[q]? = H[q]? := fun q hq => by rw [← hH1, Array.getElem?_push, if_neg (Nat.ne_of_lt hq)]
  have z := hR.1
  subst z
  refine kk H1 locs ls (hR.push _ z1 o1 ?_) ?_ hl
  · show H1[H.size]? = some (vp_cell _ _)
    rw [vp_cell_q]
    exact e1
  · exact ⟨Nat.le_trans hS.1 (by omega), fun x h1 h2 => (o1 x (Nat.lt_of_lt_of_le h1 hS.1)).trans (hS.2.1 x h1 h2), hS.2.2⟩
/-! returns -/
theorem aw_iret (S : aw_C p s m args meth c E cc nL own ret) {MC MS : Nat} {v : Int32} {P : Int32 → AH → Nat → Prop} (hr : ret = some .int) (hd : decode cc pc = .ok (.ireturn, 1)) (hp : P v g n) (hc : mc ≤ MC) (hs : ms ≤ MS) : AW p l e R s m args below meth c E nL (aw_Z E (aw_Pi P) below args s MC MS) mc ms g n pc lv [.int v] := by
  intro H locs ls hR hS hl
  refine W.widen hc hs ?_
  exact W.iret (v := v) S.1.1 S.1.2.1 (S.2.2.2.2.1.trans hr) (fun t ht hW => ⟨⟨_, g, n, rfl, ⟨v, rfl, hp⟩, by rw [ht]; exact hR⟩, hS.F ht⟩) hS.2.2 hd S.2.2.2.2.2
theorem aw_zret (S : aw_C p s m args meth c E cc nL own ret) {MC MS : Nat} {v : Int32} {P : Int32 → AH → Nat → Prop} (ty : FieldType) (hr : ret = some ty) (hn : narrow ty (.int v) = .int v) (hd : decode cc pc = .ok (.ireturn, 1)) (hp : P v g n) (hc : mc ≤ MC) (hs : ms ≤ MS) : AW p l e R s m args below meth c E nL (aw_Z E (aw_Pi P) below args s MC MS) mc ms g n pc lv [.int v] := by
  intro H locs ls hR hS hl
  refine W.widen hc hs ?_
  exact W.zret (v := v) S.1.1 S.1.2.1 (S.2.2.2.2.1.trans hr) hn (fun t ht hW => ⟨⟨_, g, n, rfl, ⟨v, rfl, hp⟩, by rw [ht]; exact hR⟩, hS.F ht⟩) hS.2.2 hd S.2.2.2.2.2
theorem aw_lret (S : aw_C p s m args meth c E cc nL own ret) {MC MS : Nat} {v : Int64} {P : Int64 → AH → Nat → Prop} (hr : ret = some .long) (hd : decode cc pc = .ok (.lreturn, 1)) (hp : P v g n) (hc : mc ≤ MC) (hs : ms ≤ MS) : AW p l e R s m args below meth c E nL (aw_Z E (aw_Pl P) below args s MC MS) mc ms g n pc lv [.long v] := by
  intro H locs ls hR hS hl
  refine W.widen hc hs ?_
  exact W.lret (v := v) S.1.1 S.1.2.1 (S.2.2.2.2.1.trans hr) (fun t ht hW => ⟨⟨_, g, n, rfl, ⟨v, rfl, hp⟩, by rw [ht]; exact hR⟩, hS.F ht⟩) hS.2.2 hd S.2.2.2.2.2
theorem aw_vret (S : aw_C p s m args meth c E cc nL own ret) {MC MS : Nat} {P : AH → Nat → Prop} (hr : ret = none) (hd : decode cc pc = .ok (.return_, 1)) (hp : P g n) (hc : mc ≤ MC) (hs : ms ≤ MS) : AW p l e R s m args below meth c E nL (aw_Z E (aw_Pv P) below args s MC MS) mc ms g n pc lv [] := by
  intro H locs ls hR hS hl
  refine W.widen hc hs ?_
  exact W.vret S.1.1 S.1.2.1 (S.2.2.2.2.1.trans hr) (fun t ht hW => ⟨⟨_, g, n, rfl, ⟨rfl, hp⟩, by rw [ht]; exact hR⟩, hS.F ht⟩) hS.2.2 hd S.2.2.2.2.2
theorem aw_aret (S : aw_C p s m args meth c E cc nL own ret) {MC MS : Nat} {v : Option Nat} {P : Option Nat → AH → Nat → Prop} (C : String) (hr : ret = some (.object C)) (hd : decode cc pc = .ok (.areturn, 1)) (hp : P v g n) (hc : mc ≤ MC) (hs : ms ≤ MS) : AW p l e R s m args below meth c E nL (aw_Z E (aw_Pq P) below args s MC MS) mc ms g n pc lv [va_rf v] := by
  intro H locs ls hR hS hl
  refine W.widen hc hs ?_
  exact W.aret (v := va_rf v) S.1.1 S.1.2.1 (S.2.2.2.2.1.trans hr) (Or.inl ⟨C, rfl⟩) (va_rf_or v) (fun t ht hW => ⟨⟨_, g, n, rfl, ⟨v, rfl, hp⟩, by rw [ht]; exact hR⟩, hS.F ht⟩) hS.2.2 hd S.2.2.2.2.2
/-! what is on top of the stack, said otherwise -/
theorem aw_topi {x y : Int32} (h : x = y) (k : AW p l e R s m args below meth c E nL Q mc ms g n pc lv (.int y :: st)) : AW p l e R s m args below meth c E nL Q mc ms g n pc lv (.int x :: st) := by rw [h]; exact k
theorem aw_heap {g2 : AH} {n2 : Nat} (h : g = g2) (h2 : n = n2) (k : AW p l e R s m args below meth c E nL Q mc ms g2 n2 pc lv st) : AW p l e R s m args below meth c E nL Q mc ms g n pc lv st := by rw [h, h2]; exact k
theorem aw_lvs {lv2 : List (Option Value)} {st2 : List Value} (h : lv = lv2) (h2 : st = st2) (k : AW p l e R s m args below meth c E nL Q mc ms g n pc lv2 st2) : AW p l e R s m args below meth c E nL Q mc ms g n pc lv st := by rw [h, h2]; exact k
theorem aw_wide {mc2 ms2 : Nat} (h1 : mc ≤ mc2) (h2 : ms ≤ ms2) (k : AW p l e R s m args below meth c E nL Q mc2 ms2 g n pc lv st) : AW p l e R s m args below meth c E nL Q mc ms g n pc lv st := fun H locs ls hR hS hl => W.widen h1 h2 (k H locs ls hR hS hl)
theorem aw_objInit (S : aw_C p s m args meth c E cc nL own ret) {i a : Nat} (hw1 : Cond.methodLink own i objectInit ∈ aw_tw) (hw2 : Cond.instanceMethod objectInit ∈ aw_tw) (hw3 : Cond.code objectInit ⟨#[0xb1]⟩ 1 none ∈ aw_tw) (hd : decode cc pc = .ok (.invokespecial i, 3)) (hf : 1 ≤ R.frames) (hlo : (st.map fun v => v.category).sum + 12 ≤ R.locals) (kk : AW p l e R s m args below meth c E nL Q mc ms g n (pc + 3) lv st) : AW p l e R s m args below meth c E nL Q mc ms g n pc lv (.ref a :: st) := by
  intro H locs ls hR hS hl
  have hts := S.1.2.2.2.2
  refine W.objInit S.1.1 S.1.2.1 S.1.2.2.2.1 (hts _ hw1) (hts _ hw2) (hts _ hw3) rfl (by rw [S.1.2.2.1]; exact hl.1) rfl hd hf (by show 2 * 0 + _ + 12 ≤ _; omega) ?_
  exact kk H locs ls hR hS hl
end AWHeap
