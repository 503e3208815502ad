/-! THE REFERENCE: its cells -/
def mZ : Nat → Nat := fun k => match k with
  | 0 => 96
  | 1 => 60
  | 2 => 60
  | 3 => 60
  | 4 => 6000
  | 5 => 60
  | 6 => 960
  | 7 => 8
  | 8 => 48
  | 9 => 8
  | 10 => 400
  | 11 => 16
  | 12 => 300
  | 13 => 100
  | 14 => 5
  | 15 => 5
  | 16 => 5
  | 17 => 5
  | 18 => 300
  | 19 => 300
  | _ => 0
/-- the reference object at d, its numbers v, its rows f; all else as in g0 -/
def mG (E : aw_E) (g0 : AH) (d : Nat) (v : Nat → Int32) (f : Nat → Nat → Int32) (g : AH) : Prop :=
  E.2.2.1 ≤ d ∧ g d = some (.inr (6, [.int (v 0), .ref (d + 1), .int (v 1), .ref (d + 2), .ref (d + 3), .ref (d + 4), .ref (d + 5), .ref (d + 6), .ref (d + 7), .int (v 2), .int (v 3), .ref (d + 8), .ref (d + 9), .ref (d + 10), .int (v 4), .ref (d + 11), .int (v 5), .ref (d + 12), .int (v 6), .ref (d + 13), .int (v 7), .ref (d + 14), .ref (d + 15), .ref (d + 16), .ref (d + 17), .ref (d + 18), .int (v 8), .ref (d + 19), .int (v 9), .ref (d + 20)])) ∧ (∀ k, k < 20 → g (d + (k + 1)) = some (.inl (E.2.1 1, mZ k, .inl (f k)))) ∧ aw_fr g0 g d 21
def fu (f : Nat → Nat → Int32) (k : Nat) (h : Nat → Int32) : Nat → Nat → Int32 := fun q => if q = k then h else f q
theorem fu_s {f : Nat → Nat → Int32} {k : Nat} {h : Nat → Int32} : fu f k h k = h := if_pos rfl
theorem fu_n {f : Nat → Nat → Int32} {k q : Nat} {h : Nat → Int32} (hq : q ≠ k) : fu f k h q = f q := if_neg hq
theorem mG.st {E : aw_E} {g0 g : AH} {d : Nat} {v : Nat → Int32} {f : Nat → Nat → Int32} (h : mG E g0 d v f g) (k : Nat) (hk : k < 20) (F2 : Nat → Int32) : mG E g0 d v (fu f k F2) (aw_up g (d + (k + 1)) (.inl (E.2.1 1, mZ k, .inl F2))) := by
  refine ⟨h.1, by rw [aw_up_n (by omega)]; exact h.2.1, fun q hq => ?_, fun x hx => ?_⟩
  · by_cases e : q = k
    · subst e; rw [aw_up_s, fu_s]
    · rw [aw_up_n (by omega), fu_n e]; exact h.2.2.1 q hq
  · rw [aw_up_n (by omega)]; exact h.2.2.2 x hx
section AWModel
variable {p : Program} {l : Launch} {e : Env} {R : Room} {s : State} {m : MethodId} {args : Array Value} {below : List Frame} {meth : Method} {c : Code} {E : aw_E} {cc : ByteArray} {nL : Nat} {own : String} {ret : Option FieldType} {Q : State → Prop} {mc ms : Nat} {g : AH} {n pc : Nat} {lv : List (Option Value)} {st : List Value} {g0 : AH} {d : Nat} {v : Nat → Int32} {f : Nat → Nat → Int32}
theorem aw_mld {j : Nat} {x : Int32} (S : aw_C p s m args meth c E cc nL own ret) (hM : mG E g0 d v f g) (k : Nat) (hk : k < 20) (hx : f k j = x) (hj : j < mZ k) (hd : decode cc pc = .ok (.iaload, 1)) (kk : AW p l e R s m args below meth c E nL Q mc ms g n (pc + 1) lv (.int x :: st)) : AW p l e R s m args below meth c E nL Q mc ms g n pc lv (.int (nI j) :: .ref (d + (k + 1)) :: st) := by
  have hz : mZ k < 10000 := by
    have : ∀ k, k < 20 → mZ k < 10000 := by decide
    exact this k hk
  refine aw_iald S (hM.2.2.1 k hk) hd (vp_in_nI hj (by omega)) ?_
  rw [nI_clamp (by omega), hx]
  exact kk
theorem aw_mst {j : Nat} {x : Int32} (S : aw_C p s m args meth c E cc nL own ret) (hM : mG E g0 d v f g) (k : Nat) (hk : k < 20) (hj : j < mZ k) (hd : decode cc pc = .ok (.iastore, 1)) (kk : ∀ g2, mG E g0 d v (fu f k (upd (f k) j x)) g2 → AW p l e R s m args below meth c E nL Q mc ms g2 n (pc + 1) lv st) : AW p l e R s m args below meth c E nL Q mc ms g n pc lv (.int x :: .int (nI j) :: .ref (d + (k + 1)) :: st) := by
  have hz : mZ k < 10000 := by
    have : ∀ k, k < 20 → mZ k < 10000 := by decide
    exact this k hk
  have hE := hM.1
  refine aw_iast S (hM.2.2.1 k hk) hd (by omega) (vp_in_nI hj (by omega)) ?_
  rw [nI_clamp (by omega)]
  exact kk _ (hM.st k hk _)
theorem aw_mput0 {x : Int32} {i : Nat} (S : aw_C p s m args meth c E cc nL own ret) (hM : mG E g0 d v f g) (hw : Cond.fieldLink own i (T_Md 0).1 (T_Md 0).2.1 (T_Md 0).2.2.1 ∈ aw_tw) (hd : decode cc pc = .ok (.putfield i, 3)) (kk : ∀ g2, mG E g0 d (upd v 0 x) f g2 → AW p l e R s m args below meth c E nL Q mc ms g2 n (pc + 3) lv st) : AW p l e R s m args below meth c E nL Q mc ms g n pc lv (.int x :: .ref d :: st) := by
  refine aw_putf (fs2 := [.int (upd v 0 x 0), .ref (d + 1), .int (upd v 0 x 1), .ref (d + 2), .ref (d + 3), .ref (d + 4), .ref (d + 5), .ref (d + 6), .ref (d + 7), .int (upd v 0 x 2), .int (upd v 0 x 3), .ref (d + 8), .ref (d + 9), .ref (d + 10), .int (upd v 0 x 4), .ref (d + 11), .int (upd v 0 x 5), .ref (d + 12), .int (upd v 0 x 6), .ref (d + 13), .int (upd v 0 x 7), .ref (d + 14), .ref (d + 15), .ref (d + 16), .ref (d + 17), .ref (d + 18), .int (upd v 0 x 8), .ref (d + 19), .int (upd v 0 x 9), .ref (d + 20)]) S I_Md 0 hM.2.1 hw hd rfl hM.1 rfl rfl rfl (by decide) (Nat.le_of_ble_eq_true rfl) (kk _ ⟨hM.1, aw_up_s _ _ _, fun q hq => ?_, fun y hy => ?_⟩)
  · rw [aw_up_n (by omega)]; exact hM.2.2.1 q hq
  · rw [aw_up_n (by omega)]; exact hM.2.2.2 y hy
theorem aw_mput1 {x : Int32} {i : Nat} (S : aw_C p s m args meth c E cc nL own ret) (hM : mG E g0 d v f g) (hw : Cond.fieldLink own i (T_Md 2).1 (T_Md 2).2.1 (T_Md 2).2.2.1 ∈ aw_tw) (hd : decode cc pc = .ok (.putfield i, 3)) (kk : ∀ g2, mG E g0 d (upd v 1 x) f g2 → AW p l e R s m args below meth c E nL Q mc ms g2 n (pc + 3) lv st) : AW p l e R s m args below meth c E nL Q mc ms g n pc lv (.int x :: .ref d :: st) := by
  refine aw_putf (fs2 := [.int (upd v 1 x 0), .ref (d + 1), .int (upd v 1 x 1), .ref (d + 2), .ref (d + 3), .ref (d + 4), .ref (d + 5), .ref (d + 6), .ref (d + 7), .int (upd v 1 x 2), .int (upd v 1 x 3), .ref (d + 8), .ref (d + 9), .ref (d + 10), .int (upd v 1 x 4), .ref (d + 11), .int (upd v 1 x 5), .ref (d + 12), .int (upd v 1 x 6), .ref (d + 13), .int (upd v 1 x 7), .ref (d + 14), .ref (d + 15), .ref (d + 16), .ref (d + 17), .ref (d + 18), .int (upd v 1 x 8), .ref (d + 19), .int (upd v 1 x 9), .ref (d + 20)]) S I_Md 2 hM.2.1 hw hd rfl hM.1 rfl rfl rfl (by decide) (Nat.le_of_ble_eq_true rfl) (kk _ ⟨hM.1, aw_up_s _ _ _, fun q hq => ?_, fun y hy => ?_⟩)
  · rw [aw_up_n (by omega)]; exact hM.2.2.1 q hq
  · rw [aw_up_n (by omega)]; exact hM.2.2.2 y hy
theorem aw_mput2 {x : Int32} {i : Nat} (S : aw_C p s m args meth c E cc nL own ret) (hM : mG E g0 d v f g) (hw : Cond.fieldLink own i (T_Md 9).1 (T_Md 9).2.1 (T_Md 9).2.2.1 ∈ aw_tw) (hd : decode cc pc = .ok (.putfield i, 3)) (kk : ∀ g2, mG E g0 d (upd v 2 x) f g2 → AW p l e R s m args below meth c E nL Q mc ms g2 n (pc + 3) lv st) : AW p l e R s m args below meth c E nL Q mc ms g n pc lv (.int x :: .ref d :: st) := by
  refine aw_putf (fs2 := [.int (upd v 2 x 0), .ref (d + 1), .int (upd v 2 x 1), .ref (d + 2), .ref (d + 3), .ref (d + 4), .ref (d + 5), .ref (d + 6), .ref (d + 7), .int (upd v 2 x 2), .int (upd v 2 x 3), .ref (d + 8), .ref (d + 9), .ref (d + 10), .int (upd v 2 x 4), .ref (d + 11), .int (upd v 2 x 5), .ref (d + 12), .int (upd v 2 x 6), .ref (d + 13), .int (upd v 2 x 7), .ref (d + 14), .ref (d + 15), .ref (d + 16), .ref (d + 17), .ref (d + 18), .int (upd v 2 x 8), .ref (d + 19), .int (upd v 2 x 9), .ref (d + 20)]) S I_Md 9 hM.2.1 hw hd rfl hM.1 rfl rfl rfl (by decide) (Nat.le_of_ble_eq_true rfl) (kk _ ⟨hM.1, aw_up_s _ _ _, fun q hq => ?_, fun y hy => ?_⟩)
  · rw [aw_up_n (by omega)]; exact hM.2.2.1 q hq
  · rw [aw_up_n (by omega)]; exact hM.2.2.2 y hy
theorem aw_mput3 {x : Int32} {i : Nat} (S : aw_C p s m args meth c E cc nL own ret) (hM : mG E g0 d v f g) (hw : Cond.fieldLink own i (T_Md 10).1 (T_Md 10).2.1 (T_Md 10).2.2.1 ∈ aw_tw) (hd : decode cc pc = .ok (.putfield i, 3)) (kk : ∀ g2, mG E g0 d (upd v 3 x) f g2 → AW p l e R s m args below meth c E nL Q mc ms g2 n (pc + 3) lv st) : AW p l e R s m args below meth c E nL Q mc ms g n pc lv (.int x :: .ref d :: st) := by
  refine aw_putf (fs2 := [.int (upd v 3 x 0), .ref (d + 1), .int (upd v 3 x 1), .ref (d + 2), .ref (d + 3), .ref (d + 4), .ref (d + 5), .ref (d + 6), .ref (d + 7), .int (upd v 3 x 2), .int (upd v 3 x 3), .ref (d + 8), .ref (d + 9), .ref (d + 10), .int (upd v 3 x 4), .ref (d + 11), .int (upd v 3 x 5), .ref (d + 12), .int (upd v 3 x 6), .ref (d + 13), .int (upd v 3 x 7), .ref (d + 14), .ref (d + 15), .ref (d + 16), .ref (d + 17), .ref (d + 18), .int (upd v 3 x 8), .ref (d + 19), .int (upd v 3 x 9), .ref (d + 20)]) S I_Md 10 hM.2.1 hw hd rfl hM.1 rfl rfl rfl (by decide) (Nat.le_of_ble_eq_true rfl) (kk _ ⟨hM.1, aw_up_s _ _ _, fun q hq => ?_, fun y hy => ?_⟩)
  · rw [aw_up_n (by omega)]; exact hM.2.2.1 q hq
  · rw [aw_up_n (by omega)]; exact hM.2.2.2 y hy
theorem aw_mput4 {x : Int32} {i : Nat} (S : aw_C p s m args meth c E cc nL own ret) (hM : mG E g0 d v f g) (hw : Cond.fieldLink own i (T_Md 14).1 (T_Md 14).2.1 (T_Md 14).2.2.1 ∈ aw_tw) (hd : decode cc pc = .ok (.putfield i, 3)) (kk : ∀ g2, mG E g0 d (upd v 4 x) f g2 → AW p l e R s m args below meth c E nL Q mc ms g2 n (pc + 3) lv st) : AW p l e R s m args below meth c E nL Q mc ms g n pc lv (.int x :: .ref d :: st) := by
  refine aw_putf (fs2 := [.int (upd v 4 x 0), .ref (d + 1), .int (upd v 4 x 1), .ref (d + 2), .ref (d + 3), .ref (d + 4), .ref (d + 5), .ref (d + 6), .ref (d + 7), .int (upd v 4 x 2), .int (upd v 4 x 3), .ref (d + 8), .ref (d + 9), .ref (d + 10), .int (upd v 4 x 4), .ref (d + 11), .int (upd v 4 x 5), .ref (d + 12), .int (upd v 4 x 6), .ref (d + 13), .int (upd v 4 x 7), .ref (d + 14), .ref (d + 15), .ref (d + 16), .ref (d + 17), .ref (d + 18), .int (upd v 4 x 8), .ref (d + 19), .int (upd v 4 x 9), .ref (d + 20)]) S I_Md 14 hM.2.1 hw hd rfl hM.1 rfl rfl rfl (by decide) (Nat.le_of_ble_eq_true rfl) (kk _ ⟨hM.1, aw_up_s _ _ _, fun q hq => ?_, fun y hy => ?_⟩)
  · rw [aw_up_n (by omega)]; exact hM.2.2.1 q hq
  · rw [aw_up_n (by omega)]; exact hM.2.2.2 y hy
theorem aw_mput5 {x : Int32} {i : Nat} (S : aw_C p s m args meth c E cc nL own ret) (hM : mG E g0 d v f g) (hw : Cond.fieldLink own i (T_Md 16).1 (T_Md 16).2.1 (T_Md 16).2.2.1 ∈ aw_tw) (hd : decode cc pc = .ok (.putfield i, 3)) (kk : ∀ g2, mG E g0 d (upd v 5 x) f g2 → AW p l e R s m args below meth c E nL Q mc ms g2 n (pc + 3) lv st) : AW p l e R s m args below meth c E nL Q mc ms g n pc lv (.int x :: .ref d :: st) := by
  refine aw_putf (fs2 := [.int (upd v 5 x 0), .ref (d + 1), .int (upd v 5 x 1), .ref (d + 2), .ref (d + 3), .ref (d + 4), .ref (d + 5), .ref (d + 6), .ref (d + 7), .int (upd v 5 x 2), .int (upd v 5 x 3), .ref (d + 8), .ref (d + 9), .ref (d + 10), .int (upd v 5 x 4), .ref (d + 11), .int (upd v 5 x 5), .ref (d + 12), .int (upd v 5 x 6), .ref (d + 13), .int (upd v 5 x 7), .ref (d + 14), .ref (d + 15), .ref (d + 16), .ref (d + 17), .ref (d + 18), .int (upd v 5 x 8), .ref (d + 19), .int (upd v 5 x 9), .ref (d + 20)]) S I_Md 16 hM.2.1 hw hd rfl hM.1 rfl rfl rfl (by decide) (Nat.le_of_ble_eq_true rfl) (kk _ ⟨hM.1, aw_up_s _ _ _, fun q hq => ?_, fun y hy => ?_⟩)
  · rw [aw_up_n (by omega)]; exact hM.2.2.1 q hq
  · rw [aw_up_n (by omega)]; exact hM.2.2.2 y hy
theorem aw_mput6 {x : Int32} {i : Nat} (S : aw_C p s m args meth c E cc nL own ret) (hM : mG E g0 d v f g) (hw : Cond.fieldLink own i (T_Md 18).1 (T_Md 18).2.1 (T_Md 18).2.2.1 ∈ aw_tw) (hd : decode cc pc = .ok (.putfield i, 3)) (kk : ∀ g2, mG E g0 d (upd v 6 x) f g2 → AW p l e R s m args below meth c E nL Q mc ms g2 n (pc + 3) lv st) : AW p l e R s m args below meth c E nL Q mc ms g n pc lv (.int x :: .ref d :: st) := by
  refine aw_putf (fs2 := [.int (upd v 6 x 0), .ref (d + 1), .int (upd v 6 x 1), .ref (d + 2), .ref (d + 3), .ref (d + 4), .ref (d + 5), .ref (d + 6), .ref (d + 7), .int (upd v 6 x 2), .int (upd v 6 x 3), .ref (d + 8), .ref (d + 9), .ref (d + 10), .int (upd v 6 x 4), .ref (d + 11), .int (upd v 6 x 5), .ref (d + 12), .int (upd v 6 x 6), .ref (d + 13), .int (upd v 6 x 7), .ref (d + 14), .ref (d + 15), .ref (d + 16), .ref (d + 17), .ref (d + 18), .int (upd v 6 x 8), .ref (d + 19), .int (upd v 6 x 9), .ref (d + 20)]) S I_Md 18 hM.2.1 hw hd rfl hM.1 rfl rfl rfl (by decide) (Nat.le_of_ble_eq_true rfl) (kk _ ⟨hM.1, aw_up_s _ _ _, fun q hq => ?_, fun y hy => ?_⟩)
  · rw [aw_up_n (by omega)]; exact hM.2.2.1 q hq
  · rw [aw_up_n (by omega)]; exact hM.2.2.2 y hy
theorem aw_mput7 {x : Int32} {i : Nat} (S : aw_C p s m args meth c E cc nL own ret) (hM : mG E g0 d v f g) (hw : Cond.fieldLink own i (T_Md 20).1 (T_Md 20).2.1 (T_Md 20).2.2.1 ∈ aw_tw) (hd : decode cc pc = .ok (.putfield i, 3)) (kk : ∀ g2, mG E g0 d (upd v 7 x) f g2 → AW p l e R s m args below meth c E nL Q mc ms g2 n (pc + 3) lv st) : AW p l e R s m args below meth c E nL Q mc ms g n pc lv (.int x :: .ref d :: st) := by
  refine aw_putf (fs2 := [.int (upd v 7 x 0), .ref (d + 1), .int (upd v 7 x 1), .ref (d + 2), .ref (d + 3), .ref (d + 4), .ref (d + 5), .ref (d + 6), .ref (d + 7), .int (upd v 7 x 2), .int (upd v 7 x 3), .ref (d + 8), .ref (d + 9), .ref (d + 10), .int (upd v 7 x 4), .ref (d + 11), .int (upd v 7 x 5), .ref (d + 12), .int (upd v 7 x 6), .ref (d + 13), .int (upd v 7 x 7), .ref (d + 14), .ref (d + 15), .ref (d + 16), .ref (d + 17), .ref (d + 18), .int (upd v 7 x 8), .ref (d + 19), .int (upd v 7 x 9), .ref (d + 20)]) S I_Md 20 hM.2.1 hw hd rfl hM.1 rfl rfl rfl (by decide) (Nat.le_of_ble_eq_true rfl) (kk _ ⟨hM.1, aw_up_s _ _ _, fun q hq => ?_, fun y hy => ?_⟩)
  · rw [aw_up_n (by omega)]; exact hM.2.2.1 q hq
  · rw [aw_up_n (by omega)]; exact hM.2.2.2 y hy
theorem aw_mput8 {x : Int32} {i : Nat} (S : aw_C p s m args meth c E cc nL own ret) (hM : mG E g0 d v f g) (hw : Cond.fieldLink own i (T_Md 26).1 (T_Md 26).2.1 (T_Md 26).2.2.1 ∈ aw_tw) (hd : decode cc pc = .ok (.putfield i, 3)) (kk : ∀ g2, mG E g0 d (upd v 8 x) f g2 → AW p l e R s m args below meth c E nL Q mc ms g2 n (pc + 3) lv st) : AW p l e R s m args below meth c E nL Q mc ms g n pc lv (.int x :: .ref d :: st) := by
  refine aw_putf (fs2 := [.int (upd v 8 x 0), .ref (d + 1), .int (upd v 8 x 1), .ref (d + 2), .ref (d + 3), .ref (d + 4), .ref (d + 5), .ref (d + 6), .ref (d + 7), .int (upd v 8 x 2), .int (upd v 8 x 3), .ref (d + 8), .ref (d + 9), .ref (d + 10), .int (upd v 8 x 4), .ref (d + 11), .int (upd v 8 x 5), .ref (d + 12), .int (upd v 8 x 6), .ref (d + 13), .int (upd v 8 x 7), .ref (d + 14), .ref (d + 15), .ref (d + 16), .ref (d + 17), .ref (d + 18), .int (upd v 8 x 8), .ref (d + 19), .int (upd v 8 x 9), .ref (d + 20)]) S I_Md 26 hM.2.1 hw hd rfl hM.1 rfl rfl rfl (by decide) (Nat.le_of_ble_eq_true rfl) (kk _ ⟨hM.1, aw_up_s _ _ _, fun q hq => ?_, fun y hy => ?_⟩)
  · rw [aw_up_n (by omega)]; exact hM.2.2.1 q hq
  · rw [aw_up_n (by omega)]; exact hM.2.2.2 y hy
theorem aw_mput9 {x : Int32} {i : Nat} (S : aw_C p s m args meth c E cc nL own ret) (hM : mG E g0 d v f g) (hw : Cond.fieldLink own i (T_Md 28).1 (T_Md 28).2.1 (T_Md 28).2.2.1 ∈ aw_tw) (hd : decode cc pc = .ok (.putfield i, 3)) (kk : ∀ g2, mG E g0 d (upd v 9 x) f g2 → AW p l e R s m args below meth c E nL Q mc ms g2 n (pc + 3) lv st) : AW p l e R s m args below meth c E nL Q mc ms g n pc lv (.int x :: .ref d :: st) := by
  refine aw_putf (fs2 := [.int (upd v 9 x 0), .ref (d + 1), .int (upd v 9 x 1), .ref (d + 2), .ref (d + 3), .ref (d + 4), .ref (d + 5), .ref (d + 6), .ref (d + 7), .int (upd v 9 x 2), .int (upd v 9 x 3), .ref (d + 8), .ref (d + 9), .ref (d + 10), .int (upd v 9 x 4), .ref (d + 11), .int (upd v 9 x 5), .ref (d + 12), .int (upd v 9 x 6), .ref (d + 13), .int (upd v 9 x 7), .ref (d + 14), .ref (d + 15), .ref (d + 16), .ref (d + 17), .ref (d + 18), .int (upd v 9 x 8), .ref (d + 19), .int (upd v 9 x 9), .ref (d + 20)]) S I_Md 28 hM.2.1 hw hd rfl hM.1 rfl rfl rfl (by decide) (Nat.le_of_ble_eq_true rfl) (kk _ ⟨hM.1, aw_up_s _ _ _, fun q hq => ?_, fun y hy => ?_⟩)
  · rw [aw_up_n (by omega)]; exact hM.2.2.1 q hq
  · rw [aw_up_n (by omega)]; exact hM.2.2.2 y hy
end AWModel
/-- a list stands in a row, from b on -/
def mL (F : Nat → Int32) (b : Nat) (xs : List Int32) : Prop := ∀ k, k < xs.length → F (b + k) = xs.getD k (-1)
theorem mL.nil {F : Nat → Int32} {b : Nat} : mL F b [] := fun k h => absurd h (Nat.not_lt_zero k)
theorem upd_s {F : Nat → Int32} {k : Nat} {x : Int32} : upd F k x k = x := by simp [upd]
theorem upd_n {F : Nat → Int32} {k q : Nat} {x : Int32} (h : q ≠ k) : upd F k x q = F q := by simp [upd, h]
theorem mL.snoc {F : Nat → Int32} {b : Nat} {xs : List Int32} {x : Int32} (h : mL F b xs) : mL (upd F (b + xs.length) x) b (xs ++ [x]) := by
  intro k hk
  rw [List.length_append, List.length_singleton] at hk
  by_cases e : k = xs.length
  · subst e; rw [upd_s, getD_app2]
  · rw [upd_n (by omega), getD_app (by omega)]; exact h k (by omega)
theorem mL.snoc0 {F : Nat → Int32} {xs : List Int32} {x : Int32} (h : mL F 0 xs) : mL (upd F xs.length x) 0 (xs ++ [x]) := by
  have := h.snoc (x := x)
  rwa [Nat.zero_add] at this
theorem mL.at0 {F : Nat → Int32} {xs : List Int32} (h : mL F 0 xs) {k : Nat} (hk : k < xs.length) : F k = xs.getD k (-1) := by
  have := h k hk
  rwa [Nat.zero_add] at this
theorem mL.out {F : Nat → Int32} {b : Nat} {xs : List Int32} {q : Nat} {x : Int32} (h : mL F b xs) (hq : q < b ∨ b + xs.length ≤ q) : mL (upd F q x) b xs := by
  intro k hk
  rw [upd_n (by omega)]; exact h k hk
theorem mL.take {F : Nat → Int32} {b : Nat} {xs : List Int32} (h : mL F b xs) (k : Nat) : mL F b (xs.take k) := by
  intro i hi
  rw [List.length_take] at hi
  rw [h i (by omega)]
  simp [List.getD_eq_getElem?_getD, List.getElem?_take, show i < k by omega]
/-- numbers outside J and rows outside K are as they were -/
def mfr (J K : List Nat) (v v2 : Nat → Int32) (f f2 : Nat → Nat → Int32) : Prop := (∀ j, j ∉ J → v2 j = v j) ∧ ∀ k, k ∉ K → f2 k = f k
theorem mfr.rf {J K : List Nat} {v : Nat → Int32} {f : Nat → Nat → Int32} : mfr J K v v f f := ⟨fun _ _ => rfl, fun _ _ => rfl⟩
theorem mfr.tr {J K : List Nat} {v v2 v3 : Nat → Int32} {f f2 f3 : Nat → Nat → Int32} (h1 : mfr J K v v2 f f2) (h2 : mfr J K v2 v3 f2 f3) : mfr J K v v3 f f3 := ⟨fun j hj => (h2.1 j hj).trans (h1.1 j hj), fun k hk => (h2.2 k hk).trans (h1.2 k hk)⟩
theorem mfr.wd {J K J2 K2 : List Nat} {v v2 : Nat → Int32} {f f2 : Nat → Nat → Int32} (h : mfr J K v v2 f f2) (hJ : ∀ j ∈ J, j ∈ J2) (hK : ∀ k ∈ K, k ∈ K2) : mfr J2 K2 v v2 f f2 := ⟨fun j hj => h.1 j (fun q => hj (hJ j q)), fun k hk => h.2 k (fun q => hk (hK k q))⟩
theorem mfr.v {J K : List Nat} {v v2 : Nat → Int32} {f f2 : Nat → Nat → Int32} (h : mfr J K v v2 f f2) {j : Nat} {x : Int32} (hj : j ∈ J) : mfr J K v (upd v2 j x) f f2 := ⟨fun q hq => by rw [upd_n (show q ≠ j from fun e => hq (by rw [e]; exact hj))]; exact h.1 q hq, h.2⟩
theorem mfr.f {J K : List Nat} {v v2 : Nat → Int32} {f f2 : Nat → Nat → Int32} (h : mfr J K v v2 f f2) {k : Nat} {F : Nat → Int32} (hk : k ∈ K) : mfr J K v v2 f (fu f2 k F) := ⟨h.1, fun q hq => by rw [fu_n (show q ≠ k from fun e => hq (by rw [e]; exact hk))]; exact h.2 q hq⟩
/-- one term, one prefix in the reference's rows -/
def mN (u : Tmv) : Int32 := if u.1 = 1 then u.2.2.1 else u.2.1
def mT (f : Nat → Nat → Int32) (i : Nat) (u : Tmv) : Prop := f 1 i = u.1 ∧ f 2 i = mN u ∧ f 3 i = nI u.2.2.2.1.length ∧ u.2.2.2.1.length ≤ 100 ∧ mL (f 4) (100 * i) u.2.2.2.1 ∧ f 5 i = nI u.2.2.2.2.length ∧ u.2.2.2.2.length ≤ 16 ∧ mL (f 6) (16 * i) u.2.2.2.2
def mP (f : Nat → Nat → Int32) (j : Nat) (q : Pfv) : Prop := f 7 j = nI q.1.length ∧ q.1.length ≤ 6 ∧ mL (f 8) (6 * j) q.1 ∧ f 9 j = nI q.2
/-- what the reference keeps -/
def mSt (v : Nat → Int32) (f : Nat → Nat → Int32) (tape : List Int32) (ts : List Tmv) (bt : Int32) (ps : List Pfv) (pr : List Int32) : Prop :=
  (tape.length ≤ 96 ∧ v 0 = nI tape.length ∧ mL (f 0) 0 tape) ∧ (ts.length ≤ 60 ∧ v 1 = nI ts.length ∧ ∀ i, i < ts.length → mT f i (tmG ts i)) ∧ v 2 = bt ∧ (ps.length ≤ 8 ∧ v 3 = nI ps.length ∧ ∀ j, j < ps.length → mP f j (pfG ps j)) ∧ (pr.length ≤ 300 ∧ v 6 = nI pr.length ∧ mL (f 12) 0 pr)
def mS (E : aw_E) (g0 : AH) (d : Nat) (g : AH) (tape : List Int32) (ts : List Tmv) (bt : Int32) (ps : List Pfv) (pr : List Int32) : Prop := ∃ v f, mG E g0 d v f g ∧ mSt v f tape ts bt ps pr
theorem mSt.keep {v v2 : Nat → Int32} {f f2 : Nat → Nat → Int32} {tape : List Int32} {ts : List Tmv} {bt : Int32} {ps : List Pfv} {pr : List Int32} (h : mSt v f tape ts bt ps pr) (hf : mfr [4, 5, 7, 8, 9] [10, 11, 13, 14, 15, 16, 17, 18, 19] v v2 f f2) : mSt v2 f2 tape ts bt ps pr := by
  obtain ⟨h1, h2⟩ := hf
  unfold mSt mT mP at *
  rw [h1 0 (by decide), h1 1 (by decide), h1 2 (by decide), h1 3 (by decide), h1 6 (by decide), h2 0 (by decide), h2 1 (by decide), h2 2 (by decide), h2 3 (by decide), h2 4 (by decide), h2 5 (by decide), h2 6 (by decide), h2 7 (by decide), h2 8 (by decide), h2 9 (by decide), h2 12 (by decide)]
  exact h
theorem ix100 (t k : Nat) : (100 : Int32) * nI t + nI k = nI (100 * t + k) := by
  rw [show (100 : Int32) = nI 100 from rfl, ← nI_add]
  congr 1
  exact (Int32.ofNat_mul 100 t).symm
theorem ix16 (t k : Nat) : (16 : Int32) * nI t + nI k = nI (16 * t + k) := by
  rw [show (16 : Int32) = nI 16 from rfl, ← nI_add]
  congr 1
  exact (Int32.ofNat_mul 16 t).symm
theorem ix6 (t k : Nat) : (6 : Int32) * nI t + nI k = nI (6 * t + k) := by
  rw [show (6 : Int32) = nI 6 from rfl, ← nI_add]
  congr 1
  exact (Int32.ofNat_mul 6 t).symm
theorem ix100z (t : Nat) : (100 : Int32) * nI t = nI (100 * t) := (Int32.ofNat_mul 100 t).symm
theorem sp_in_ix {q : Int32} {L : Nat} (hL : L < 2 ^ 31) : sp_in q 0 (nI L - 1) = (ixOf L q).isSome := by
  unfold sp_in ixOf
  rcases pk_ix q hL with h | h | ⟨j, hj, rfl⟩
  · rw [if_pos h, decide_eq_true h]; rfl
  · rcases Nat.eq_zero_or_pos L with rfl | h0
    · by_cases q0 : q < 0
      · rw [if_pos q0, decide_eq_true q0]; rfl
      · rw [if_neg q0, if_pos h, decide_eq_false q0]
        have : nI 0 - 1 < q := by
          obtain ⟨j, hj, rfl⟩ := nI_of q0
          rw [Int32.lt_iff_toInt_lt, nI_toInt hj]
          have : (nI 0 - 1).toInt = -1 := by decide
          omega
        rw [decide_eq_true this]; rfl
    · by_cases q0 : q < 0
      · rw [if_pos q0, decide_eq_true q0]; rfl
      · rw [if_neg q0, if_pos h, decide_eq_false q0, nI_m1 h0]
        obtain ⟨j, hj, rfl⟩ := nI_of q0
        rw [nI_leI hL hj] at h
        rw [decide_eq_true (nI_lt (by omega) hj)]; rfl
  · rw [if_neg (nI_pos (by omega)), if_neg (nI_ge hj hL), decide_eq_false (nI_pos (by omega)), nI_m1 (by omega), decide_eq_false (nI_nlt (by omega) (by omega))]; rfl
