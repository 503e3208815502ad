/-! bytes: what kinds there are -/
def aw_b (b : Bool) : Int32 := if b then 1 else 0
theorem aw_b1 {b : Bool} (h : b = true) : (1 : Int32) = aw_b b := by rw [h]; rfl
theorem aw_b0 {b : Bool} (h : b = false) : (0 : Int32) = aw_b b := by rw [h]; rfl
theorem aw_bz (b : Bool) : narrow .boolean (.int (aw_b b)) = .int (aw_b b) := by cases b <;> rfl
theorem aw_b_t {b : Bool} (h : ¬ aw_b b = 0) : b = true := by cases b <;> simp_all [aw_b]
theorem aw_b_f {b : Bool} (h : aw_b b = 0) : b = false := by cases b <;> simp_all [aw_b]
def sp_in (v lo hi : Int32) : Bool := !decide (v < lo) && !decide (hi < v)
def sp_sm (b : Int32) : Bool := sp_in b 97 122
def sp_gr (b : Int32) : Bool := sp_in b 65 90
def sp_let (b : Int32) : Bool := sp_sm b || sp_gr b
def sp_dig (b : Int32) : Bool := sp_in b 48 57
def sp_ld (b : Int32) : Bool := sp_let b || sp_dig b
def sp_tape (b : Int32) : Bool := sp_in b 32 126
def sp_txt (b : Int32) : Bool := decide (b = 9) || (decide (b = 10) || (decide (b = 13) || sp_tape b))
def sp_low (b : Int32) : Int32 := if sp_gr b then b - 65 + 97 else b
def sp_hex (b : Int32) : Int32 := if sp_dig b then b - 48 else if sp_in b 97 102 then b - 97 + 10 else if sp_in b 65 70 then b - 65 + 10 else -1
def sp_ord (a b : Int32) : Int32 := if a = b then 0 else if a < b then -1 else 1
set_option maxRecDepth 100000 in
set_option maxHeartbeats 4000000 in
theorem ev_At_isSmallLetter {l : Launch} {E : aw_E} {g : AH} {n : Nat} (b : Int32)  : EV l E 0 0 0 y_At_isSmallLetter c_At_isSmallLetter 1 (some .boolean) g n [.int b] (aw_Pi (fun r_ g2 n2 => r_ = aw_b (sp_sm b) ∧ g2 = g ∧ n2 = n)) := by
  refine aw_enter "AddressTerms" [some (.int b)] (by decide) rfl rfl (Nat.le_of_ble_eq_true rfl) ?_
  intro p e s m args below meth c S hnm
  refine aw_iload_0 S d_At_isSmallLetter_0 ?_
  refine aw_bipush (v := 97) S d_At_isSmallLetter_1 (by decide) ?_
  refine aw_icmp_lt S 16 d_At_isSmallLetter_3 (by decide) (fun c3 => ?_) (fun c3 => ?_)
  · refine aw_iconst (v := 0) S d_At_isSmallLetter_16 (by decide) ?_
    refine aw_zret S .boolean rfl (by rfl) d_At_isSmallLetter_17 ?_ (by decide) (by decide)
    exact ⟨by simp [aw_b, sp_sm, sp_in, *], rfl, rfl⟩
  · refine aw_iload_0 S d_At_isSmallLetter_6 ?_
    refine aw_bipush (v := 122) S d_At_isSmallLetter_7 (by decide) ?_
    refine aw_icmp_gt S 16 d_At_isSmallLetter_9 (by decide) (fun c9 => ?_) (fun c9 => ?_)
    · refine aw_iconst (v := 0) S d_At_isSmallLetter_16 (by decide) ?_
      refine aw_zret S .boolean rfl (by rfl) d_At_isSmallLetter_17 ?_ (by decide) (by decide)
      exact ⟨by simp [aw_b, sp_sm, sp_in, *], rfl, rfl⟩
    · refine aw_iconst (v := 1) S d_At_isSmallLetter_12 (by decide) ?_
      refine aw_goto S 17 d_At_isSmallLetter_13 (by decide) ?_
      refine aw_zret S .boolean rfl (by rfl) d_At_isSmallLetter_17 ?_ (by decide) (by decide)
      exact ⟨by simp [aw_b, sp_sm, sp_in, *], rfl, rfl⟩
set_option maxRecDepth 100000 in
set_option maxHeartbeats 4000000 in
theorem ev_At_isGreatLetter {l : Launch} {E : aw_E} {g : AH} {n : Nat} (b : Int32)  : EV l E 0 0 0 y_At_isGreatLetter c_At_isGreatLetter 1 (some .boolean) g n [.int b] (aw_Pi (fun r_ g2 n2 => r_ = aw_b (sp_gr b) ∧ g2 = g ∧ n2 = n)) := by
  refine aw_enter "AddressTerms" [some (.int b)] (by decide) rfl rfl (Nat.le_of_ble_eq_true rfl) ?_
  intro p e s m args below meth c S hnm
  refine aw_iload_0 S d_At_isGreatLetter_0 ?_
  refine aw_bipush (v := 65) S d_At_isGreatLetter_1 (by decide) ?_
  refine aw_icmp_lt S 16 d_At_isGreatLetter_3 (by decide) (fun c3 => ?_) (fun c3 => ?_)
  · refine aw_iconst (v := 0) S d_At_isGreatLetter_16 (by decide) ?_
    refine aw_zret S .boolean rfl (by rfl) d_At_isGreatLetter_17 ?_ (by decide) (by decide)
    exact ⟨by simp [aw_b, sp_gr, sp_in, *], rfl, rfl⟩
  · refine aw_iload_0 S d_At_isGreatLetter_6 ?_
    refine aw_bipush (v := 90) S d_At_isGreatLetter_7 (by decide) ?_
    refine aw_icmp_gt S 16 d_At_isGreatLetter_9 (by decide) (fun c9 => ?_) (fun c9 => ?_)
    · refine aw_iconst (v := 0) S d_At_isGreatLetter_16 (by decide) ?_
      refine aw_zret S .boolean rfl (by rfl) d_At_isGreatLetter_17 ?_ (by decide) (by decide)
      exact ⟨by simp [aw_b, sp_gr, sp_in, *], rfl, rfl⟩
    · refine aw_iconst (v := 1) S d_At_isGreatLetter_12 (by decide) ?_
      refine aw_goto S 17 d_At_isGreatLetter_13 (by decide) ?_
      refine aw_zret S .boolean rfl (by rfl) d_At_isGreatLetter_17 ?_ (by decide) (by decide)
      exact ⟨by simp [aw_b, sp_gr, sp_in, *], rfl, rfl⟩
set_option maxRecDepth 100000 in
set_option maxHeartbeats 4000000 in
theorem ev_At_isDigit {l : Launch} {E : aw_E} {g : AH} {n : Nat} (b : Int32)  : EV l E 0 0 0 y_At_isDigit c_At_isDigit 1 (some .boolean) g n [.int b] (aw_Pi (fun r_ g2 n2 => r_ = aw_b (sp_dig b) ∧ g2 = g ∧ n2 = n)) := by
  refine aw_enter "AddressTerms" [some (.int b)] (by decide) rfl rfl (Nat.le_of_ble_eq_true rfl) ?_
  intro p e s m args below meth c S hnm
  refine aw_iload_0 S d_At_isDigit_0 ?_
  refine aw_bipush (v := 48) S d_At_isDigit_1 (by decide) ?_
  refine aw_icmp_lt S 16 d_At_isDigit_3 (by decide) (fun c3 => ?_) (fun c3 => ?_)
  · refine aw_iconst (v := 0) S d_At_isDigit_16 (by decide) ?_
    refine aw_zret S .boolean rfl (by rfl) d_At_isDigit_17 ?_ (by decide) (by decide)
    exact ⟨by simp [aw_b, sp_dig, sp_in, *], rfl, rfl⟩
  · refine aw_iload_0 S d_At_isDigit_6 ?_
    refine aw_bipush (v := 57) S d_At_isDigit_7 (by decide) ?_
    refine aw_icmp_gt S 16 d_At_isDigit_9 (by decide) (fun c9 => ?_) (fun c9 => ?_)
    · refine aw_iconst (v := 0) S d_At_isDigit_16 (by decide) ?_
      refine aw_zret S .boolean rfl (by rfl) d_At_isDigit_17 ?_ (by decide) (by decide)
      exact ⟨by simp [aw_b, sp_dig, sp_in, *], rfl, rfl⟩
    · refine aw_iconst (v := 1) S d_At_isDigit_12 (by decide) ?_
      refine aw_goto S 17 d_At_isDigit_13 (by decide) ?_
      refine aw_zret S .boolean rfl (by rfl) d_At_isDigit_17 ?_ (by decide) (by decide)
      exact ⟨by simp [aw_b, sp_dig, sp_in, *], rfl, rfl⟩
set_option maxRecDepth 100000 in
set_option maxHeartbeats 4000000 in
theorem ev_At_isTapeByte {l : Launch} {E : aw_E} {g : AH} {n : Nat} (b : Int32)  : EV l E 0 0 0 y_At_isTapeByte c_At_isTapeByte 1 (some .boolean) g n [.int b] (aw_Pi (fun r_ g2 n2 => r_ = aw_b (sp_tape b) ∧ g2 = g ∧ n2 = n)) := by
  refine aw_enter "AddressTerms" [some (.int b)] (by decide) rfl rfl (Nat.le_of_ble_eq_true rfl) ?_
  intro p e s m args below meth c S hnm
  refine aw_iload_0 S d_At_isTapeByte_0 ?_
  refine aw_bipush (v := 32) S d_At_isTapeByte_1 (by decide) ?_
  refine aw_icmp_lt S 16 d_At_isTapeByte_3 (by decide) (fun c3 => ?_) (fun c3 => ?_)
  · refine aw_iconst (v := 0) S d_At_isTapeByte_16 (by decide) ?_
    refine aw_zret S .boolean rfl (by rfl) d_At_isTapeByte_17 ?_ (by decide) (by decide)
    exact ⟨by simp [aw_b, sp_tape, sp_in, *], rfl, rfl⟩
  · refine aw_iload_0 S d_At_isTapeByte_6 ?_
    refine aw_bipush (v := 126) S d_At_isTapeByte_7 (by decide) ?_
    refine aw_icmp_gt S 16 d_At_isTapeByte_9 (by decide) (fun c9 => ?_) (fun c9 => ?_)
    · refine aw_iconst (v := 0) S d_At_isTapeByte_16 (by decide) ?_
      refine aw_zret S .boolean rfl (by rfl) d_At_isTapeByte_17 ?_ (by decide) (by decide)
      exact ⟨by simp [aw_b, sp_tape, sp_in, *], rfl, rfl⟩
    · refine aw_iconst (v := 1) S d_At_isTapeByte_12 (by decide) ?_
      refine aw_goto S 17 d_At_isTapeByte_13 (by decide) ?_
      refine aw_zret S .boolean rfl (by rfl) d_At_isTapeByte_17 ?_ (by decide) (by decide)
      exact ⟨by simp [aw_b, sp_tape, sp_in, *], rfl, rfl⟩
set_option maxRecDepth 100000 in
set_option maxHeartbeats 4000000 in
theorem ev_At_isLetter {l : Launch} {E : aw_E} {g : AH} {n : Nat} (b : Int32)  : EV l E 1 0 0 y_At_isLetter c_At_isLetter 1 (some .boolean) g n [.int b] (aw_Pi (fun r_ g2 n2 => r_ = aw_b (sp_let b) ∧ g2 = g ∧ n2 = n)) := by
  refine aw_enter "AddressTerms" [some (.int b)] (by decide) rfl rfl (Nat.le_of_ble_eq_true rfl) ?_
  intro p e s m args below meth c S hnm
  refine aw_iload_0 S d_At_isLetter_0 ?_
  refine aw_callSiR S (ev_At_isSmallLetter b) mb_At_isSmallLetter n_st_At_isSmallLetter n_ml_At_255 d_At_isLetter_1 rfl rfl ?_
  refine aw_if_ne S 14 d_At_isLetter_4 (by decide) (fun c4 => ?_) (fun c4 => ?_)
  · refine aw_iconst (v := 1) S d_At_isLetter_14 (by decide) ?_
    refine aw_goto S 19 d_At_isLetter_15 (by decide) ?_
    refine aw_zret S .boolean rfl (by rfl) d_At_isLetter_19 ?_ (by decide) (by decide)
    exact ⟨by simp_all [aw_b, sp_let], rfl, rfl⟩
  · refine aw_iload_0 S d_At_isLetter_7 ?_
    refine aw_callSiR S (ev_At_isGreatLetter b) mb_At_isGreatLetter n_st_At_isGreatLetter n_ml_At_258 d_At_isLetter_8 rfl rfl ?_
    refine aw_if_eq S 18 d_At_isLetter_11 (by decide) (fun c11 => ?_) (fun c11 => ?_)
    · refine aw_iconst (v := 0) S d_At_isLetter_18 (by decide) ?_
      refine aw_zret S .boolean rfl (by rfl) d_At_isLetter_19 ?_ (by decide) (by decide)
      exact ⟨by simp_all [aw_b, sp_let], rfl, rfl⟩
    · refine aw_iconst (v := 1) S d_At_isLetter_14 (by decide) ?_
      refine aw_goto S 19 d_At_isLetter_15 (by decide) ?_
      refine aw_zret S .boolean rfl (by rfl) d_At_isLetter_19 ?_ (by decide) (by decide)
      exact ⟨by simp_all [aw_b, sp_let], rfl, rfl⟩
set_option maxRecDepth 100000 in
set_option maxHeartbeats 4000000 in
theorem ev_At_isLetterOrDigit {l : Launch} {E : aw_E} {g : AH} {n : Nat} (b : Int32)  : EV l E 2 0 0 y_At_isLetterOrDigit c_At_isLetterOrDigit 1 (some .boolean) g n [.int b] (aw_Pi (fun r_ g2 n2 => r_ = aw_b (sp_ld b) ∧ g2 = g ∧ n2 = n)) := by
  refine aw_enter "AddressTerms" [some (.int b)] (by decide) rfl rfl (Nat.le_of_ble_eq_true rfl) ?_
  intro p e s m args below meth c S hnm
  refine aw_iload_0 S d_At_isLetterOrDigit_0 ?_
  refine aw_callSiR S (ev_At_isLetter b) mb_At_isLetter n_st_At_isLetter n_ml_At_261 d_At_isLetterOrDigit_1 rfl rfl ?_
  refine aw_if_ne S 14 d_At_isLetterOrDigit_4 (by decide) (fun c4 => ?_) (fun c4 => ?_)
  · refine aw_iconst (v := 1) S d_At_isLetterOrDigit_14 (by decide) ?_
    refine aw_goto S 19 d_At_isLetterOrDigit_15 (by decide) ?_
    refine aw_zret S .boolean rfl (by rfl) d_At_isLetterOrDigit_19 ?_ (by decide) (by decide)
    exact ⟨by simp_all [aw_b, sp_ld], rfl, rfl⟩
  · refine aw_iload_0 S d_At_isLetterOrDigit_7 ?_
    refine aw_callSiR S (ev_At_isDigit b) mb_At_isDigit n_st_At_isDigit n_ml_At_264 d_At_isLetterOrDigit_8 rfl rfl ?_
    refine aw_if_eq S 18 d_At_isLetterOrDigit_11 (by decide) (fun c11 => ?_) (fun c11 => ?_)
    · refine aw_iconst (v := 0) S d_At_isLetterOrDigit_18 (by decide) ?_
      refine aw_zret S .boolean rfl (by rfl) d_At_isLetterOrDigit_19 ?_ (by decide) (by decide)
      exact ⟨by simp_all [aw_b, sp_ld], rfl, rfl⟩
    · refine aw_iconst (v := 1) S d_At_isLetterOrDigit_14 (by decide) ?_
      refine aw_goto S 19 d_At_isLetterOrDigit_15 (by decide) ?_
      refine aw_zret S .boolean rfl (by rfl) d_At_isLetterOrDigit_19 ?_ (by decide) (by decide)
      exact ⟨by simp_all [aw_b, sp_ld], rfl, rfl⟩
set_option maxRecDepth 100000 in
set_option maxHeartbeats 4000000 in
theorem ev_At_isTextByte {l : Launch} {E : aw_E} {g : AH} {n : Nat} (b : Int32)  : EV l E 1 0 0 y_At_isTextByte c_At_isTextByte 1 (some .boolean) g n [.int b] (aw_Pi (fun r_ g2 n2 => r_ = aw_b (sp_txt b) ∧ g2 = g ∧ n2 = n)) := by
  refine aw_enter "AddressTerms" [some (.int b)] (by decide) rfl rfl (Nat.le_of_ble_eq_true rfl) ?_
  intro p e s m args below meth c S hnm
  refine aw_iload_0 S d_At_isTextByte_0 ?_
  refine aw_bipush (v := 9) S d_At_isTextByte_1 (by decide) ?_
  refine aw_icmp_eq S 25 d_At_isTextByte_3 (by decide) (fun c3 => ?_) (fun c3 => ?_)
  · refine aw_iconst (v := 1) S d_At_isTextByte_25 (by decide) ?_
    refine aw_goto S 30 d_At_isTextByte_26 (by decide) ?_
    refine aw_zret S .boolean rfl (by rfl) d_At_isTextByte_30 ?_ (by decide) (by decide)
    exact ⟨by simp_all [aw_b, sp_txt], rfl, rfl⟩
  · refine aw_iload_0 S d_At_isTextByte_6 ?_
    refine aw_bipush (v := 10) S d_At_isTextByte_7 (by decide) ?_
    refine aw_icmp_eq S 25 d_At_isTextByte_9 (by decide) (fun c9 => ?_) (fun c9 => ?_)
    · refine aw_iconst (v := 1) S d_At_isTextByte_25 (by decide) ?_
      refine aw_goto S 30 d_At_isTextByte_26 (by decide) ?_
      refine aw_zret S .boolean rfl (by rfl) d_At_isTextByte_30 ?_ (by decide) (by decide)
      exact ⟨by simp_all [aw_b, sp_txt], rfl, rfl⟩
    · refine aw_iload_0 S d_At_isTextByte_12 ?_
      refine aw_bipush (v := 13) S d_At_isTextByte_13 (by decide) ?_
      refine aw_icmp_eq S 25 d_At_isTextByte_15 (by decide) (fun c15 => ?_) (fun c15 => ?_)
      · refine aw_iconst (v := 1) S d_At_isTextByte_25 (by decide) ?_
        refine aw_goto S 30 d_At_isTextByte_26 (by decide) ?_
        refine aw_zret S .boolean rfl (by rfl) d_At_isTextByte_30 ?_ (by decide) (by decide)
        exact ⟨by simp_all [aw_b, sp_txt], rfl, rfl⟩
      · refine aw_iload_0 S d_At_isTextByte_18 ?_
        refine aw_callSiR S (ev_At_isTapeByte b) mb_At_isTapeByte n_st_At_isTapeByte n_ml_At_71 d_At_isTextByte_19 rfl rfl ?_
        refine aw_if_eq S 29 d_At_isTextByte_22 (by decide) (fun c22 => ?_) (fun c22 => ?_)
        · refine aw_iconst (v := 0) S d_At_isTextByte_29 (by decide) ?_
          refine aw_zret S .boolean rfl (by rfl) d_At_isTextByte_30 ?_ (by decide) (by decide)
          exact ⟨by simp_all [aw_b, sp_txt], rfl, rfl⟩
        · refine aw_iconst (v := 1) S d_At_isTextByte_25 (by decide) ?_
          refine aw_goto S 30 d_At_isTextByte_26 (by decide) ?_
          refine aw_zret S .boolean rfl (by rfl) d_At_isTextByte_30 ?_ (by decide) (by decide)
          exact ⟨by simp_all [aw_b, sp_txt], rfl, rfl⟩
set_option maxRecDepth 100000 in
set_option maxHeartbeats 4000000 in
theorem ev_At_smallOf {l : Launch} {E : aw_E} {g : AH} {n : Nat} (b : Int32)  : EV l E 1 0 0 y_At_smallOf c_At_smallOf 1 (some .int) g n [.int b] (aw_Pi (fun r_ g2 n2 => r_ = sp_low b ∧ g2 = g ∧ n2 = n)) := by
  refine aw_enter "AddressTerms" [some (.int b)] (by decide) rfl rfl (Nat.le_of_ble_eq_true rfl) ?_
  intro p e s m args below meth c S hnm
  refine aw_iload_0 S d_At_smallOf_0 ?_
  refine aw_callSiR S (ev_At_isGreatLetter b) mb_At_isGreatLetter n_st_At_isGreatLetter n_ml_At_258 d_At_smallOf_1 rfl rfl ?_
  refine aw_if_eq S 17 d_At_smallOf_4 (by decide) (fun c4 => ?_) (fun c4 => ?_)
  · refine aw_iload_0 S d_At_smallOf_17 ?_
    refine aw_iret S rfl d_At_smallOf_18 ?_ (by decide) (by decide)
    exact ⟨by simp_all [aw_b, sp_low], rfl, rfl⟩
  · refine aw_iload_0 S d_At_smallOf_7 ?_
    refine aw_bipush (v := 65) S d_At_smallOf_8 (by decide) ?_
    refine aw_isub S d_At_smallOf_10 ?_
    refine aw_bipush (v := 97) S d_At_smallOf_11 (by decide) ?_
    refine aw_iadd S d_At_smallOf_13 ?_
    refine aw_goto S 18 d_At_smallOf_14 (by decide) ?_
    refine aw_iret S rfl d_At_smallOf_18 ?_ (by decide) (by decide)
    exact ⟨by simp_all [aw_b, sp_low], rfl, rfl⟩
set_option maxRecDepth 100000 in
set_option maxHeartbeats 4000000 in
theorem ev_At_hexValue {l : Launch} {E : aw_E} {g : AH} {n : Nat} (b : Int32)  : EV l E 1 0 0 y_At_hexValue c_At_hexValue 1 (some .int) g n [.int b] (aw_Pi (fun r_ g2 n2 => r_ = sp_hex b ∧ g2 = g ∧ n2 = n)) := by
  refine aw_enter "AddressTerms" [some (.int b)] (by decide) rfl rfl (Nat.le_of_ble_eq_true rfl) ?_
  intro p e s m args below meth c S hnm
  refine aw_iload_0 S d_At_hexValue_0 ?_
  refine aw_callSiR S (ev_At_isDigit b) mb_At_isDigit n_st_At_isDigit n_ml_At_264 d_At_hexValue_1 rfl rfl ?_
  refine aw_if_eq S 12 d_At_hexValue_4 (by decide) (fun c4 => ?_) (fun c4 => ?_)
  · refine aw_iload_0 S d_At_hexValue_12 ?_
    refine aw_bipush (v := 97) S d_At_hexValue_13 (by decide) ?_
    refine aw_icmp_lt S 32 d_At_hexValue_15 (by decide) (fun c15 => ?_) (fun c15 => ?_)
    · refine aw_iload_0 S d_At_hexValue_32 ?_
      refine aw_bipush (v := 65) S d_At_hexValue_33 (by decide) ?_
      refine aw_icmp_lt S 54 d_At_hexValue_35 (by decide) (fun c35 => ?_) (fun c35 => ?_)
      · refine aw_iconst (v := -1) S d_At_hexValue_54 (by decide) ?_
        refine aw_iret S rfl d_At_hexValue_55 ?_ (by decide) (by decide)
        exact ⟨by simp_all [aw_b, sp_hex, sp_in], rfl, rfl⟩
      · refine aw_iload_0 S d_At_hexValue_38 ?_
        refine aw_bipush (v := 70) S d_At_hexValue_39 (by decide) ?_
        refine aw_icmp_gt S 54 d_At_hexValue_41 (by decide) (fun c41 => ?_) (fun c41 => ?_)
        · refine aw_iconst (v := -1) S d_At_hexValue_54 (by decide) ?_
          refine aw_iret S rfl d_At_hexValue_55 ?_ (by decide) (by decide)
          exact ⟨by simp_all [aw_b, sp_hex, sp_in], rfl, rfl⟩
        · refine aw_iload_0 S d_At_hexValue_44 ?_
          refine aw_bipush (v := 65) S d_At_hexValue_45 (by decide) ?_
          refine aw_isub S d_At_hexValue_47 ?_
          refine aw_bipush (v := 10) S d_At_hexValue_48 (by decide) ?_
          refine aw_iadd S d_At_hexValue_50 ?_
          refine aw_goto S 55 d_At_hexValue_51 (by decide) ?_
          refine aw_iret S rfl d_At_hexValue_55 ?_ (by decide) (by decide)
          exact ⟨by simp_all [aw_b, sp_hex, sp_in], rfl, rfl⟩
    · refine aw_iload_0 S d_At_hexValue_18 ?_
      refine aw_bipush (v := 102) S d_At_hexValue_19 (by decide) ?_
      refine aw_icmp_gt S 32 d_At_hexValue_21 (by decide) (fun c21 => ?_) (fun c21 => ?_)
      · refine aw_iload_0 S d_At_hexValue_32 ?_
        refine aw_bipush (v := 65) S d_At_hexValue_33 (by decide) ?_
        refine aw_icmp_lt S 54 d_At_hexValue_35 (by decide) (fun c35 => ?_) (fun c35 => ?_)
        · refine aw_iconst (v := -1) S d_At_hexValue_54 (by decide) ?_
          refine aw_iret S rfl d_At_hexValue_55 ?_ (by decide) (by decide)
          exact ⟨by simp_all [aw_b, sp_hex, sp_in], rfl, rfl⟩
        · refine aw_iload_0 S d_At_hexValue_38 ?_
          refine aw_bipush (v := 70) S d_At_hexValue_39 (by decide) ?_
          refine aw_icmp_gt S 54 d_At_hexValue_41 (by decide) (fun c41 => ?_) (fun c41 => ?_)
          · refine aw_iconst (v := -1) S d_At_hexValue_54 (by decide) ?_
            refine aw_iret S rfl d_At_hexValue_55 ?_ (by decide) (by decide)
            exact ⟨by simp_all [aw_b, sp_hex, sp_in], rfl, rfl⟩
          · refine aw_iload_0 S d_At_hexValue_44 ?_
            refine aw_bipush (v := 65) S d_At_hexValue_45 (by decide) ?_
            refine aw_isub S d_At_hexValue_47 ?_
            refine aw_bipush (v := 10) S d_At_hexValue_48 (by decide) ?_
            refine aw_iadd S d_At_hexValue_50 ?_
            refine aw_goto S 55 d_At_hexValue_51 (by decide) ?_
            refine aw_iret S rfl d_At_hexValue_55 ?_ (by decide) (by decide)
            exact ⟨by simp_all [aw_b, sp_hex, sp_in], rfl, rfl⟩
      · refine aw_iload_0 S d_At_hexValue_24 ?_
        refine aw_bipush (v := 97) S d_At_hexValue_25 (by decide) ?_
        refine aw_isub S d_At_hexValue_27 ?_
        refine aw_bipush (v := 10) S d_At_hexValue_28 (by decide) ?_
        refine aw_iadd S d_At_hexValue_30 ?_
        refine aw_iret S rfl d_At_hexValue_31 ?_ (by decide) (by decide)
        exact ⟨by simp_all [aw_b, sp_hex, sp_in], rfl, rfl⟩
  · refine aw_iload_0 S d_At_hexValue_7 ?_
    refine aw_bipush (v := 48) S d_At_hexValue_8 (by decide) ?_
    refine aw_isub S d_At_hexValue_10 ?_
    refine aw_iret S rfl d_At_hexValue_11 ?_ (by decide) (by decide)
    exact ⟨by simp_all [aw_b, sp_hex, sp_in], rfl, rfl⟩
set_option maxRecDepth 100000 in
set_option maxHeartbeats 4000000 in
theorem ev_At_orderOf {l : Launch} {E : aw_E} {g : AH} {n : Nat} (a b : Int32)  : EV l E 0 0 0 y_At_orderOf c_At_orderOf 2 (some .int) g n [.int a, .int b] (aw_Pi (fun r_ g2 n2 => r_ = sp_ord a b ∧ g2 = g ∧ n2 = n)) := by
  refine aw_enter "AddressTerms" [some (.int a), some (.int b)] (by decide) rfl rfl (Nat.le_of_ble_eq_true rfl) ?_
  intro p e s m args below meth c S hnm
  refine aw_iload_0 S d_At_orderOf_0 ?_
  refine aw_iload_1 S d_At_orderOf_1 ?_
  refine aw_icmp_ne S 7 d_At_orderOf_2 (by decide) (fun c2 => ?_) (fun c2 => ?_)
  · refine aw_iload_0 S d_At_orderOf_7 ?_
    refine aw_iload_1 S d_At_orderOf_8 ?_
    refine aw_icmp_ge S 16 d_At_orderOf_9 (by decide) (fun c9 => ?_) (fun c9 => ?_)
    · refine aw_iconst (v := 1) S d_At_orderOf_16 (by decide) ?_
      refine aw_iret S rfl d_At_orderOf_17 ?_ (by decide) (by decide)
      exact ⟨by simp [sp_ord, *], rfl, rfl⟩
    · refine aw_iconst (v := -1) S d_At_orderOf_12 (by decide) ?_
      refine aw_goto S 17 d_At_orderOf_13 (by decide) ?_
      refine aw_iret S rfl d_At_orderOf_17 ?_ (by decide) (by decide)
      exact ⟨by simp [sp_ord, *], rfl, rfl⟩
  · refine aw_iconst (v := 0) S d_At_orderOf_5 (by decide) ?_
    refine aw_iret S rfl d_At_orderOf_6 ?_ (by decide) (by decide)
    exact ⟨by simp [sp_ord, *], rfl, rfl⟩
set_option maxRecDepth 100000 in
set_option maxHeartbeats 4000000 in
theorem ev_Md_is {l : Launch} {E : aw_E} {g : AH} {n : Nat} (v lo hi : Int32)  : EV l E 0 0 0 y_Md_is c_Md_is 3 (some .boolean) g n [.int v, .int lo, .int hi] (aw_Pi (fun r_ g2 n2 => r_ = aw_b (sp_in v lo hi) ∧ g2 = g ∧ n2 = n)) := by
  refine aw_enter "AddressTermsModel" [some (.int v), some (.int lo), some (.int hi)] (by decide) rfl rfl (Nat.le_of_ble_eq_true rfl) ?_
  intro p e s m args below meth c S hnm
  refine aw_iload_0 S d_Md_is_0 ?_
  refine aw_iload_1 S d_Md_is_1 ?_
  refine aw_icmp_lt S 14 d_Md_is_2 (by decide) (fun c2 => ?_) (fun c2 => ?_)
  · refine aw_iconst (v := 0) S d_Md_is_14 (by decide) ?_
    refine aw_zret S .boolean rfl (by rfl) d_Md_is_15 ?_ (by decide) (by decide)
    exact ⟨by simp [aw_b, sp_in, *], rfl, rfl⟩
  · refine aw_iload_0 S d_Md_is_5 ?_
    refine aw_iload_2 S d_Md_is_6 ?_
    refine aw_icmp_gt S 14 d_Md_is_7 (by decide) (fun c7 => ?_) (fun c7 => ?_)
    · refine aw_iconst (v := 0) S d_Md_is_14 (by decide) ?_
      refine aw_zret S .boolean rfl (by rfl) d_Md_is_15 ?_ (by decide) (by decide)
      exact ⟨by simp [aw_b, sp_in, *], rfl, rfl⟩
    · refine aw_iconst (v := 1) S d_Md_is_10 (by decide) ?_
      refine aw_goto S 15 d_Md_is_11 (by decide) ?_
      refine aw_zret S .boolean rfl (by rfl) d_Md_is_15 ?_ (by decide) (by decide)
      exact ⟨by simp [aw_b, sp_in, *], rfl, rfl⟩
set_option maxRecDepth 100000 in
set_option maxHeartbeats 4000000 in
theorem ev_Md_isSmall {l : Launch} {E : aw_E} {g : AH} {n : Nat} (b : Int32)  : EV l E 1 0 0 y_Md_isSmall c_Md_isSmall 1 (some .boolean) g n [.int b] (aw_Pi (fun r_ g2 n2 => r_ = aw_b (sp_sm b) ∧ g2 = g ∧ n2 = n)) := by
  refine aw_enter "AddressTermsModel" [some (.int b)] (by decide) rfl rfl (Nat.le_of_ble_eq_true rfl) ?_
  intro p e s m args below meth c S hnm
  refine aw_iload_0 S d_Md_isSmall_0 ?_
  refine aw_bipush (v := 97) S d_Md_isSmall_1 (by decide) ?_
  refine aw_bipush (v := 122) S d_Md_isSmall_3 (by decide) ?_
  refine aw_callSiR S (ev_Md_is b 97 122) mb_Md_is n_st_Md_is n_ml_Md_77 d_Md_isSmall_5 rfl rfl ?_
  refine aw_zret S .boolean rfl (aw_bz _) d_Md_isSmall_8 ?_ (by decide) (by decide)
  exact ⟨rfl, rfl, rfl⟩
set_option maxRecDepth 100000 in
set_option maxHeartbeats 4000000 in
theorem ev_Md_isDigit {l : Launch} {E : aw_E} {g : AH} {n : Nat} (b : Int32)  : EV l E 1 0 0 y_Md_isDigit c_Md_isDigit 1 (some .boolean) g n [.int b] (aw_Pi (fun r_ g2 n2 => r_ = aw_b (sp_dig b) ∧ g2 = g ∧ n2 = n)) := by
  refine aw_enter "AddressTermsModel" [some (.int b)] (by decide) rfl rfl (Nat.le_of_ble_eq_true rfl) ?_
  intro p e s m args below meth c S hnm
  refine aw_iload_0 S d_Md_isDigit_0 ?_
  refine aw_bipush (v := 48) S d_Md_isDigit_1 (by decide) ?_
  refine aw_bipush (v := 57) S d_Md_isDigit_3 (by decide) ?_
  refine aw_callSiR S (ev_Md_is b 48 57) mb_Md_is n_st_Md_is n_ml_Md_77 d_Md_isDigit_5 rfl rfl ?_
  refine aw_zret S .boolean rfl (aw_bz _) d_Md_isDigit_8 ?_ (by decide) (by decide)
  exact ⟨rfl, rfl, rfl⟩
set_option maxRecDepth 100000 in
set_option maxHeartbeats 4000000 in
theorem ev_Md_isLetter {l : Launch} {E : aw_E} {g : AH} {n : Nat} (b : Int32)  : EV l E 2 0 0 y_Md_isLetter c_Md_isLetter 1 (some .boolean) g n [.int b] (aw_Pi (fun r_ g2 n2 => r_ = aw_b (sp_let b) ∧ g2 = g ∧ n2 = n)) := by
  refine aw_enter "AddressTermsModel" [some (.int b)] (by decide) rfl rfl (Nat.le_of_ble_eq_true rfl) ?_
  intro p e s m args below meth c S hnm
  refine aw_iload_0 S d_Md_isLetter_0 ?_
  refine aw_callSiR S (ev_Md_isSmall b) mb_Md_isSmall n_st_Md_isSmall n_ml_Md_81 d_Md_isLetter_1 rfl rfl ?_
  refine aw_if_ne S 18 d_Md_isLetter_4 (by decide) (fun c4 => ?_) (fun c4 => ?_)
  · refine aw_iconst (v := 1) S d_Md_isLetter_18 (by decide) ?_
    refine aw_goto S 23 d_Md_isLetter_19 (by decide) ?_
    refine aw_zret S .boolean rfl (by rfl) d_Md_isLetter_23 ?_ (by decide) (by decide)
    exact ⟨by simp_all [aw_b, sp_let, sp_gr], rfl, rfl⟩
  · refine aw_iload_0 S d_Md_isLetter_7 ?_
    refine aw_bipush (v := 65) S d_Md_isLetter_8 (by decide) ?_
    refine aw_bipush (v := 90) S d_Md_isLetter_10 (by decide) ?_
    refine aw_callSiR S (ev_Md_is b 65 90) mb_Md_is n_st_Md_is n_ml_Md_77 d_Md_isLetter_12 rfl rfl ?_
    refine aw_if_eq S 22 d_Md_isLetter_15 (by decide) (fun c15 => ?_) (fun c15 => ?_)
    · refine aw_iconst (v := 0) S d_Md_isLetter_22 (by decide) ?_
      refine aw_zret S .boolean rfl (by rfl) d_Md_isLetter_23 ?_ (by decide) (by decide)
      exact ⟨by simp_all [aw_b, sp_let, sp_gr], rfl, rfl⟩
    · refine aw_iconst (v := 1) S d_Md_isLetter_18 (by decide) ?_
      refine aw_goto S 23 d_Md_isLetter_19 (by decide) ?_
      refine aw_zret S .boolean rfl (by rfl) d_Md_isLetter_23 ?_ (by decide) (by decide)
      exact ⟨by simp_all [aw_b, sp_let, sp_gr], rfl, rfl⟩
set_option maxRecDepth 100000 in
set_option maxHeartbeats 4000000 in
theorem ev_Md_hex {l : Launch} {E : aw_E} {g : AH} {n : Nat} (b : Int32)  : EV l E 2 0 0 y_Md_hex c_Md_hex 1 (some .int) g n [.int b] (aw_Pi (fun r_ g2 n2 => r_ = sp_hex b ∧ g2 = g ∧ n2 = n)) := by
  refine aw_enter "AddressTermsModel" [some (.int b)] (by decide) rfl rfl (Nat.le_of_ble_eq_true rfl) ?_
  intro p e s m args below meth c S hnm
  refine aw_iload_0 S d_Md_hex_0 ?_
  refine aw_callSiR S (ev_Md_isDigit b) mb_Md_isDigit n_st_Md_isDigit n_ml_Md_85 d_Md_hex_1 rfl rfl ?_
  refine aw_if_eq S 14 d_Md_hex_4 (by decide) (fun c4 => ?_) (fun c4 => ?_)
  · refine aw_iload_0 S d_Md_hex_14 ?_
    refine aw_bipush (v := 97) S d_Md_hex_15 (by decide) ?_
    refine aw_bipush (v := 102) S d_Md_hex_17 (by decide) ?_
    refine aw_callSiR S (ev_Md_is b 97 102) mb_Md_is n_st_Md_is n_ml_Md_77 d_Md_hex_19 rfl rfl ?_
    refine aw_if_eq S 35 d_Md_hex_22 (by decide) (fun c22 => ?_) (fun c22 => ?_)
    · refine aw_iload_0 S d_Md_hex_35 ?_
      refine aw_bipush (v := 65) S d_Md_hex_36 (by decide) ?_
      refine aw_bipush (v := 70) S d_Md_hex_38 (by decide) ?_
      refine aw_callSiR S (ev_Md_is b 65 70) mb_Md_is n_st_Md_is n_ml_Md_77 d_Md_hex_40 rfl rfl ?_
      refine aw_if_eq S 56 d_Md_hex_43 (by decide) (fun c43 => ?_) (fun c43 => ?_)
      · refine aw_iconst (v := -1) S d_Md_hex_56 (by decide) ?_
        refine aw_iret S rfl d_Md_hex_57 ?_ (by decide) (by decide)
        exact ⟨by simp_all [aw_b, sp_hex], rfl, rfl⟩
      · refine aw_iload_0 S d_Md_hex_46 ?_
        refine aw_bipush (v := 65) S d_Md_hex_47 (by decide) ?_
        refine aw_isub S d_Md_hex_49 ?_
        refine aw_bipush (v := 10) S d_Md_hex_50 (by decide) ?_
        refine aw_iadd S d_Md_hex_52 ?_
        refine aw_goto S 57 d_Md_hex_53 (by decide) ?_
        refine aw_iret S rfl d_Md_hex_57 ?_ (by decide) (by decide)
        exact ⟨by simp_all [aw_b, sp_hex], rfl, rfl⟩
    · refine aw_iload_0 S d_Md_hex_25 ?_
      refine aw_bipush (v := 97) S d_Md_hex_26 (by decide) ?_
      refine aw_isub S d_Md_hex_28 ?_
      refine aw_bipush (v := 10) S d_Md_hex_29 (by decide) ?_
      refine aw_iadd S d_Md_hex_31 ?_
      refine aw_goto S 57 d_Md_hex_32 (by decide) ?_
      refine aw_iret S rfl d_Md_hex_57 ?_ (by decide) (by decide)
      exact ⟨by simp_all [aw_b, sp_hex], rfl, rfl⟩
  · refine aw_iload_0 S d_Md_hex_7 ?_
    refine aw_bipush (v := 48) S d_Md_hex_8 (by decide) ?_
    refine aw_isub S d_Md_hex_10 ?_
    refine aw_goto S 57 d_Md_hex_11 (by decide) ?_
    refine aw_iret S rfl d_Md_hex_57 ?_ (by decide) (by decide)
    exact ⟨by simp_all [aw_b, sp_hex], rfl, rfl⟩
set_option maxRecDepth 100000 in
set_option maxHeartbeats 4000000 in
theorem ev_Md_isText {l : Launch} {E : aw_E} {g : AH} {n : Nat} (b : Int32)  : EV l E 1 0 0 y_Md_isText c_Md_isText 1 (some .boolean) g n [.int b] (aw_Pi (fun r_ g2 n2 => r_ = aw_b (sp_txt b) ∧ g2 = g ∧ n2 = n)) := by
  refine aw_enter "AddressTermsModel" [some (.int b)] (by decide) rfl rfl (Nat.le_of_ble_eq_true rfl) ?_
  intro p e s m args below meth c S hnm
  refine aw_iload_0 S d_Md_isText_0 ?_
  refine aw_bipush (v := 9) S d_Md_isText_1 (by decide) ?_
  refine aw_icmp_eq S 29 d_Md_isText_3 (by decide) (fun c3 => ?_) (fun c3 => ?_)
  · refine aw_iconst (v := 1) S d_Md_isText_29 (by decide) ?_
    refine aw_goto S 34 d_Md_isText_30 (by decide) ?_
    refine aw_zret S .boolean rfl (by rfl) d_Md_isText_34 ?_ (by decide) (by decide)
    exact ⟨by simp_all [aw_b, sp_txt, sp_tape], rfl, rfl⟩
  · refine aw_iload_0 S d_Md_isText_6 ?_
    refine aw_bipush (v := 10) S d_Md_isText_7 (by decide) ?_
    refine aw_icmp_eq S 29 d_Md_isText_9 (by decide) (fun c9 => ?_) (fun c9 => ?_)
    · refine aw_iconst (v := 1) S d_Md_isText_29 (by decide) ?_
      refine aw_goto S 34 d_Md_isText_30 (by decide) ?_
      refine aw_zret S .boolean rfl (by rfl) d_Md_isText_34 ?_ (by decide) (by decide)
      exact ⟨by simp_all [aw_b, sp_txt, sp_tape], rfl, rfl⟩
    · refine aw_iload_0 S d_Md_isText_12 ?_
      refine aw_bipush (v := 13) S d_Md_isText_13 (by decide) ?_
      refine aw_icmp_eq S 29 d_Md_isText_15 (by decide) (fun c15 => ?_) (fun c15 => ?_)
      · refine aw_iconst (v := 1) S d_Md_isText_29 (by decide) ?_
        refine aw_goto S 34 d_Md_isText_30 (by decide) ?_
        refine aw_zret S .boolean rfl (by rfl) d_Md_isText_34 ?_ (by decide) (by decide)
        exact ⟨by simp_all [aw_b, sp_txt, sp_tape], rfl, rfl⟩
      · refine aw_iload_0 S d_Md_isText_18 ?_
        refine aw_bipush (v := 32) S d_Md_isText_19 (by decide) ?_
        refine aw_bipush (v := 126) S d_Md_isText_21 (by decide) ?_
        refine aw_callSiR S (ev_Md_is b 32 126) mb_Md_is n_st_Md_is n_ml_Md_77 d_Md_isText_23 rfl rfl ?_
        refine aw_if_eq S 33 d_Md_isText_26 (by decide) (fun c26 => ?_) (fun c26 => ?_)
        · refine aw_iconst (v := 0) S d_Md_isText_33 (by decide) ?_
          refine aw_zret S .boolean rfl (by rfl) d_Md_isText_34 ?_ (by decide) (by decide)
          exact ⟨by simp_all [aw_b, sp_txt, sp_tape], rfl, rfl⟩
        · refine aw_iconst (v := 1) S d_Md_isText_29 (by decide) ?_
          refine aw_goto S 34 d_Md_isText_30 (by decide) ?_
          refine aw_zret S .boolean rfl (by rfl) d_Md_isText_34 ?_ (by decide) (by decide)
          exact ⟨by simp_all [aw_b, sp_txt, sp_tape], rfl, rfl⟩
def sp_sign (v : Int32) : Int32 := if v < 0 then -1 else if v ≤ 0 then 0 else 1
set_option maxRecDepth 100000 in
set_option maxHeartbeats 4000000 in
theorem ev_Md_sign {l : Launch} {E : aw_E} {g : AH} {n : Nat} (v : Int32)  : EV l E 0 0 0 y_Md_sign c_Md_sign 1 (some .int) g n [.int v] (aw_Pi (fun r_ g2 n2 => r_ = sp_sign v ∧ g2 = g ∧ n2 = n)) := by
  refine aw_enter "AddressTermsModel" [some (.int v)] (by decide) rfl rfl (Nat.le_of_ble_eq_true rfl) ?_
  intro p e s m args below meth c S hnm
  refine aw_iload_0 S d_Md_sign_0 ?_
  refine aw_if_ge S 8 d_Md_sign_1 (by decide) (fun c1 => ?_) (fun c1 => ?_)
  · refine aw_iload_0 S d_Md_sign_8 ?_
    refine aw_if_le S 16 d_Md_sign_9 (by decide) (fun c9 => ?_) (fun c9 => ?_)
    · refine aw_iconst (v := 0) S d_Md_sign_16 (by decide) ?_
      refine aw_iret S rfl d_Md_sign_17 ?_ (by decide) (by decide)
      exact ⟨by first | (simp [sp_sign, *]; done) | (have := Int32.not_lt.mpr c1; simp [sp_sign, *]; done), rfl, rfl⟩
    · refine aw_iconst (v := 1) S d_Md_sign_12 (by decide) ?_
      refine aw_goto S 17 d_Md_sign_13 (by decide) ?_
      refine aw_iret S rfl d_Md_sign_17 ?_ (by decide) (by decide)
      exact ⟨by first | (simp [sp_sign, *]; done) | (have := Int32.not_lt.mpr c1; simp [sp_sign, *]; done), rfl, rfl⟩
  · refine aw_iconst (v := -1) S d_Md_sign_4 (by decide) ?_
    refine aw_goto S 17 d_Md_sign_5 (by decide) ?_
    refine aw_iret S rfl d_Md_sign_17 ?_ (by decide) (by decide)
    exact ⟨by first | (simp [sp_sign, *]; done) | (have := Int32.not_lt.mpr c1; simp [sp_sign, *]; done), rfl, rfl⟩
def sp_rank (k : Int32) : Int32 := if k = 1 then 0 else if k = 0 then 1 else 2
set_option maxRecDepth 100000 in
set_option maxHeartbeats 4000000 in
theorem ev_Md_rank {l : Launch} {E : aw_E} {g : AH} {n : Nat} (v : Int32)  : EV l E 0 0 0 y_Md_rank c_Md_rank 1 (some .int) g n [.int v] (aw_Pi (fun r_ g2 n2 => r_ = sp_rank v ∧ g2 = g ∧ n2 = n)) := by
  refine aw_enter "AddressTermsModel" [some (.int v)] (by decide) rfl rfl (Nat.le_of_ble_eq_true rfl) ?_
  intro p e s m args below meth c S hnm
  refine aw_iload_0 S d_Md_rank_0 ?_
  refine aw_iconst (v := 1) S d_Md_rank_1 (by decide) ?_
  refine aw_icmp_ne S 9 d_Md_rank_2 (by decide) (fun c2 => ?_) (fun c2 => ?_)
  · refine aw_iload_0 S d_Md_rank_9 ?_
    refine aw_if_ne S 17 d_Md_rank_10 (by decide) (fun c10 => ?_) (fun c10 => ?_)
    · refine aw_iconst (v := 2) S d_Md_rank_17 (by decide) ?_
      refine aw_iret S rfl d_Md_rank_18 ?_ (by decide) (by decide)
      exact ⟨by simp_all [sp_rank], rfl, rfl⟩
    · refine aw_iconst (v := 1) S d_Md_rank_13 (by decide) ?_
      refine aw_goto S 18 d_Md_rank_14 (by decide) ?_
      refine aw_iret S rfl d_Md_rank_18 ?_ (by decide) (by decide)
      exact ⟨by simp_all [sp_rank], rfl, rfl⟩
  · refine aw_iconst (v := 0) S d_Md_rank_5 (by decide) ?_
    refine aw_goto S 18 d_Md_rank_6 (by decide) ?_
    refine aw_iret S rfl d_Md_rank_18 ?_ (by decide) (by decide)
    exact ⟨by simp_all [sp_rank], rfl, rfl⟩
