/-! signs: digits, letters, what stands in a word; a sign is a number below 256, the class holds it as a char, the reference as a byte (sb_b) -/
def dg (c : Nat) : Bool := decide (48 ≤ c ∧ c ≤ 57)
def lw (c : Nat) : Nat := if 65 ≤ c ∧ c ≤ 90 then c + 32 else c
def wd (c : Nat) : Bool := decide ((48 ≤ c ∧ c ≤ 57) ∨ (97 ≤ lw c ∧ lw c ≤ 122))
def iw (c : Nat) : Nat := if wd c then lw c else 0
theorem lw_lt {c : Nat} (h : c < 256) : lw c < 256 := by unfold lw; split <;> omega
theorem iw_lt : ∀ c, c < 256 → iw c < 128 := by decide +kernel
theorem sg_toInt : ∀ c, c < 256 → (sb_b c).toInt = if c < 128 then (c : Int) else (c : Int) - 256 := by decide +kernel
theorem sg_lt {c k : Nat} (hc : c < 256) (hk : k < 128) : sb_b c < nI k ↔ (c < k ∨ 128 ≤ c) := by
  rw [Int32.lt_iff_toInt_lt, sg_toInt c hc, nI_toInt (by omega)]
  split <;> omega
theorem sg_gt {c k : Nat} (hc : c < 256) (hk : k < 128) : nI k < sb_b c ↔ (k < c ∧ c < 128) := by
  rw [Int32.lt_iff_toInt_lt, sg_toInt c hc, nI_toInt (by omega)]
  split <;> omega
theorem sg_inj {c d : Nat} (hc : c < 256) (hd : d < 256) : sb_b c = sb_b d ↔ c = d := by
  constructor
  · intro h
    have h1 := congrArg Int32.toInt h
    rw [sg_toInt c hc, sg_toInt d hd] at h1
    split at h1 <;> split at h1 <;> omega
  · intro h; rw [h]
theorem sg_small : ∀ c, c < 128 → sb_b c = nI c := by decide +kernel
theorem mx_ok1 {b : Bool} (h : b = true) : some (Value.int (nI 1)) = some (Value.int (mx_b b)) := by rw [h]; rfl
theorem mx_ok0 {b : Bool} (h : b = false) : some (Value.int (nI 0)) = some (Value.int (mx_b b)) := by rw [h]; rfl
theorem dg_t {c : Nat} (h : 48 ≤ c ∧ c ≤ 57) : dg c = true := decide_eq_true h
theorem dg_f {c : Nat} (h : ¬ (48 ≤ c ∧ c ≤ 57)) : dg c = false := decide_eq_false h
theorem dg_i {c : Nat} (h : dg c = true) : 48 ≤ c ∧ c ≤ 57 := of_decide_eq_true h
theorem dg_n {c : Nat} (h : dg c = false) : ¬ (48 ≤ c ∧ c ≤ 57) := of_decide_eq_false h
section CH
variable (l : Launch) (G : mx_G) (base : Nat)
set_option maxRecDepth 20000
theorem c_X5_isDigit (h : mx_H) {c : Nat} (hc : c < 256) : mx_M l G base yX5_isDigit cX5_isDigit 1 (some .boolean) 0 0 0 0 [.int (nI c)] h (fun v h' => v = some (.int (mx_b (dg c))) ∧ h = h') := by
  refine mx_enter (lo := [some (.int (nI c))]) (by decide) (mx_in wd_code_yX5_isDigit rfl) (Nat.le_of_ble_eq_true rfl) rfl ?_
  intro p ev s mt args below meth cd C hr hnm
  have C : mx_C p s mt args meth cd cX5_isDigit 1 RX5 G base := C
  refine mx_iload_n C dX5_isDigit_0 (pc' := 1) rfl rfl ?_
  refine mx_bipush C (v := nI 48) (by decide) dX5_isDigit_1 (pc' := 3) rfl ?_
  refine mx_N_lt C dX5_isDigit_3 (tgt := 16) (by decide) (pc' := 6) rfl (by omega) (by omega) (fun hb3 => ?_) (fun hb3 => ?_)
  · refine mx_iconst C (v := nI 0) (by decide) dX5_isDigit_16 (pc' := 17) rfl ?_
    first | exact mx_zret C hr (mx_b_nz _) dX5_isDigit_17 (by omega) (by omega) (⟨by first | exact mx_ok1 (dg_t (by omega)) | exact mx_ok0 (dg_f (by omega)), rfl⟩) | exact mx_zret C hr rfl dX5_isDigit_17 (by omega) (by omega) (⟨by first | exact mx_ok1 (dg_t (by omega)) | exact mx_ok0 (dg_f (by omega)), rfl⟩)
  · refine mx_iload_n C dX5_isDigit_6 (pc' := 7) rfl rfl ?_
    refine mx_bipush C (v := nI 57) (by decide) dX5_isDigit_7 (pc' := 9) rfl ?_
    refine mx_N_gt C dX5_isDigit_9 (tgt := 16) (by decide) (pc' := 12) rfl (by omega) (by omega) (fun hb9 => ?_) (fun hb9 => ?_)
    · refine mx_iconst C (v := nI 0) (by decide) dX5_isDigit_16 (pc' := 17) rfl ?_
      first | exact mx_zret C hr (mx_b_nz _) dX5_isDigit_17 (by omega) (by omega) (⟨by first | exact mx_ok1 (dg_t (by omega)) | exact mx_ok0 (dg_f (by omega)), rfl⟩) | exact mx_zret C hr rfl dX5_isDigit_17 (by omega) (by omega) (⟨by first | exact mx_ok1 (dg_t (by omega)) | exact mx_ok0 (dg_f (by omega)), rfl⟩)
    · refine mx_iconst C (v := nI 1) (by decide) dX5_isDigit_12 (pc' := 13) rfl ?_
      refine mx_goto C dX5_isDigit_13 (tgt := 17) (by decide) ?_
      first | exact mx_zret C hr (mx_b_nz _) dX5_isDigit_17 (by omega) (by omega) (⟨by first | exact mx_ok1 (dg_t (by omega)) | exact mx_ok0 (dg_f (by omega)), rfl⟩) | exact mx_zret C hr rfl dX5_isDigit_17 (by omega) (by omega) (⟨by first | exact mx_ok1 (dg_t (by omega)) | exact mx_ok0 (dg_f (by omega)), rfl⟩)
theorem c_X5_isCross (h : mx_H) {c : Nat} (hc : c < 256) : mx_M l G base yX5_isCross cX5_isCross 1 (some .boolean) 0 0 0 0 [.int (nI c)] h (fun v h' => v = some (.int (mx_b (decide (c = 88 ∨ c = 120)))) ∧ h = h') := by
  refine mx_enter (lo := [some (.int (nI c))]) (by decide) (mx_in wd_code_yX5_isCross rfl) (Nat.le_of_ble_eq_true rfl) rfl ?_
  intro p ev s mt args below meth cd C hr hnm
  have C : mx_C p s mt args meth cd cX5_isCross 1 RX5 G base := C
  refine mx_iload_n C dX5_isCross_0 (pc' := 1) rfl rfl ?_
  refine mx_bipush C (v := nI 88) (by decide) dX5_isCross_1 (pc' := 3) rfl ?_
  refine mx_N_eq C dX5_isCross_3 (tgt := 12) (by decide) (pc' := 6) rfl (by omega) (by omega) (fun hb3 => ?_) (fun hb3 => ?_)
  · refine mx_iconst C (v := nI 1) (by decide) dX5_isCross_12 (pc' := 13) rfl ?_
    refine mx_goto C dX5_isCross_13 (tgt := 17) (by decide) ?_
    first | exact mx_zret C hr (mx_b_nz _) dX5_isCross_17 (by omega) (by omega) (⟨by first | exact mx_ok1 (decide_eq_true (by omega)) | exact mx_ok0 (decide_eq_false (by omega)), rfl⟩) | exact mx_zret C hr rfl dX5_isCross_17 (by omega) (by omega) (⟨by first | exact mx_ok1 (decide_eq_true (by omega)) | exact mx_ok0 (decide_eq_false (by omega)), rfl⟩)
  · refine mx_iload_n C dX5_isCross_6 (pc' := 7) rfl rfl ?_
    refine mx_bipush C (v := nI 120) (by decide) dX5_isCross_7 (pc' := 9) rfl ?_
    refine mx_N_ne C dX5_isCross_9 (tgt := 16) (by decide) (pc' := 12) rfl (by omega) (by omega) (fun hb9 => ?_) (fun hb9 => ?_)
    · refine mx_iconst C (v := nI 0) (by decide) dX5_isCross_16 (pc' := 17) rfl ?_
      first | exact mx_zret C hr (mx_b_nz _) dX5_isCross_17 (by omega) (by omega) (⟨by first | exact mx_ok1 (decide_eq_true (by omega)) | exact mx_ok0 (decide_eq_false (by omega)), rfl⟩) | exact mx_zret C hr rfl dX5_isCross_17 (by omega) (by omega) (⟨by first | exact mx_ok1 (decide_eq_true (by omega)) | exact mx_ok0 (decide_eq_false (by omega)), rfl⟩)
    · refine mx_iconst C (v := nI 1) (by decide) dX5_isCross_12 (pc' := 13) rfl ?_
      refine mx_goto C dX5_isCross_13 (tgt := 17) (by decide) ?_
      first | exact mx_zret C hr (mx_b_nz _) dX5_isCross_17 (by omega) (by omega) (⟨by first | exact mx_ok1 (decide_eq_true (by omega)) | exact mx_ok0 (decide_eq_false (by omega)), rfl⟩) | exact mx_zret C hr rfl dX5_isCross_17 (by omega) (by omega) (⟨by first | exact mx_ok1 (decide_eq_true (by omega)) | exact mx_ok0 (decide_eq_false (by omega)), rfl⟩)
theorem c_X9_isDigit (h : mx_H) {c : Nat} (hc : c < 256) : mx_M l G base yX9_isDigit cX9_isDigit 1 (some .boolean) 0 0 0 0 [.int (sb_b c)] h (fun v h' => v = some (.int (mx_b (dg c))) ∧ h = h') := by
  refine mx_enter (lo := [some (.int (sb_b c))]) (by decide) (mx_in wd_code_yX9_isDigit rfl) (Nat.le_of_ble_eq_true rfl) rfl ?_
  intro p ev s mt args below meth cd C hr hnm
  have C : mx_C p s mt args meth cd cX9_isDigit 1 RX9 G base := C
  refine mx_iload_n C dX9_isDigit_0 (pc' := 1) rfl rfl ?_
  refine mx_bipush C (v := nI 48) (by decide) dX9_isDigit_1 (pc' := 3) rfl ?_
  refine mx_icmp_lt C dX9_isDigit_3 (tgt := 16) (by decide) (pc' := 6) rfl (fun hb3 => ?_) (fun hb3 => ?_)
  · refine mx_iconst C (v := nI 0) (by decide) dX9_isDigit_16 (pc' := 17) rfl ?_
    first | exact mx_zret C hr (mx_b_nz _) dX9_isDigit_17 (by omega) (by omega) (⟨by simp only [sg_lt hc (show (48 : Nat) < 128 by decide), sg_gt hc (show (57 : Nat) < 128 by decide)] at *; first | exact mx_ok1 (dg_t (by omega)) | exact mx_ok0 (dg_f (by omega)), rfl⟩) | exact mx_zret C hr rfl dX9_isDigit_17 (by omega) (by omega) (⟨by simp only [sg_lt hc (show (48 : Nat) < 128 by decide), sg_gt hc (show (57 : Nat) < 128 by decide)] at *; first | exact mx_ok1 (dg_t (by omega)) | exact mx_ok0 (dg_f (by omega)), rfl⟩)
  · refine mx_iload_n C dX9_isDigit_6 (pc' := 7) rfl rfl ?_
    refine mx_bipush C (v := nI 57) (by decide) dX9_isDigit_7 (pc' := 9) rfl ?_
    refine mx_icmp_gt C dX9_isDigit_9 (tgt := 16) (by decide) (pc' := 12) rfl (fun hb9 => ?_) (fun hb9 => ?_)
    · refine mx_iconst C (v := nI 0) (by decide) dX9_isDigit_16 (pc' := 17) rfl ?_
      first | exact mx_zret C hr (mx_b_nz _) dX9_isDigit_17 (by omega) (by omega) (⟨by simp only [sg_lt hc (show (48 : Nat) < 128 by decide), sg_gt hc (show (57 : Nat) < 128 by decide)] at *; first | exact mx_ok1 (dg_t (by omega)) | exact mx_ok0 (dg_f (by omega)), rfl⟩) | exact mx_zret C hr rfl dX9_isDigit_17 (by omega) (by omega) (⟨by simp only [sg_lt hc (show (48 : Nat) < 128 by decide), sg_gt hc (show (57 : Nat) < 128 by decide)] at *; first | exact mx_ok1 (dg_t (by omega)) | exact mx_ok0 (dg_f (by omega)), rfl⟩)
    · refine mx_iconst C (v := nI 1) (by decide) dX9_isDigit_12 (pc' := 13) rfl ?_
      refine mx_goto C dX9_isDigit_13 (tgt := 17) (by decide) ?_
      first | exact mx_zret C hr (mx_b_nz _) dX9_isDigit_17 (by omega) (by omega) (⟨by simp only [sg_lt hc (show (48 : Nat) < 128 by decide), sg_gt hc (show (57 : Nat) < 128 by decide)] at *; first | exact mx_ok1 (dg_t (by omega)) | exact mx_ok0 (dg_f (by omega)), rfl⟩) | exact mx_zret C hr rfl dX9_isDigit_17 (by omega) (by omega) (⟨by simp only [sg_lt hc (show (48 : Nat) < 128 by decide), sg_gt hc (show (57 : Nat) < 128 by decide)] at *; first | exact mx_ok1 (dg_t (by omega)) | exact mx_ok0 (dg_f (by omega)), rfl⟩)
theorem c_X9_small (h : mx_H) {c : Nat} (hc : c < 256) : mx_M l G base yX9_small cX9_small 1 (some .int) 0 0 0 0 [.int (sb_b c)] h (fun v h' => v = some (.int (sb_b (lw c))) ∧ h = h') := by
  refine mx_enter (lo := [some (.int (sb_b c))]) (by decide) (mx_in wd_code_yX9_small rfl) (Nat.le_of_ble_eq_true rfl) rfl ?_
  intro p ev s mt args below meth cd C hr hnm
  have C : mx_C p s mt args meth cd cX9_small 1 RX9 G base := C
  have q3 : 65 ≤ c ∧ c ≤ 90 → sb_b c + nI 32 = sb_b (lw c) := by
    intro z
    unfold lw
    rw [if_pos z, sg_small c (by omega), sg_small (c + 32) (by omega), nI_add]
  have q4 : ¬ (65 ≤ c ∧ c ≤ 90) → sb_b c = sb_b (lw c) := by
    intro z
    unfold lw
    rw [if_neg z]
  refine mx_iload_n C dX9_small_0 (pc' := 1) rfl rfl ?_
  refine mx_bipush C (v := nI 65) (by decide) dX9_small_1 (pc' := 3) rfl ?_
  refine mx_icmp_lt C dX9_small_3 (tgt := 19) (by decide) (pc' := 6) rfl (fun hb3 => ?_) (fun hb3 => ?_)
  · refine mx_iload_n C dX9_small_19 (pc' := 20) rfl rfl ?_
    exact mx_iret C hr dX9_small_20 (by omega) (by omega) (⟨by simp only [sg_lt hc (show (65 : Nat) < 128 by decide), sg_gt hc (show (90 : Nat) < 128 by decide)] at *; first | exact congrArg (fun z => some (Value.int z)) (q3 (by omega)) | exact congrArg (fun z => some (Value.int z)) (q4 (by omega)), rfl⟩)
  · refine mx_iload_n C dX9_small_6 (pc' := 7) rfl rfl ?_
    refine mx_bipush C (v := nI 90) (by decide) dX9_small_7 (pc' := 9) rfl ?_
    refine mx_icmp_gt C dX9_small_9 (tgt := 19) (by decide) (pc' := 12) rfl (fun hb9 => ?_) (fun hb9 => ?_)
    · refine mx_iload_n C dX9_small_19 (pc' := 20) rfl rfl ?_
      exact mx_iret C hr dX9_small_20 (by omega) (by omega) (⟨by simp only [sg_lt hc (show (65 : Nat) < 128 by decide), sg_gt hc (show (90 : Nat) < 128 by decide)] at *; first | exact congrArg (fun z => some (Value.int z)) (q3 (by omega)) | exact congrArg (fun z => some (Value.int z)) (q4 (by omega)), rfl⟩)
    · refine mx_iload_n C dX9_small_12 (pc' := 13) rfl rfl ?_
      refine mx_bipush C (v := nI 32) (by decide) dX9_small_13 (pc' := 15) rfl ?_
      refine mx_iadd C dX9_small_15 (pc' := 16) rfl ?_
      refine mx_goto C dX9_small_16 (tgt := 20) (by decide) ?_
      exact mx_iret C hr dX9_small_20 (by omega) (by omega) (⟨by simp only [sg_lt hc (show (65 : Nat) < 128 by decide), sg_gt hc (show (90 : Nat) < 128 by decide)] at *; first | exact congrArg (fun z => some (Value.int z)) (q3 (by omega)) | exact congrArg (fun z => some (Value.int z)) (q4 (by omega)), rfl⟩)
end CH
