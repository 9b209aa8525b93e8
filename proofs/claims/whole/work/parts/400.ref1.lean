/-! the reference: its cells, its state -/
def mm (P : Nat → Nat) (σ : mxS) (th kc : Int32) (pu pd : Int64) : List Value := [.int th, .int (nI (st_n σ)), .ref (P 1), .ref (P 2), .ref (P 3), .ref (P 4), .int (nI (st_m σ)), .int (nI (st_k σ)), .ref (P 5), .ref (P 6), .ref (P 7), .ref (P 8), .ref (P 9), .ref (P 10), .ref (P 11), .int (nI (st_f σ)), .ref (P 12), .int kc, .ref (P 13), .ref (P 14), .ref (P 15), .ref (P 16), .ref (P 17), .long pu, .long pd]
def MR (G : mx_G) (P : Nat → Nat) (h : mx_H) (σ : mxS) : Prop := ∃ R L I W : Nat → Int32, h (P 1) = some (.inl (G.2 0, 41, .inl R)) ∧ h (P 2) = some (.inl (G.2 4, 41, .inl L)) ∧ h (P 3) = some (.inl (G.2 0, 41, .inl I)) ∧ h (P 4) = some (.inl (G.2 0, 41, .inl W)) ∧ ∀ r, 1 ≤ r → r < 41 → (r ≤ st_n σ → R r = st_rk σ r) ∧ L r = mx_b (st_lk σ r) ∧ I r = nI (st_in σ r) ∧ W r = nI (st_wh σ r)
def MF (G : mx_G) (P : Nat → Nat) (h : mx_H) (σ : mxS) : Prop := ∃ O T S Z : Nat → Int32, h (P 5) = some (.inl (G.2 0, 201, .inl O)) ∧ h (P 6) = some (.inl (G.2 0, 201, .inl T)) ∧ h (P 7) = some (.inl (G.2 3, 12060, .inl S)) ∧ h (P 8) = some (.inl (G.2 0, 201, .inl Z)) ∧ (∀ f, 1 ≤ f → f ≤ st_k σ → O f = nI (st_ow σ f) ∧ T f = nI (st_tg σ f)) ∧ (∀ f, 1 ≤ f → f < 201 → Z f = nI (st_sz σ f)) ∧ ∀ f, 1 ≤ f → f ≤ st_k σ → ∀ j, j < st_sz σ f → S (60 * f + j) = sb_b (st_sg σ f j)
def MW (G : mx_G) (P : Nat → Nat) (h : mx_H) (σ : mxS) : Prop := ∃ U D F : Nat → Int32, h (P 9) = some (.inl (G.2 0, 5, .inl U)) ∧ h (P 10) = some (.inl (G.2 0, 5, .inl D)) ∧ h (P 11) = some (.inl (G.2 0, 40, .inl F)) ∧ (∀ p, p < 5 → U p = nI (st_up σ p) ∧ D p = nI (st_dn σ p)) ∧ ∀ i, i < st_f σ → F i = nI (st_fd σ i)
def MS (G : mx_G) (P : Nat → Nat) (h : mx_H) : Prop := (∀ i, 12 ≤ i → i ≤ 13 → ∃ A : Nat → Int64, h (P i) = some (.inl (G.2 1, 200, .inr (.inl A)))) ∧ ∀ i, 14 ≤ i → i ≤ 17 → ∃ A : Nat → Int32, h (P i) = some (.inl (G.2 0, 60, .inl A))
def MI (G : mx_G) (P : Nat → Nat) (h : mx_H) (σ : mxS) (th kc : Int32) (pu pd : Int64) : Prop := si σ ∧ inj P 18 ∧ h (P 0) = some (.inr (9, mm P σ th kc pu pd)) ∧ MR G P h σ ∧ MF G P h σ ∧ MW G P h σ ∧ MS G P h
def OUM (P : Nat → Nat) (h h' : mx_H) : Prop := ∀ a, (∀ i, i < 18 → a ≠ P i) → h' a = h a
theorem OUM.rf {P : Nat → Nat} {h : mx_H} : OUM P h h := fun _ _ => rfl
theorem OUM.tr {P : Nat → Nat} {h h1 h2 : mx_H} (a : OUM P h h1) (b : OUM P h1 h2) : OUM P h h2 := fun x x1 => (b x x1).trans (a x x1)
theorem OUM.up {P : Nat → Nat} {h : mx_H} {i : Nat} (hi : i < 18) {e : Option va_E} : OUM P h (va_up h (P i) e) := fun x x1 => va_up_ne _ _ (x1 i hi)
theorem MR.kept {G : mx_G} {P : Nat → Nat} {h h' : mx_H} {σ : mxS} (m : MR G P h σ) (e : ∀ i, 1 ≤ i → i ≤ 4 → h' (P i) = h (P i)) : MR G P h' σ := by
  obtain ⟨R, L, I, W, a, b, c, d, f⟩ := m
  exact ⟨R, L, I, W, (e 1 (by decide) (by decide)).trans a, (e 2 (by decide) (by decide)).trans b, (e 3 (by decide) (by decide)).trans c, (e 4 (by decide) (by decide)).trans d, f⟩
theorem MF.kept {G : mx_G} {P : Nat → Nat} {h h' : mx_H} {σ : mxS} (m : MF G P h σ) (e : ∀ i, 5 ≤ i → i ≤ 8 → h' (P i) = h (P i)) : MF G P h' σ := by
  obtain ⟨R, L, I, W, a, b, c, d, f⟩ := m
  exact ⟨R, L, I, W, (e 5 (by decide) (by decide)).trans a, (e 6 (by decide) (by decide)).trans b, (e 7 (by decide) (by decide)).trans c, (e 8 (by decide) (by decide)).trans d, f⟩
theorem MW.kept {G : mx_G} {P : Nat → Nat} {h h' : mx_H} {σ : mxS} (m : MW G P h σ) (e : ∀ i, 9 ≤ i → i ≤ 11 → h' (P i) = h (P i)) : MW G P h' σ := by
  obtain ⟨R, L, I, a, b, c, f⟩ := m
  exact ⟨R, L, I, (e 9 (by decide) (by decide)).trans a, (e 10 (by decide) (by decide)).trans b, (e 11 (by decide) (by decide)).trans c, f⟩
theorem MS.kept {G : mx_G} {P : Nat → Nat} {h h' : mx_H} (m : MS G P h) (e : ∀ i, 12 ≤ i → i ≤ 17 → h' (P i) = h (P i)) : MS G P h' := ⟨fun i i1 i2 => by obtain ⟨A, hA⟩ := m.1 i i1 i2; exact ⟨A, (e i (by omega) (by omega)).trans hA⟩, fun i i1 i2 => by obtain ⟨A, hA⟩ := m.2 i i1 i2; exact ⟨A, (e i (by omega) (by omega)).trans hA⟩⟩
/-- a scratch row has changed -/
theorem MI.row {G : mx_G} {P : Nat → Nat} {h : mx_H} {σ : mxS} {th kc : Int32} {pu pd : Int64} (m : MI G P h σ th kc pu pd) {i : Nat} (h1 : 14 ≤ i) (h2 : i ≤ 17) {A : Nat → Int32} : MI G P (va_up h (P i) (some (.inl (G.2 0, 60, .inl A)))) σ th kc pu pd := by
  obtain ⟨m1, m2, m3, m4, m5, m6, m7⟩ := m
  have e : ∀ j, j < 18 → j ≠ i → ∀ z, va_up h (P i) z (P j) = h (P j) := fun j hj hn z => va_up_ne _ _ (m2.ne hj (by omega) hn)
  refine ⟨m1, m2, (e 0 (by omega) (by omega) _).trans m3, m4.kept (fun j _ _ => e j (by omega) (by omega) _), m5.kept (fun j _ _ => e j (by omega) (by omega) _), m6.kept (fun j _ _ => e j (by omega) (by omega) _), fun j j1 j2 => ?_, fun j j1 j2 => ?_⟩
  · obtain ⟨B, hB⟩ := m7.1 j j1 j2
    exact ⟨B, (e j (by omega) (by omega) _).trans hB⟩
  · by_cases e2 : j = i
    · subst e2; exact ⟨A, va_up_self _ _ _⟩
    · obtain ⟨B, hB⟩ := m7.2 j j1 j2
      exact ⟨B, (e j (by omega) e2 _).trans hB⟩
theorem MI.rowl {G : mx_G} {P : Nat → Nat} {h : mx_H} {σ : mxS} {th kc : Int32} {pu pd : Int64} (m : MI G P h σ th kc pu pd) {i : Nat} (h1 : 12 ≤ i) (h2 : i ≤ 13) {A : Nat → Int64} : MI G P (va_up h (P i) (some (.inl (G.2 1, 200, .inr (.inl A))))) σ th kc pu pd := by
  obtain ⟨m1, m2, m3, m4, m5, m6, m7⟩ := m
  have e : ∀ j, j < 18 → j ≠ i → ∀ z, va_up h (P i) z (P j) = h (P j) := fun j hj hn z => va_up_ne _ _ (m2.ne hj (by omega) hn)
  refine ⟨m1, m2, (e 0 (by omega) (by omega) _).trans m3, m4.kept (fun j _ _ => e j (by omega) (by omega) _), m5.kept (fun j _ _ => e j (by omega) (by omega) _), m6.kept (fun j _ _ => e j (by omega) (by omega) _), fun j j1 j2 => ?_, fun j j1 j2 => ?_⟩
  · by_cases e2 : j = i
    · subst e2; exact ⟨A, va_up_self _ _ _⟩
    · obtain ⟨B, hB⟩ := m7.1 j j1 j2
      exact ⟨B, (e j (by omega) e2 _).trans hB⟩
  · obtain ⟨B, hB⟩ := m7.2 j j1 j2
    exact ⟨B, (e j (by omega) (by omega) _).trans hB⟩
theorem ixR_nz {n : Nat} {i : Int32} : ixR n i ≠ 0 ↔ (0 < i.toInt ∧ i.toInt ≤ n) := by
  unfold ixR
  split
  · rename_i h; omega
  · rename_i h; omega
theorem ixR_eq {n : Nat} {i : Int32} (hn : n ≤ 200) (h : ixR n i ≠ 0) : i = nI (ixR n i) := by
  have h1 := ixR_nz.mp h
  have h2 : ixR n i = i.toInt.toNat := if_pos (by omega)
  rw [h2]
  apply Int32.toInt_inj.mp
  rw [nI_toInt (by omega)]
  omega
theorem lwX : ∀ c, c < 256 → (lw c = 120 ↔ isX c = true) := by decide +kernel
theorem dgX : ∀ c, c < 256 → dg c = true → isX c = false := by decide +kernel
section R1
variable (l : Launch) (G : mx_G) (base : Nat)
set_option maxRecDepth 20000
theorem c_X9_thrown (h : mx_H) {P : Nat → Nat} {σ : mxS} {th kc : Int32} {pu pd : Int64} (m : MI G P h σ th kc pu pd) : mx_M l G base yX9_thrown cX9_thrown 1 (some .int) 0 0 0 0 [.ref (P 0)] h (fun v h' => v = some (.int th) ∧ h = h') := by
  have m3 := m.2.2.1
  refine mx_enter (lo := [some (.ref (P 0))]) (by decide) (mx_in wd_code_yX9_thrown rfl) (Nat.le_of_ble_eq_true rfl) rfl ?_
  intro p ev s mt args below meth cd C hr hnm
  have C : mx_C p s mt args meth cd cX9_thrown 1 RX9 G base := C
  first | refine mx_aload_n C dX9_thrown_0 (pc' := 1) rfl rfl ?_ | refine mx_aload_nq C dX9_thrown_0 (pc' := 1) rfl rfl ?_
  refine gX9_64 C dX9_thrown_1 (pc' := 4) rfl (m3) rfl ?_
  exact mx_iret C hr dX9_thrown_4 (by omega) (by omega) (⟨rfl, rfl⟩)
theorem c_X9_isRecord (h : mx_H) {P : Nat → Nat} {σ : mxS} {th kc : Int32} {pu pd : Int64} (m : MI G P h σ th kc pu pd) {i : Int32} : mx_M l G base yX9_isRecord cX9_isRecord 2 (some .boolean) 0 0 0 0 [.ref (P 0), .int i] h (fun v h' => v = some (.int (mx_b (decide (ixR (st_n σ) i ≠ 0)))) ∧ h = h') := by
  have m3 := m.2.2.1
  have hn := m.1.1
  refine mx_enter (lo := [some (.ref (P 0)), some (.int i)]) (by decide) (mx_in wd_code_yX9_isRecord rfl) (Nat.le_of_ble_eq_true rfl) rfl ?_
  intro p ev s mt args below meth cd C hr hnm
  have C : mx_C p s mt args meth cd cX9_isRecord 2 RX9 G base := C
  refine mx_iload_n C dX9_isRecord_0 (pc' := 1) rfl rfl ?_
  refine mx_if_le C dX9_isRecord_1 (tgt := 16) (by decide) (pc' := 4) rfl (fun hb1 => ?_) (fun hb1 => ?_)
  · refine mx_iconst C (v := nI 0) (by decide) dX9_isRecord_16 (pc' := 17) rfl ?_
    first | exact mx_zret C hr (mx_b_nz _) dX9_isRecord_17 (by omega) (by omega) (⟨by simp only [Int32.lt_iff_toInt_lt, Int32.le_iff_toInt_le, nI_toInt (show st_n σ < 2 ^ 31 by omega), Int32.toInt_zero] at *; first | exact mx_ok1 (decide_eq_true (ixR_nz.mpr (by omega))) | exact mx_ok0 (decide_eq_false (fun z => by have := ixR_nz.mp z; omega)), rfl⟩) | exact mx_zret C hr rfl dX9_isRecord_17 (by omega) (by omega) (⟨by simp only [Int32.lt_iff_toInt_lt, Int32.le_iff_toInt_le, nI_toInt (show st_n σ < 2 ^ 31 by omega), Int32.toInt_zero] at *; first | exact mx_ok1 (decide_eq_true (ixR_nz.mpr (by omega))) | exact mx_ok0 (decide_eq_false (fun z => by have := ixR_nz.mp z; omega)), rfl⟩)
  · refine mx_iload_n C dX9_isRecord_4 (pc' := 5) rfl rfl ?_
    first | refine mx_aload_n C dX9_isRecord_5 (pc' := 6) rfl rfl ?_ | refine mx_aload_nq C dX9_isRecord_5 (pc' := 6) rfl rfl ?_
    refine gX9_68 C dX9_isRecord_6 (pc' := 9) rfl (m3) rfl ?_
    refine mx_icmp_gt C dX9_isRecord_9 (tgt := 16) (by decide) (pc' := 12) rfl (fun hb9 => ?_) (fun hb9 => ?_)
    · refine mx_iconst C (v := nI 0) (by decide) dX9_isRecord_16 (pc' := 17) rfl ?_
      first | exact mx_zret C hr (mx_b_nz _) dX9_isRecord_17 (by omega) (by omega) (⟨by simp only [Int32.lt_iff_toInt_lt, Int32.le_iff_toInt_le, nI_toInt (show st_n σ < 2 ^ 31 by omega), Int32.toInt_zero] at *; first | exact mx_ok1 (decide_eq_true (ixR_nz.mpr (by omega))) | exact mx_ok0 (decide_eq_false (fun z => by have := ixR_nz.mp z; omega)), rfl⟩) | exact mx_zret C hr rfl dX9_isRecord_17 (by omega) (by omega) (⟨by simp only [Int32.lt_iff_toInt_lt, Int32.le_iff_toInt_le, nI_toInt (show st_n σ < 2 ^ 31 by omega), Int32.toInt_zero] at *; first | exact mx_ok1 (decide_eq_true (ixR_nz.mpr (by omega))) | exact mx_ok0 (decide_eq_false (fun z => by have := ixR_nz.mp z; omega)), rfl⟩)
    · refine mx_iconst C (v := nI 1) (by decide) dX9_isRecord_12 (pc' := 13) rfl ?_
      refine mx_goto C dX9_isRecord_13 (tgt := 17) (by decide) ?_
      first | exact mx_zret C hr (mx_b_nz _) dX9_isRecord_17 (by omega) (by omega) (⟨by simp only [Int32.lt_iff_toInt_lt, Int32.le_iff_toInt_le, nI_toInt (show st_n σ < 2 ^ 31 by omega), Int32.toInt_zero] at *; first | exact mx_ok1 (decide_eq_true (ixR_nz.mpr (by omega))) | exact mx_ok0 (decide_eq_false (fun z => by have := ixR_nz.mp z; omega)), rfl⟩) | exact mx_zret C hr rfl dX9_isRecord_17 (by omega) (by omega) (⟨by simp only [Int32.lt_iff_toInt_lt, Int32.le_iff_toInt_le, nI_toInt (show st_n σ < 2 ^ 31 by omega), Int32.toInt_zero] at *; first | exact mx_ok1 (decide_eq_true (ixR_nz.mpr (by omega))) | exact mx_ok0 (decide_eq_false (fun z => by have := ixR_nz.mp z; omega)), rfl⟩)
theorem c_X9_isTop (h : mx_H) {P : Nat → Nat} {σ : mxS} {th kc : Int32} {pu pd : Int64} (m : MI G P h σ th kc pu pd) {i : Int32} : mx_M l G base yX9_isTop cX9_isTop 2 (some .boolean) 1 21 0 0 [.ref (P 0), .int i] h (fun v h' => v = some (.int (mx_b (decide (ixS σ i ≠ 0)))) ∧ h = h') := by
  have m3 := m.2.2.1
  have hn := m.1.1
  obtain ⟨R, L, I, W, -, -, hI, -, hr4⟩ := m.2.2.2.1
  refine mx_enter (lo := [some (.ref (P 0)), some (.int i)]) (by decide) (mx_in wd_code_yX9_isTop rfl) (Nat.le_of_ble_eq_true rfl) rfl ?_
  intro p ev s mt args below meth cd C hr hnm
  have C : mx_C p s mt args meth cd cX9_isTop 2 RX9 G base := C
  first | refine mx_aload_n C dX9_isTop_0 (pc' := 1) rfl rfl ?_ | refine mx_aload_nq C dX9_isTop_0 (pc' := 1) rfl rfl ?_
  refine mx_iload_n C dX9_isTop_1 (pc' := 2) rfl rfl ?_
  refine cX9_71 C dX9_isTop_2 (pc' := 5) rfl (m3) (c_X9_isRecord l G base h m) ⟨by decide, by decide, by decide, by decide, Nat.le_of_ble_eq_true rfl⟩ ?_
  rintro _ _ ⟨rfl, rfl⟩
  refine mx_B_eq C dX9_isTop_5 (tgt := 21) (by decide) (pc' := 8) rfl (fun h5 => ?_) (fun h5 => ?_)
  · skip
    refine mx_iconst C (v := nI 0) (by decide) dX9_isTop_21 (pc' := 22) rfl ?_
    first | exact mx_zret C hr (mx_b_nz _) dX9_isTop_22 (by omega) (by omega) (⟨mx_ok0 (decide_eq_false (fun z => z (if_neg (fun w => of_decide_eq_false h5 w.1)))), rfl⟩) | exact mx_zret C hr rfl dX9_isTop_22 (by omega) (by omega) (⟨mx_ok0 (decide_eq_false (fun z => z (if_neg (fun w => of_decide_eq_false h5 w.1)))), rfl⟩)
  have h5 := of_decide_eq_true h5
  have hle := @ixR_le (st_n σ) i
  obtain ⟨-, -, e1, -⟩ := hr4 (ixR (st_n σ) i) (by omega) (by omega)
  have hin := (m.1.2.2.2.2.1.1 (ixR (st_n σ) i) (by omega) hle).1
  first | refine mx_aload_n C dX9_isTop_8 (pc' := 9) rfl rfl ?_ | refine mx_aload_nq C dX9_isTop_8 (pc' := 9) rfl rfl ?_
  refine gX9_17 C dX9_isTop_9 (pc' := 12) rfl (m3) rfl ?_
  refine mx_iload_n C dX9_isTop_12 (pc' := 13) rfl rfl ?_
  refine mx_iald C dX9_isTop_13 (pc' := 14) rfl (hI) (ixR_eq (by omega) h5) (show ixR (st_n σ) i < 41 by omega) (by decide) ?_
  rw [e1]
  refine mx_N0_ne C dX9_isTop_14 (tgt := 21) (by decide) (pc' := 17) rfl (by omega) (fun h14 => ?_) (fun h14 => ?_)
  · skip
    refine mx_iconst C (v := nI 0) (by decide) dX9_isTop_21 (pc' := 22) rfl ?_
    first | exact mx_zret C hr (mx_b_nz _) dX9_isTop_22 (by omega) (by omega) (⟨mx_ok0 (decide_eq_false (fun z => z (if_neg (fun w => h14 w.2)))), rfl⟩) | exact mx_zret C hr rfl dX9_isTop_22 (by omega) (by omega) (⟨mx_ok0 (decide_eq_false (fun z => z (if_neg (fun w => h14 w.2)))), rfl⟩)
  · skip
    refine mx_iconst C (v := nI 1) (by decide) dX9_isTop_17 (pc' := 18) rfl ?_
    refine mx_goto C dX9_isTop_18 (tgt := 22) (by decide) ?_
    first | exact mx_zret C hr (mx_b_nz _) dX9_isTop_22 (by omega) (by omega) (⟨mx_ok1 (decide_eq_true (by unfold ixS; rw [if_pos ⟨h5, h14⟩]; exact h5)), rfl⟩) | exact mx_zret C hr rfl dX9_isTop_22 (by omega) (by omega) (⟨mx_ok1 (decide_eq_true (by unfold ixS; rw [if_pos ⟨h5, h14⟩]; exact h5)), rfl⟩)
theorem c_X9_top (h : mx_H) {P : Nat → Nat} {σ : mxS} {th kc : Int32} {pu pd : Int64} (m : MI G P h σ th kc pu pd) {r : Nat} (h1 : 1 ≤ r) (h2 : r ≤ st_n σ) : mx_M l G base yX9_top cX9_top 3 (some .int) 0 0 0 0 [.ref (P 0), .int (nI r)] h (fun v h' => v = some (.int (nI (tp σ r))) ∧ h = h') := by
  have m3 := m.2.2.1
  have hn := m.1.1
  have hs := m.1.2.2.2.2.1
  obtain ⟨R, L, I, W, -, -, hI, -, hr4⟩ := m.2.2.2.1
  refine mx_enter (lo := [some (.ref (P 0)), some (.int (nI r)), none]) (by decide) (mx_in wd_code_yX9_top rfl) (Nat.le_of_ble_eq_true rfl) rfl ?_
  intro p ev s mt args below meth cd C hr hnm
  have C : mx_C p s mt args meth cd cX9_top 3 RX9 G base := C
  have loop : ∀ (d q : Nat), tpd σ q = d → 1 ≤ q → q ≤ st_n σ → tp σ q = tp σ r → mx_V p l ev { frames := 0, cells := 0, slots := 0, locals := 0 } s mt args below meth cd G base 3 (MQ below (mx_Qc G base (fun v h' => v = some (.int (nI (tp σ r))) ∧ h = h')) args s 0 0 (mx_A base)) h 0 0 2 [some (.ref (P 0)), some (.int (nI r)), some (.int (nI q))] [] := by
    intro d
    induction d using Nat.strongRecOn with
    | ind d ih =>
    intro q hd q1 q2 hq
    obtain ⟨-, -, e1, -⟩ := hr4 q q1 (by omega)
    have hin := (hs.1 q q1 q2).1
    first | refine mx_aload_n C dX9_top_2 (pc' := 3) rfl rfl ?_ | refine mx_aload_nq C dX9_top_2 (pc' := 3) rfl rfl ?_
    refine gX9_17 C dX9_top_3 (pc' := 6) rfl (m3) rfl ?_
    refine mx_iload_n C dX9_top_6 (pc' := 7) rfl rfl ?_
    refine mx_iald C dX9_top_7 (pc' := 8) rfl (hI) (rfl) (show q < 41 by omega) (by decide) ?_
    rw [e1]
    refine mx_N0_eq C dX9_top_8 (tgt := 21) (by decide) (pc' := 11) rfl (by omega) (fun h8 => ?_) (fun h8 => ?_)
    · skip
      refine mx_iload_n C dX9_top_21 (pc' := 22) rfl rfl ?_
      exact mx_iret C hr dX9_top_22 (by omega) (by omega) (⟨by rw [← hq, tp_0 h8], rfl⟩)
    · skip
      first | refine mx_aload_n C dX9_top_11 (pc' := 12) rfl rfl ?_ | refine mx_aload_nq C dX9_top_11 (pc' := 12) rfl rfl ?_
      refine gX9_17 C dX9_top_12 (pc' := 15) rfl (m3) rfl ?_
      refine mx_iload_n C dX9_top_15 (pc' := 16) rfl rfl ?_
      refine mx_iald C dX9_top_16 (pc' := 17) rfl (hI) (rfl) (show q < 41 by omega) (by decide) ?_
      rw [e1]
      refine mx_istore_n C dX9_top_17 (pc' := 18) rfl (by first | exact mx_c1_0 | exact mx_c1_int rfl | exact mx_c1_ref rfl | exact mx_c1_none rfl | exact mx_c1_rf rfl | exact mx_c1_null rfl) (by decide) (lo' := [_, _, _]) rfl ?_
      refine mx_goto C dX9_top_18 (tgt := 2) (by decide) ?_
      exact ih _ (by have := tpd_lt hs q1 q2 h8; omega) _ rfl (by omega) hin (by rw [← tp_s hs q1 q2 h8]; exact hq)
  refine mx_iload_n C dX9_top_0 (pc' := 1) rfl rfl ?_
  refine mx_istore_n C dX9_top_1 (pc' := 2) rfl (by first | exact mx_c1_0 | exact mx_c1_int rfl | exact mx_c1_ref rfl | exact mx_c1_none rfl | exact mx_c1_rf rfl | exact mx_c1_null rfl) (by decide) (lo' := [_, _, _]) rfl ?_
  exact loop _ r rfl h1 h2 rfl
theorem c_X9_at (h : mx_H) {P : Nat → Nat} {σ : mxS} {th kc : Int32} {pu pd : Int64} (m : MI G P h σ th kc pu pd) {f j : Nat} (h1 : 1 ≤ f) (h2 : f ≤ st_k σ) (hj : j < st_sz σ f) : mx_M l G base yX9_at cX9_at 3 (some .int) 0 0 0 0 [.ref (P 0), .int (nI f), .int (nI j)] h (fun v h' => v = some (.int (sb_b (st_sg σ f j))) ∧ h = h') := by
  have m3 := m.2.2.1
  have hk := m.1.2.1
  have h60 := (m.1.2.2.2.2.2.1.1 f h1 h2).2.2.2.1
  obtain ⟨O, T, S, Z, -, -, hS, -, -, -, hs⟩ := m.2.2.2.2.1
  refine mx_enter (lo := [some (.ref (P 0)), some (.int (nI f)), some (.int (nI j))]) (by decide) (mx_in wd_code_yX9_at rfl) (Nat.le_of_ble_eq_true rfl) rfl ?_
  intro p ev s mt args below meth cd C hr hnm
  have C : mx_C p s mt args meth cd cX9_at 3 RX9 G base := C
  first | refine mx_aload_n C dX9_at_0 (pc' := 1) rfl rfl ?_ | refine mx_aload_nq C dX9_at_0 (pc' := 1) rfl rfl ?_
  refine gX9_29 C dX9_at_1 (pc' := 4) rfl (m3) rfl ?_
  refine mx_bipush C (v := nI 60) (by decide) dX9_at_4 (pc' := 6) rfl ?_
  refine mx_iload_n C dX9_at_6 (pc' := 7) rfl rfl ?_
  refine mx_imul C dX9_at_7 (pc' := 8) rfl ?_
  rw [pk_mul]
  refine mx_iload_n C dX9_at_8 (pc' := 9) rfl rfl ?_
  refine mx_iadd C dX9_at_9 (pc' := 10) rfl ?_
  rw [nI_add]
  refine mx_bald C dX9_at_10 (pc' := 11) rfl (hS) (rfl) (show 60 * f + j < 12060 by omega) (by decide) ?_
  rw [hs f h1 h2 j hj]
  exact mx_iret C hr dX9_at_11 (by omega) (by omega) (⟨rfl, rfl⟩)
theorem c_X9_isOf (h : mx_H) {P : Nat → Nat} {σ : mxS} {th kc : Int32} {pu pd : Int64} (m : MI G P h σ th kc pu pd) {f r : Nat} (h1 : 1 ≤ f) (h2 : f ≤ st_k σ) (hr2 : r ≤ st_n σ) : mx_M l G base yX9_isOf cX9_isOf 3 (some .boolean) 1 22 0 0 [.ref (P 0), .int (nI f), .int (nI r)] h (fun v h' => v = some (.int (mx_b (decide (tp σ (st_ow σ f) = r)))) ∧ h = h') := by
  have m3 := m.2.2.1
  have hk := m.1.2.1
  have hn := m.1.1
  obtain ⟨s1, s2, s3, -⟩ := m.1.2.2.2.2.2.1.1 f h1 h2
  obtain ⟨t1, t2, t3⟩ := tp_in m.1.2.2.2.2.1 _ _ rfl s2 s3
  obtain ⟨O, T, S, Z, hO, -, -, -, ho, -⟩ := m.2.2.2.2.1
  refine mx_enter (lo := [some (.ref (P 0)), some (.int (nI f)), some (.int (nI r))]) (by decide) (mx_in wd_code_yX9_isOf rfl) (Nat.le_of_ble_eq_true rfl) rfl ?_
  intro p ev s mt args below meth cd C hr hnm
  have C : mx_C p s mt args meth cd cX9_isOf 3 RX9 G base := C
  first | refine mx_aload_n C dX9_isOf_0 (pc' := 1) rfl rfl ?_ | refine mx_aload_nq C dX9_isOf_0 (pc' := 1) rfl rfl ?_
  first | refine mx_aload_n C dX9_isOf_1 (pc' := 2) rfl rfl ?_ | refine mx_aload_nq C dX9_isOf_1 (pc' := 2) rfl rfl ?_
  refine gX9_23 C dX9_isOf_2 (pc' := 5) rfl (m3) rfl ?_
  refine mx_iload_n C dX9_isOf_5 (pc' := 6) rfl rfl ?_
  refine mx_iald C dX9_isOf_6 (pc' := 7) rfl (hO) (rfl) (show f < 201 by omega) (by decide) ?_
  rw [(ho f h1 h2).1]
  refine cX9_101 C dX9_isOf_7 (pc' := 10) rfl (m3) (c_X9_top l G base h m s2 s3) ⟨by decide, by decide, by decide, by decide, Nat.le_of_ble_eq_true rfl⟩ ?_
  rintro _ _ ⟨rfl, rfl⟩
  refine mx_iload_n C dX9_isOf_10 (pc' := 11) rfl rfl ?_
  refine mx_N_ne C dX9_isOf_11 (tgt := 18) (by decide) (pc' := 14) rfl (by omega) (by omega) (fun h11 => ?_) (fun h11 => ?_)
  · skip
    refine mx_iconst C (v := nI 0) (by decide) dX9_isOf_18 (pc' := 19) rfl ?_
    first | exact mx_zret C hr (mx_b_nz _) dX9_isOf_19 (by omega) (by omega) (⟨mx_ok0 (decide_eq_false h11), rfl⟩) | exact mx_zret C hr rfl dX9_isOf_19 (by omega) (by omega) (⟨mx_ok0 (decide_eq_false h11), rfl⟩)
  · skip
    refine mx_iconst C (v := nI 1) (by decide) dX9_isOf_14 (pc' := 15) rfl ?_
    refine mx_goto C dX9_isOf_15 (tgt := 19) (by decide) ?_
    first | exact mx_zret C hr (mx_b_nz _) dX9_isOf_19 (by omega) (by omega) (⟨mx_ok1 (decide_eq_true h11), rfl⟩) | exact mx_zret C hr rfl dX9_isOf_19 (by omega) (by omega) (⟨mx_ok1 (decide_eq_true h11), rfl⟩)
theorem c_X9_first (h : mx_H) {P : Nat → Nat} {σ : mxS} {th kc : Int32} {pu pd : Int64} (m : MI G P h σ th kc pu pd) {r p0 : Nat} (hr2 : r ≤ st_n σ) (hp : p0 ≤ 9) : mx_M l G base yX9_first cX9_first 4 (some .int) 2 44 0 0 [.ref (P 0), .int (nI r), .int (nI p0)] h (fun v h' => v = some (.int (nI (fiT σ r p0))) ∧ h = h') := by
  have m3 := m.2.2.1
  have hk := m.1.2.1
  obtain ⟨O, T, S, Z, -, hT, -, -, ho, -⟩ := m.2.2.2.2.1
  refine mx_enter (lo := [some (.ref (P 0)), some (.int (nI r)), some (.int (nI p0)), none]) (by decide) (mx_in wd_code_yX9_first rfl) (Nat.le_of_ble_eq_true rfl) rfl ?_
  intro p ev s mt args below meth cd C hr hnm
  have C : mx_C p s mt args meth cd cX9_first 4 RX9 G base := C
  have loop : ∀ (d j : Nat), st_k σ - j = d → j ≤ st_k σ → fiB (isT σ r p0) j = none → mx_V p l ev { frames := 2, cells := 0, slots := 0, locals := 44 } s mt args below meth cd G base 4 (MQ below (mx_Qc G base (fun v h' => v = some (.int (nI (fiT σ r p0))) ∧ h = h')) args s 0 0 (mx_A base)) h 0 0 2 [some (.ref (P 0)), some (.int (nI r)), some (.int (nI p0)), some (.int (nI (j + 1)))] [] := by
    intro d
    induction d using Nat.strongRecOn with
    | ind d ih =>
    intro j hd hj hno
    refine mx_iload_n C dX9_first_2 (pc' := 3) rfl rfl ?_
    first | refine mx_aload_n C dX9_first_3 (pc' := 4) rfl rfl ?_ | refine mx_aload_nq C dX9_first_3 (pc' := 4) rfl rfl ?_
    refine gX9_78 C dX9_first_4 (pc' := 7) rfl (m3) rfl ?_
    refine mx_N_gt C dX9_first_7 (tgt := 37) (by decide) (pc' := 10) rfl (by omega) (by omega) (fun h7 => ?_) (fun h7 => ?_)
    · have e2 : j = st_k σ := by omega
      rw [e2] at hno
      refine mx_iconst C (v := nI 0) (by decide) dX9_first_37 (pc' := 38) rfl ?_
      exact mx_iret C hr dX9_first_38 (by omega) (by omega) (⟨by unfold fiT; rw [hno], rfl⟩)
    have s1 := (m.1.2.2.2.2.2.1.1 (j + 1) (by omega) h7).1
    first | refine mx_aload_n C dX9_first_10 (pc' := 11) rfl rfl ?_ | refine mx_aload_nq C dX9_first_10 (pc' := 11) rfl rfl ?_
    refine mx_iload_n C dX9_first_11 (pc' := 12) rfl rfl ?_
    refine mx_iload_n C dX9_first_12 (pc' := 13) rfl rfl ?_
    refine cX9_104 C dX9_first_13 (pc' := 16) rfl (m3) (c_X9_isOf l G base h m (show 1 ≤ j + 1 by omega) h7 hr2) ⟨by decide, by decide, by decide, by decide, Nat.le_of_ble_eq_true rfl⟩ ?_
    rintro _ _ ⟨rfl, rfl⟩
    refine mx_B_eq C dX9_first_16 (tgt := 31) (by decide) (pc' := 19) rfl (fun h16 => ?_) (fun h16 => ?_)
    · skip
      refine mx_iinc C dX9_first_31 (pc' := 34) rfl rfl (mx_inc _) (by first | exact mx_c1_0 | exact mx_c1_int rfl | exact mx_c1_ref rfl | exact mx_c1_none rfl | exact mx_c1_rf rfl | exact mx_c1_null rfl) (by decide) (lo' := [_, _, _, _]) rfl ?_
      refine mx_goto C dX9_first_34 (tgt := 2) (by decide) ?_
      exact ih _ (by omega) (j + 1) rfl (by omega) (fiB_s hno (by unfold isT; rw [h16, Bool.and_false]))
    first | refine mx_aload_n C dX9_first_19 (pc' := 20) rfl rfl ?_ | refine mx_aload_nq C dX9_first_19 (pc' := 20) rfl rfl ?_
    refine gX9_26 C dX9_first_20 (pc' := 23) rfl (m3) rfl ?_
    refine mx_iload_n C dX9_first_23 (pc' := 24) rfl rfl ?_
    refine mx_iald C dX9_first_24 (pc' := 25) rfl (hT) (rfl) (show j + 1 < 201 by omega) (by decide) ?_
    rw [(ho (j + 1) (by omega) h7).2]
    refine mx_iload_n C dX9_first_25 (pc' := 26) rfl rfl ?_
    refine mx_N_ne C dX9_first_26 (tgt := 31) (by decide) (pc' := 29) rfl (by omega) (by omega) (fun h26 => ?_) (fun h26 => ?_)
    · skip
      refine mx_iinc C dX9_first_31 (pc' := 34) rfl rfl (mx_inc _) (by first | exact mx_c1_0 | exact mx_c1_int rfl | exact mx_c1_ref rfl | exact mx_c1_none rfl | exact mx_c1_rf rfl | exact mx_c1_null rfl) (by decide) (lo' := [_, _, _, _]) rfl ?_
      refine mx_goto C dX9_first_34 (tgt := 2) (by decide) ?_
      exact ih _ (by omega) (j + 1) rfl (by omega) (fiB_s hno (by unfold isT; rw [decide_eq_false h26]; rfl))
    · skip
      refine mx_iload_n C dX9_first_29 (pc' := 30) rfl rfl ?_
      have e3 : fiT σ r p0 = j + 1 := by
        unfold fiT
        rw [fiB_m (fiB_t hno (show isT σ r p0 j = true by unfold isT; rw [h16, decide_eq_true h26]; rfl)) (show j + 1 ≤ st_k σ by omega)]
      exact mx_iret C hr dX9_first_30 (by omega) (by omega) (⟨by rw [e3], rfl⟩)
  refine mx_iconst C (v := nI 1) (by decide) dX9_first_0 (pc' := 1) rfl ?_
  refine mx_istore_n C dX9_first_1 (pc' := 2) rfl (by first | exact mx_c1_0 | exact mx_c1_int rfl | exact mx_c1_ref rfl | exact mx_c1_none rfl | exact mx_c1_rf rfl | exact mx_c1_null rfl) (by decide) (lo' := [_, _, _, _]) rfl ?_
  exact loop _ 0 rfl (by omega) rfl
theorem c_X9_isWord (h : mx_H) {c : Nat} (hc : c < 256) : mx_M l G base yX9_isWord cX9_isWord 1 (some .boolean) 1 20 0 0 [.int (sb_b c)] h (fun v h' => v = some (.int (mx_b (wd c))) ∧ h = h') := by
  have hl := lw_lt hc
  have q1 := sg_lt hl (show (97 : Nat) < 128 by decide)
  have q2 := sg_gt hl (show (122 : Nat) < 128 by decide)
  refine mx_enter (lo := [some (.int (sb_b c))]) (by decide) (mx_in wd_code_yX9_isWord rfl) (Nat.le_of_ble_eq_true rfl) rfl ?_
  intro p ev s mt args below meth cd C hr hnm
  have C : mx_C p s mt args meth cd cX9_isWord 1 RX9 G base := C
  refine mx_iload_n C dX9_isWord_0 (pc' := 1) rfl rfl ?_
  refine cX9_81 C dX9_isWord_1 (pc' := 4) rfl (c_X9_isDigit l G base h hc) ⟨by decide, by decide, by decide, by decide, Nat.le_of_ble_eq_true rfl⟩ ?_
  rintro _ _ ⟨rfl, rfl⟩
  refine mx_B_ne C dX9_isWord_4 (tgt := 25) (by decide) (pc' := 7) rfl (fun h4 => ?_) (fun h4 => ?_)
  · skip
    refine mx_iconst C (v := nI 1) (by decide) dX9_isWord_25 (pc' := 26) rfl ?_
    refine mx_goto C dX9_isWord_26 (tgt := 30) (by decide) ?_
    first | exact mx_zret C hr (mx_b_nz _) dX9_isWord_30 (by omega) (by omega) (⟨mx_ok1 (decide_eq_true (Or.inl (dg_i h4))), rfl⟩) | exact mx_zret C hr rfl dX9_isWord_30 (by omega) (by omega) (⟨mx_ok1 (decide_eq_true (Or.inl (dg_i h4))), rfl⟩)
  have h4 := dg_n h4
  refine mx_iload_n C dX9_isWord_7 (pc' := 8) rfl rfl ?_
  refine cX9_84 C dX9_isWord_8 (pc' := 11) rfl (c_X9_small l G base h hc) ⟨by decide, by decide, by decide, by decide, Nat.le_of_ble_eq_true rfl⟩ ?_
  rintro _ _ ⟨rfl, rfl⟩
  refine mx_bipush C (v := nI 97) (by decide) dX9_isWord_11 (pc' := 13) rfl ?_
  refine mx_icmp_lt C dX9_isWord_13 (tgt := 29) (by decide) (pc' := 16) rfl (fun h13 => ?_) (fun h13 => ?_)
  · rw [q1] at h13
    refine mx_iconst C (v := nI 0) (by decide) dX9_isWord_29 (pc' := 30) rfl ?_
    first | exact mx_zret C hr (mx_b_nz _) dX9_isWord_30 (by omega) (by omega) (⟨mx_ok0 (decide_eq_false (by omega)), rfl⟩) | exact mx_zret C hr rfl dX9_isWord_30 (by omega) (by omega) (⟨mx_ok0 (decide_eq_false (by omega)), rfl⟩)
  rw [q1] at h13
  refine mx_iload_n C dX9_isWord_16 (pc' := 17) rfl rfl ?_
  refine cX9_84 C dX9_isWord_17 (pc' := 20) rfl (c_X9_small l G base h hc) ⟨by decide, by decide, by decide, by decide, Nat.le_of_ble_eq_true rfl⟩ ?_
  rintro _ _ ⟨rfl, rfl⟩
  refine mx_bipush C (v := nI 122) (by decide) dX9_isWord_20 (pc' := 22) rfl ?_
  refine mx_icmp_gt C dX9_isWord_22 (tgt := 29) (by decide) (pc' := 25) rfl (fun h22 => ?_) (fun h22 => ?_)
  · rw [q2] at h22
    refine mx_iconst C (v := nI 0) (by decide) dX9_isWord_29 (pc' := 30) rfl ?_
    first | exact mx_zret C hr (mx_b_nz _) dX9_isWord_30 (by omega) (by omega) (⟨mx_ok0 (decide_eq_false (by omega)), rfl⟩) | exact mx_zret C hr rfl dX9_isWord_30 (by omega) (by omega) (⟨mx_ok0 (decide_eq_false (by omega)), rfl⟩)
  rw [q2] at h22
  refine mx_iconst C (v := nI 1) (by decide) dX9_isWord_25 (pc' := 26) rfl ?_
  refine mx_goto C dX9_isWord_26 (tgt := 30) (by decide) ?_
  first | exact mx_zret C hr (mx_b_nz _) dX9_isWord_30 (by omega) (by omega) (⟨mx_ok1 (decide_eq_true (by omega)), rfl⟩) | exact mx_zret C hr rfl dX9_isWord_30 (by omega) (by omega) (⟨mx_ok1 (decide_eq_true (by omega)), rfl⟩)
theorem c_X9_number (h : mx_H) {P : Nat → Nat} {σ : mxS} {th kc : Int32} {pu pd : Int64} (m : MI G P h σ th kc pu pd) {f : Nat} (h1 : 1 ≤ f) (h2 : f ≤ st_k σ) : mx_M l G base yX9_number cX9_number 4 (some .int) 1 22 0 0 [.ref (P 0), .int (nI f)] h (fun v h' => v = some (.int (nI (nm (st_sg σ f) (st_sz σ f)))) ∧ h = h') := by
  have m3 := m.2.2.1
  have hk := m.1.2.1
  obtain ⟨-, -, -, h60, h256⟩ := m.1.2.2.2.2.2.1.1 f h1 h2
  obtain ⟨O, T, S, Z, -, -, -, hZ, -, hz, -⟩ := m.2.2.2.2.1
  have ez := hz f h1 (by omega)
  refine mx_enter (lo := [some (.ref (P 0)), some (.int (nI f)), none, none]) (by decide) (mx_in wd_code_yX9_number rfl) (Nat.le_of_ble_eq_true rfl) rfl ?_
  intro p ev s mt args below meth cd C hr hnm
  have C : mx_C p s mt args meth cd cX9_number 4 RX9 G base := C
  have loop : ∀ (d i : Nat), st_sz σ f - i = d → i ≤ st_sz σ f → mx_V p l ev { frames := 1, cells := 0, slots := 0, locals := 22 } s mt args below meth cd G base 4 (MQ below (mx_Qc G base (fun v h' => v = some (.int (nI (nm (st_sg σ f) (st_sz σ f)))) ∧ h = h')) args s 0 0 (mx_A base)) h 0 0 4 [some (.ref (P 0)), some (.int (nI f)), some (.int (nI (nm (st_sg σ f) i))), some (.int (nI i))] [] := by
    intro d
    induction d using Nat.strongRecOn with
    | ind d ih =>
    intro i hd hi
    have hlt := nm_lt (st_sg σ f) i
    refine mx_iload_n C dX9_number_4 (pc' := 5) rfl rfl ?_
    first | refine mx_aload_n C dX9_number_5 (pc' := 6) rfl rfl ?_ | refine mx_aload_nq C dX9_number_5 (pc' := 6) rfl rfl ?_
    refine gX9_33 C dX9_number_6 (pc' := 9) rfl (m3) rfl ?_
    refine mx_iload_n C dX9_number_9 (pc' := 10) rfl rfl ?_
    refine mx_iald C dX9_number_10 (pc' := 11) rfl (hZ) (rfl) (show f < 201 by omega) (by decide) ?_
    rw [ez]
    refine mx_N_ge C dX9_number_11 (tgt := 55) (by decide) (pc' := 14) rfl (by omega) (by omega) (fun h11 => ?_) (fun h11 => ?_)
    · have e1 : i = st_sz σ f := by omega
      rw [e1]
      refine mx_iload_n C dX9_number_55 (pc' := 56) rfl rfl ?_
      exact mx_iret C hr dX9_number_56 (by omega) (by omega) (⟨rfl, rfl⟩)
    have key := ih _ (show st_sz σ f - (i + 1) < d by omega) (i + 1) rfl (by omega)
    simp only [nm] at key
    have hti := h256 i h11
    first | refine mx_aload_n C dX9_number_14 (pc' := 15) rfl rfl ?_ | refine mx_aload_nq C dX9_number_14 (pc' := 15) rfl rfl ?_
    refine mx_iload_n C dX9_number_15 (pc' := 16) rfl rfl ?_
    refine mx_iload_n C dX9_number_16 (pc' := 17) rfl rfl ?_
    refine cX9_88 C dX9_number_17 (pc' := 20) rfl (m3) (c_X9_at l G base h m h1 h2 h11) ⟨by decide, by decide, by decide, by decide, Nat.le_of_ble_eq_true rfl⟩ ?_
    rintro _ _ ⟨rfl, rfl⟩
    refine cX9_81 C dX9_number_20 (pc' := 23) rfl (c_X9_isDigit l G base h hti) ⟨by decide, by decide, by decide, by decide, Nat.le_of_ble_eq_true rfl⟩ ?_
    rintro _ _ ⟨rfl, rfl⟩
    refine mx_B_eq C dX9_number_23 (tgt := 47) (by decide) (pc' := 26) rfl (fun h23 => ?_) (fun h23 => ?_)
    · simp only [h23, Bool.false_eq_true, if_false] at key
      refine mx_iload_n C dX9_number_47 (pc' := 48) rfl rfl ?_
      refine mx_istore_n C dX9_number_48 (pc' := 49) rfl (by first | exact mx_c1_0 | exact mx_c1_int rfl | exact mx_c1_ref rfl | exact mx_c1_none rfl | exact mx_c1_rf rfl | exact mx_c1_null rfl) (by decide) (lo' := [_, _, _, _]) rfl ?_
      refine mx_iinc C dX9_number_49 (pc' := 52) rfl rfl (mx_inc _) (by first | exact mx_c1_0 | exact mx_c1_int rfl | exact mx_c1_ref rfl | exact mx_c1_none rfl | exact mx_c1_rf rfl | exact mx_c1_null rfl) (by decide) (lo' := [_, _, _, _]) rfl ?_
      refine mx_goto C dX9_number_52 (tgt := 4) (by decide) ?_
      exact key
    · have h48 := dg_i h23
      simp only [h23, if_true] at key
      refine mx_bipush C (v := nI 10) (by decide) dX9_number_26 (pc' := 28) rfl ?_
      refine mx_iload_n C dX9_number_28 (pc' := 29) rfl rfl ?_
      refine mx_imul C dX9_number_29 (pc' := 30) rfl ?_
      rw [pk_mul]
      first | refine mx_aload_n C dX9_number_30 (pc' := 31) rfl rfl ?_ | refine mx_aload_nq C dX9_number_30 (pc' := 31) rfl rfl ?_
      refine mx_iload_n C dX9_number_31 (pc' := 32) rfl rfl ?_
      refine mx_iload_n C dX9_number_32 (pc' := 33) rfl rfl ?_
      refine cX9_88 C dX9_number_33 (pc' := 36) rfl (m3) (c_X9_at l G base h m h1 h2 h11) ⟨by decide, by decide, by decide, by decide, Nat.le_of_ble_eq_true rfl⟩ ?_
      rintro _ _ ⟨rfl, rfl⟩
      rw [sg_small _ (show st_sg σ f i < 128 by omega)]
      refine mx_iadd C dX9_number_36 (pc' := 37) rfl ?_
      rw [nI_add]
      refine mx_bipush C (v := nI 48) (by decide) dX9_number_37 (pc' := 39) rfl ?_
      refine mx_isub C dX9_number_39 (pc' := 40) rfl ?_
      rw [pk_sub (show 48 ≤ 10 * nm (st_sg σ f) i + st_sg σ f i by omega), show 10 * nm (st_sg σ f) i + st_sg σ f i - 48 = nm (st_sg σ f) i * 10 + (st_sg σ f i - 48) by omega]
      refine mx_sipush C (v := nI 10000) (by decide) dX9_number_40 (pc' := 43) rfl ?_
      refine mx_irem C (by decide) dX9_number_43 (pc' := 44) rfl ?_
      rw [pk_rem (by omega) (by decide) (by decide)]
      refine mx_goto C dX9_number_44 (tgt := 48) (by decide) ?_
      refine mx_istore_n C dX9_number_48 (pc' := 49) rfl (by first | exact mx_c1_0 | exact mx_c1_int rfl | exact mx_c1_ref rfl | exact mx_c1_none rfl | exact mx_c1_rf rfl | exact mx_c1_null rfl) (by decide) (lo' := [_, _, _, _]) rfl ?_
      refine mx_iinc C dX9_number_49 (pc' := 52) rfl rfl (mx_inc _) (by first | exact mx_c1_0 | exact mx_c1_int rfl | exact mx_c1_ref rfl | exact mx_c1_none rfl | exact mx_c1_rf rfl | exact mx_c1_null rfl) (by decide) (lo' := [_, _, _, _]) rfl ?_
      refine mx_goto C dX9_number_52 (tgt := 4) (by decide) ?_
      exact key
  refine mx_iconst C (v := nI 0) (by decide) dX9_number_0 (pc' := 1) rfl ?_
  refine mx_istore_n C dX9_number_1 (pc' := 2) rfl (by first | exact mx_c1_0 | exact mx_c1_int rfl | exact mx_c1_ref rfl | exact mx_c1_none rfl | exact mx_c1_rf rfl | exact mx_c1_null rfl) (by decide) (lo' := [_, _, _, _]) rfl ?_
  refine mx_iconst C (v := nI 0) (by decide) dX9_number_2 (pc' := 3) rfl ?_
  refine mx_istore_n C dX9_number_3 (pc' := 4) rfl (by first | exact mx_c1_0 | exact mx_c1_int rfl | exact mx_c1_ref rfl | exact mx_c1_none rfl | exact mx_c1_rf rfl | exact mx_c1_null rfl) (by decide) (lo' := [_, _, _, _]) rfl ?_
  exact loop _ 0 rfl (by omega)
theorem c_X9_sameWord (h : mx_H) {P : Nat → Nat} {σ : mxS} {th kc : Int32} {pu pd : Int64} (m : MI G P h σ th kc pu pd) {f g a b s1 l1 s2 l2 : Nat} (f1 : 1 ≤ f) (f2 : f ≤ st_k σ) (g1 : 1 ≤ g) (g2 : g ≤ st_k σ) (ha : a < wcn (st_sg σ f) (st_sz σ f)) (hb : b < wcn (st_sg σ g) (st_sz σ g)) (es : wst (st_sg σ f) (st_sz σ f) a = s1) (el : wln (st_sg σ f) (st_sz σ f) a = l1) (es2 : wst (st_sg σ g) (st_sz σ g) b = s2) (el2 : wln (st_sg σ g) (st_sz σ g) b = l2) :
    mx_M l G base yX9_sameWord cX9_sameWord 9 (some .boolean) 1 22 0 0 [.ref (P 0), .int (nI f), .int (nI s1), .int (nI l1), .int (nI g), .int (nI s2), .int (nI l2)] h (fun v h' => v = some (.int (mx_b (sw (st_sg σ f) (st_sz σ f) a (st_sg σ g) (st_sz σ g) b))) ∧ h = h') := by
  have m3 := m.2.2.1
  obtain ⟨-, -, -, h60, h256⟩ := m.1.2.2.2.2.2.1.1 f f1 f2
  obtain ⟨-, -, -, h60', h256'⟩ := m.1.2.2.2.2.2.1.1 g g1 g2
  obtain ⟨i1, i2, i3, -⟩ := w_in (st_sg σ f) (st_sz σ f) a ha
  obtain ⟨j1, j2, j3, -⟩ := w_in (st_sg σ g) (st_sz σ g) b hb
  rw [es, el] at i2
  rw [es2, el2] at j2
  have hsw : sw (st_sg σ f) (st_sz σ f) a (st_sg σ g) (st_sz σ g) b = decide (l1 = l2 ∧ ∀ j, j < l1 → lw (st_sg σ f (s1 + j)) = lw (st_sg σ g (s2 + j))) := by unfold sw; rw [es, el, es2, el2]
  refine mx_enter (lo := [some (.ref (P 0)), some (.int (nI f)), some (.int (nI s1)), some (.int (nI l1)), some (.int (nI g)), some (.int (nI s2)), some (.int (nI l2)), none, none]) (by decide) (mx_in wd_code_yX9_sameWord rfl) (Nat.le_of_ble_eq_true rfl) rfl ?_
  intro p ev s mt args below meth cd C hr hnm
  have C : mx_C p s mt args meth cd cX9_sameWord 9 RX9 G base := C
  have loop : ∀ (d i : Nat) (q : Bool), l1 - i = d → i ≤ l1 → (q = true → l1 = l2 ∧ ∀ j, j < i → lw (st_sg σ f (s1 + j)) = lw (st_sg σ g (s2 + j))) → (q = false → ¬ (l1 = l2 ∧ ∀ j, j < l1 → lw (st_sg σ f (s1 + j)) = lw (st_sg σ g (s2 + j)))) → mx_V p l ev { frames := 1, cells := 0, slots := 0, locals := 22 } s mt args below meth cd G base 9 (MQ below (mx_Qc G base (fun v h' => v = some (.int (mx_b (sw (st_sg σ f) (st_sz σ f) a (st_sg σ g) (st_sz σ g) b))) ∧ h = h')) args s 0 0 (mx_A base)) h 0 0 16 [some (.ref (P 0)), some (.int (nI f)), some (.int (nI s1)), some (.int (nI l1)), some (.int (nI g)), some (.int (nI s2)), some (.int (nI l2)), some (.int (mx_b q)), some (.int (nI i))] [] := by
    intro d
    induction d using Nat.strongRecOn with
    | ind d ih =>
    intro i q hd hi hq1 hq2
    refine mx_iload C dX9_sameWord_16 (pc' := 18) rfl rfl ?_
    refine mx_iload_n C dX9_sameWord_18 (pc' := 19) rfl rfl ?_
    refine mx_N_ge C dX9_sameWord_19 (tgt := 69) (by decide) (pc' := 22) rfl (by omega) (by omega) (fun h19 => ?_) (fun h19 => ?_)
    · have e1 : i = l1 := by omega
      have e2 : q = sw (st_sg σ f) (st_sz σ f) a (st_sg σ g) (st_sz σ g) b := by
        rw [hsw]
        cases q with
        | true => exact (decide_eq_true (by rw [← e1] at *; exact hq1 rfl)).symm
        | false => exact (decide_eq_false (hq2 rfl)).symm
      refine mx_iload C dX9_sameWord_69 (pc' := 71) rfl rfl ?_
      first | exact mx_zret C hr (mx_b_nz _) dX9_sameWord_71 (by omega) (by omega) (⟨by rw [e2], rfl⟩) | exact mx_zret C hr rfl dX9_sameWord_71 (by omega) (by omega) (⟨by rw [e2], rfl⟩)
    refine mx_iload C dX9_sameWord_22 (pc' := 24) rfl rfl ?_
    refine mx_B_eq C dX9_sameWord_24 (tgt := 69) (by decide) (pc' := 27) rfl (fun h24 => ?_) (fun h24 => ?_)
    · have e2 : q = sw (st_sg σ f) (st_sz σ f) a (st_sg σ g) (st_sz σ g) b := by
        rw [hsw, h24]
        exact (decide_eq_false (hq2 h24)).symm
      refine mx_iload C dX9_sameWord_69 (pc' := 71) rfl rfl ?_
      first | exact mx_zret C hr (mx_b_nz _) dX9_sameWord_71 (by omega) (by omega) (⟨by rw [e2], rfl⟩) | exact mx_zret C hr rfl dX9_sameWord_71 (by omega) (by omega) (⟨by rw [e2], rfl⟩)
    obtain ⟨hl, hall⟩ := hq1 h24
    have b1 := h256 (s1 + i) (by omega)
    have b2 := h256' (s2 + i) (by omega)
    first | refine mx_aload_n C dX9_sameWord_27 (pc' := 28) rfl rfl ?_ | refine mx_aload_nq C dX9_sameWord_27 (pc' := 28) rfl rfl ?_
    refine mx_iload_n C dX9_sameWord_28 (pc' := 29) rfl rfl ?_
    refine mx_iload_n C dX9_sameWord_29 (pc' := 30) rfl rfl ?_
    refine mx_iload C dX9_sameWord_30 (pc' := 32) rfl rfl ?_
    refine mx_iadd C dX9_sameWord_32 (pc' := 33) rfl ?_
    rw [nI_add]
    refine cX9_88 C dX9_sameWord_33 (pc' := 36) rfl (m3) (c_X9_at l G base h m f1 f2 (show s1 + i < st_sz σ f by omega)) ⟨by decide, by decide, by decide, by decide, Nat.le_of_ble_eq_true rfl⟩ ?_
    rintro _ _ ⟨rfl, rfl⟩
    refine cX9_84 C dX9_sameWord_36 (pc' := 39) rfl (c_X9_small l G base h b1) ⟨by decide, by decide, by decide, by decide, Nat.le_of_ble_eq_true rfl⟩ ?_
    rintro _ _ ⟨rfl, rfl⟩
    first | refine mx_aload_n C dX9_sameWord_39 (pc' := 40) rfl rfl ?_ | refine mx_aload_nq C dX9_sameWord_39 (pc' := 40) rfl rfl ?_
    refine mx_iload C dX9_sameWord_40 (pc' := 42) rfl rfl ?_
    refine mx_iload C dX9_sameWord_42 (pc' := 44) rfl rfl ?_
    refine mx_iload C dX9_sameWord_44 (pc' := 46) rfl rfl ?_
    refine mx_iadd C dX9_sameWord_46 (pc' := 47) rfl ?_
    rw [nI_add]
    refine cX9_88 C dX9_sameWord_47 (pc' := 50) rfl (m3) (c_X9_at l G base h m g1 g2 (show s2 + i < st_sz σ g by omega)) ⟨by decide, by decide, by decide, by decide, Nat.le_of_ble_eq_true rfl⟩ ?_
    rintro _ _ ⟨rfl, rfl⟩
    refine cX9_84 C dX9_sameWord_50 (pc' := 53) rfl (c_X9_small l G base h b2) ⟨by decide, by decide, by decide, by decide, Nat.le_of_ble_eq_true rfl⟩ ?_
    rintro _ _ ⟨rfl, rfl⟩
    have hinj := sg_inj (lw_lt b1) (lw_lt b2)
    refine mx_icmp_ne C dX9_sameWord_53 (tgt := 60) (by decide) (pc' := 56) rfl (fun h53 => ?_) (fun h53 => ?_)
    · skip
      refine mx_iconst C (v := nI 0) (by decide) dX9_sameWord_60 (pc' := 61) rfl ?_
      refine mx_istore C dX9_sameWord_61 (pc' := 63) rfl (by first | exact mx_c1_0 | exact mx_c1_int rfl | exact mx_c1_ref rfl | exact mx_c1_none rfl | exact mx_c1_rf rfl | exact mx_c1_null rfl) (by decide) (lo' := [_, _, _, _, _, _, _, _, _]) rfl ?_
      refine mx_iinc C dX9_sameWord_63 (pc' := 66) rfl rfl (mx_inc _) (by first | exact mx_c1_0 | exact mx_c1_int rfl | exact mx_c1_ref rfl | exact mx_c1_none rfl | exact mx_c1_rf rfl | exact mx_c1_null rfl) (by decide) (lo' := [_, _, _, _, _, _, _, _, _]) rfl ?_
      refine mx_goto C dX9_sameWord_66 (tgt := 16) (by decide) ?_
      exact ih _ (by omega) (i + 1) false rfl (by omega) (fun z => (by cases z)) (fun _ z => h53 (hinj.mpr (z.2 i h19)))
    · skip
      refine mx_iconst C (v := nI 1) (by decide) dX9_sameWord_56 (pc' := 57) rfl ?_
      refine mx_goto C dX9_sameWord_57 (tgt := 61) (by decide) ?_
      refine mx_istore C dX9_sameWord_61 (pc' := 63) rfl (by first | exact mx_c1_0 | exact mx_c1_int rfl | exact mx_c1_ref rfl | exact mx_c1_none rfl | exact mx_c1_rf rfl | exact mx_c1_null rfl) (by decide) (lo' := [_, _, _, _, _, _, _, _, _]) rfl ?_
      refine mx_iinc C dX9_sameWord_63 (pc' := 66) rfl rfl (mx_inc _) (by first | exact mx_c1_0 | exact mx_c1_int rfl | exact mx_c1_ref rfl | exact mx_c1_none rfl | exact mx_c1_rf rfl | exact mx_c1_null rfl) (by decide) (lo' := [_, _, _, _, _, _, _, _, _]) rfl ?_
      refine mx_goto C dX9_sameWord_66 (tgt := 16) (by decide) ?_
      exact ih _ (by omega) (i + 1) true rfl (by omega) (fun _ => ⟨hl, fun j hj => by
        by_cases e : j = i
        · subst e; exact hinj.mp h53
        · exact hall j (by omega)⟩) (fun z => (by cases z))
  refine mx_iload_n C dX9_sameWord_0 (pc' := 1) rfl rfl ?_
  refine mx_iload C dX9_sameWord_1 (pc' := 3) rfl rfl ?_
  refine mx_N_ne C dX9_sameWord_3 (tgt := 10) (by decide) (pc' := 6) rfl (by omega) (by omega) (fun h3 => ?_) (fun h3 => ?_)
  · skip
    refine mx_iconst C (v := nI 0) (by decide) dX9_sameWord_10 (pc' := 11) rfl ?_
    refine mx_istore C dX9_sameWord_11 (pc' := 13) rfl (by first | exact mx_c1_0 | exact mx_c1_int rfl | exact mx_c1_ref rfl | exact mx_c1_none rfl | exact mx_c1_rf rfl | exact mx_c1_null rfl) (by decide) (lo' := [_, _, _, _, _, _, _, _, _]) rfl ?_
    refine mx_iconst C (v := nI 0) (by decide) dX9_sameWord_13 (pc' := 14) rfl ?_
    refine mx_istore C dX9_sameWord_14 (pc' := 16) rfl (by first | exact mx_c1_0 | exact mx_c1_int rfl | exact mx_c1_ref rfl | exact mx_c1_none rfl | exact mx_c1_rf rfl | exact mx_c1_null rfl) (by decide) (lo' := [_, _, _, _, _, _, _, _, _]) rfl ?_
    exact loop _ 0 false rfl (by omega) (fun z => (by cases z)) (fun _ z => h3 z.1)
  · skip
    refine mx_iconst C (v := nI 1) (by decide) dX9_sameWord_6 (pc' := 7) rfl ?_
    refine mx_goto C dX9_sameWord_7 (tgt := 11) (by decide) ?_
    refine mx_istore C dX9_sameWord_11 (pc' := 13) rfl (by first | exact mx_c1_0 | exact mx_c1_int rfl | exact mx_c1_ref rfl | exact mx_c1_none rfl | exact mx_c1_rf rfl | exact mx_c1_null rfl) (by decide) (lo' := [_, _, _, _, _, _, _, _, _]) rfl ?_
    refine mx_iconst C (v := nI 0) (by decide) dX9_sameWord_13 (pc' := 14) rfl ?_
    refine mx_istore C dX9_sameWord_14 (pc' := 16) rfl (by first | exact mx_c1_0 | exact mx_c1_int rfl | exact mx_c1_ref rfl | exact mx_c1_none rfl | exact mx_c1_rf rfl | exact mx_c1_null rfl) (by decide) (lo' := [_, _, _, _, _, _, _, _, _]) rfl ?_
    exact loop _ 0 true rfl (by omega) (fun _ => ⟨h3, fun j hj => by omega⟩) (fun z => (by cases z))
theorem c_X9_words (h : mx_H) {P : Nat → Nat} {σ : mxS} {th kc : Int32} {pu pd : Int64} (m : MI G P h σ th kc pu pd) {f u w : Nat} (f1 : 1 ≤ f) (f2 : f ≤ st_k σ) (hu1 : 14 ≤ u) (hu2 : u ≤ 17) (hw1 : 14 ≤ w) (hw2 : w ≤ 17) (hne : u ≠ w) :
    mx_M l G base yX9_words cX9_words 7 (some .int) 2 40 0 0 [.ref (P 0), .int (nI f), .ref (P u), .ref (P w)] h (fun v h' => v = some (.int (nI (wcn (st_sg σ f) (st_sz σ f)))) ∧ ∃ A B : Nat → Int32, h' = va_up (va_up h (P u) (some (.inl (G.2 0, 60, .inl A)))) (P w) (some (.inl (G.2 0, 60, .inl B))) ∧ ∀ k, k < wcn (st_sg σ f) (st_sz σ f) → A k = nI (wst (st_sg σ f) (st_sz σ f) k) ∧ B k = nI (wln (st_sg σ f) (st_sz σ f) k)) := by
  have hk := m.1.2.1
  obtain ⟨-, -, -, h60, h256⟩ := m.1.2.2.2.2.2.1.1 f f1 f2
  obtain ⟨A0, hA0⟩ := m.2.2.2.2.2.2.2 u hu1 hu2
  obtain ⟨B0, hB0⟩ := m.2.2.2.2.2.2.2 w hw1 hw2
  have pne : P u ≠ P w := m.2.1.ne (by omega) (by omega) hne
  have pne' : P w ≠ P u := fun z => pne z.symm
  generalize et : st_sg σ f = t at *
  generalize en : st_sz σ f = n at *
  refine mx_enter (lo := [some (.ref (P 0)), some (.int (nI f)), some (.ref (P u)), some (.ref (P w)), none, none, none]) (by decide) (mx_in wd_code_yX9_words rfl) (Nat.le_of_ble_eq_true rfl) rfl ?_
  intro p ev s mt args below meth cd C hr hnm
  have C : mx_C p s mt args meth cd cX9_words 7 RX9 G base := C
  have loop : ∀ (d i : Nat) (A B : Nat → Int32) (o6 : Option Value), n - i = d → i ≤ n → (wi t i = true → ¬ (i < n ∧ wd (t i) = true)) → (∀ k, k < wcn t i → A k = nI (wst t i k) ∧ B k = nI (wln t i k)) → mx_V p l ev { frames := 2, cells := 0, slots := 0, locals := 40 } s mt args below meth cd G base 7 (MQ below (mx_Qc G base (fun v h' => v = some (.int (nI (wcn t n))) ∧ ∃ A B : Nat → Int32, h' = va_up (va_up h (P u) (some (.inl (G.2 0, 60, .inl A)))) (P w) (some (.inl (G.2 0, 60, .inl B))) ∧ ∀ k, k < wcn t n → A k = nI (wst t n k) ∧ B k = nI (wln t n k))) args s 0 0 (mx_A base)) (va_up (va_up h (P u) (some (.inl (G.2 0, 60, .inl A)))) (P w) (some (.inl (G.2 0, 60, .inl B)))) 0 0 6 [some (.ref (P 0)), some (.int (nI f)), some (.ref (P u)), some (.ref (P w)), some (.int (nI (wcn t i))), some (.int (nI i)), o6] [] := by
    intro d
    induction d using Nat.strongRecOn with
    | ind d ih =>
    intro i A B o6 hd hi hin hok
    refine mx_weak (mx_le_keep (mx_le_keep (mx_le_keep (mx_le_keep (mx_le_keep (mx_le_keep (mx_le_drop mx_le_nil))))))) ?_
    have m' := (m.row (i := u) hu1 hu2 (A := A)).row (i := w) hw1 hw2 (A := B)
    have m3 := m'.2.2.1
    obtain ⟨O, T, S, Z, -, -, -, hZ, -, hz, -⟩ := m'.2.2.2.2.1
    have ez := hz f f1 (by omega)
    rw [en] at ez
    have hc30 := wcn_le t i
    have hcb : wcn t i ≤ 30 := by split at hc30 <;> omega
    refine mx_iload C dX9_words_6 (pc' := 8) rfl rfl ?_
    first | refine mx_aload_n C dX9_words_8 (pc' := 9) rfl rfl ?_ | refine mx_aload_nq C dX9_words_8 (pc' := 9) rfl rfl ?_
    refine gX9_33 C dX9_words_9 (pc' := 12) rfl (m3) rfl ?_
    refine mx_iload_n C dX9_words_12 (pc' := 13) rfl rfl ?_
    refine mx_iald C dX9_words_13 (pc' := 14) rfl (hZ) (rfl) (show f < 201 by omega) (by decide) ?_
    rw [ez]
    refine mx_N_ge C dX9_words_14 (tgt := 85) (by decide) (pc' := 17) rfl (by omega) (by omega) (fun h14 => ?_) (fun h14 => ?_)
    · have e1 : i = n := by omega
      subst e1
      refine mx_iload C dX9_words_85 (pc' := 87) rfl rfl ?_
      exact mx_iret C hr dX9_words_87 (by omega) (by omega) (⟨rfl, A, B, rfl, hok⟩)
    have inner : ∀ (d2 k : Nat), n - k = d2 → i ≤ k → k ≤ n → (∀ q, i ≤ q → q < k → wd (t q) = true) → mx_V p l ev { frames := 2, cells := 0, slots := 0, locals := 40 } s mt args below meth cd G base 7 (MQ below (mx_Qc G base (fun v h' => v = some (.int (nI (wcn t n))) ∧ ∃ A B : Nat → Int32, h' = va_up (va_up h (P u) (some (.inl (G.2 0, 60, .inl A)))) (P w) (some (.inl (G.2 0, 60, .inl B))) ∧ ∀ k, k < wcn t n → A k = nI (wst t n k) ∧ B k = nI (wln t n k))) args s 0 0 (mx_A base)) (va_up (va_up h (P u) (some (.inl (G.2 0, 60, .inl A)))) (P w) (some (.inl (G.2 0, 60, .inl B)))) 0 0 21 [some (.ref (P 0)), some (.int (nI f)), some (.ref (P u)), some (.ref (P w)), some (.int (nI (wcn t i))), some (.int (nI k)), some (.int (nI i))] [] := by
      intro d2
      induction d2 using Nat.strongRecOn with
      | ind d2 ih2 =>
      intro k hd2 hik hkn hall
      have fin : (¬ (k < n ∧ wd (t k) = true)) → mx_V p l ev { frames := 2, cells := 0, slots := 0, locals := 40 } s mt args below meth cd G base 7 (MQ below (mx_Qc G base (fun v h' => v = some (.int (nI (wcn t n))) ∧ ∃ A B : Nat → Int32, h' = va_up (va_up h (P u) (some (.inl (G.2 0, 60, .inl A)))) (P w) (some (.inl (G.2 0, 60, .inl B))) ∧ ∀ k, k < wcn t n → A k = nI (wst t n k) ∧ B k = nI (wln t n k))) args s 0 0 (mx_A base)) (va_up (va_up h (P u) (some (.inl (G.2 0, 60, .inl A)))) (P w) (some (.inl (G.2 0, 60, .inl B)))) 0 0 51 [some (.ref (P 0)), some (.int (nI f)), some (.ref (P u)), some (.ref (P w)), some (.int (nI (wcn t i))), some (.int (nI k)), some (.int (nI i))] [] := by
        intro hstop
        refine mx_iload C dX9_words_51 (pc' := 53) rfl rfl ?_
        refine mx_iload C dX9_words_53 (pc' := 55) rfl rfl ?_
        refine mx_N_le C dX9_words_55 (tgt := 79) (by decide) (pc' := 58) rfl (by omega) (by omega) (fun h55 => ?_) (fun h55 => ?_)
        · have e1 : k = i := by omega
          subst e1
          have hnw : wd (t k) = false := by
            cases hz : wd (t k) with
            | false => rfl
            | true => exact absurd ⟨h14, hz⟩ hstop
          have e2 : wcn t k = wcn t (k + 1) := by simp [wcn_s, hnw]
          refine mx_iinc C dX9_words_79 (pc' := 82) rfl rfl (mx_inc _) (by first | exact mx_c1_0 | exact mx_c1_int rfl | exact mx_c1_ref rfl | exact mx_c1_none rfl | exact mx_c1_rf rfl | exact mx_c1_null rfl) (by decide) (lo' := [_, _, _, _, _, _, _]) rfl ?_
          refine mx_goto C dX9_words_82 (tgt := 6) (by decide) ?_
          rw [e2]
          refine ih _ (by omega) (k + 1) A B _ rfl (by omega) (fun z => by rw [wi_s, hnw] at z; cases z) (fun q hq => ?_)
          rw [← e2] at hq
          have := hok q hq
          simpa [wst_s, wln_s, hnw] using this
        · have hwi : wi t i = false := by
            cases hz : wi t i with
            | false => rfl
            | true => exact absurd ⟨h14, hall i (by omega) h55⟩ (hin hz)
          have hstep : ∀ e, i + e + 1 ≤ k → wcn t (i + e + 1) = wcn t i + 1 ∧ wi t (i + e + 1) = true ∧ (∀ q, q < wcn t i → wst t (i + e + 1) q = wst t i q ∧ wln t (i + e + 1) q = wln t i q) ∧ wst t (i + e + 1) (wcn t i) = i ∧ wln t (i + e + 1) (wcn t i) = e + 1 := by
            intro e
            induction e with
            | zero =>
              intro he
              have h1 : wd (t i) = true := hall i (by omega) (by omega)
              have e0 : i + 0 + 1 = i + 1 := rfl
              rw [e0]
              refine ⟨by simp [wcn_s, h1, hwi], by rw [wi_s]; exact h1, fun q hq => ?_, ?_, ?_⟩
              · have e2 : q ≠ wcn t i := by omega
                constructor
                · rw [wst_s, h1, hwi]; simp [e2]
                · rw [wln_s, h1, hwi]; simp [e2]
              · rw [wst_s, h1, hwi]; simp
              · rw [wln_s, h1, hwi]; simp
            | succ e ihe =>
              intro he
              obtain ⟨a1, a2, a3, a4, a5⟩ := ihe (by omega)
              have h1 : wd (t (i + e + 1)) = true := hall (i + e + 1) (by omega) (by omega)
              have e0 : i + (e + 1) + 1 = (i + e + 1) + 1 := by omega
              rw [e0]
              refine ⟨by rw [wcn_s, h1, a2]; simpa using a1, by rw [wi_s]; exact h1, fun q hq => ?_, ?_, ?_⟩
              · have e2 : ¬ (q + 1 = wcn t i + 1) := by omega
                constructor
                · rw [wst_s, h1, a2]; simpa using (a3 q hq).1
                · rw [wln_s, h1, a2, a1]; simp [show ¬ q = wcn t i by omega]; exact (a3 q hq).2
              · rw [wst_s, h1, a2]; simpa using a4
              · rw [wln_s, h1, a2, a1, a5]; simp
          obtain ⟨a1, a2, a3, a4, a5⟩ := hstep (k - i - 1) (by omega)
          rw [show i + (k - i - 1) + 1 = k by omega] at a1 a2 a3 a4 a5
          have hAu : va_up (va_up h (P u) (some (.inl (G.2 0, 60, .inl A)))) (P w) (some (.inl (G.2 0, 60, .inl B))) (P u) = some (.inl (G.2 0, 60, .inl A)) := by rw [va_up_ne _ _ pne, va_up_self]
          have hUU : ∀ A' : Nat → Int32, va_up (va_up (va_up h (P u) (some (.inl (G.2 0, 60, .inl A)))) (P w) (some (.inl (G.2 0, 60, .inl B)))) (P u) (some (.inl (G.2 0, 60, .inl A'))) = va_up (va_up h (P u) (some (.inl (G.2 0, 60, .inl A')))) (P w) (some (.inl (G.2 0, 60, .inl B))) := by
            intro A'
            funext y
            unfold va_up
            by_cases e1 : y = P u
            · subst e1; simp [pne]
            · by_cases e2 : y = P w
              · subst e2; simp [e1]
              · simp [e1, e2]
          first | refine mx_aload_n C dX9_words_58 (pc' := 59) rfl rfl ?_ | refine mx_aload_nq C dX9_words_58 (pc' := 59) rfl rfl ?_
          refine mx_iload C dX9_words_59 (pc' := 61) rfl rfl ?_
          refine mx_iload C dX9_words_61 (pc' := 63) rfl rfl ?_
          refine mx_iast C dX9_words_63 (pc' := 64) rfl hAu rfl (show wcn t i < 60 by omega) (by decide) ?_
          refine mx_heap (hUU _) ?_
          first | refine mx_aload_n C dX9_words_64 (pc' := 65) rfl rfl ?_ | refine mx_aload_nq C dX9_words_64 (pc' := 65) rfl rfl ?_
          refine mx_iload C dX9_words_65 (pc' := 67) rfl rfl ?_
          refine mx_iload C dX9_words_67 (pc' := 69) rfl rfl ?_
          refine mx_iload C dX9_words_69 (pc' := 71) rfl rfl ?_
          refine mx_isub C dX9_words_71 (pc' := 72) rfl ?_
          rw [pk_sub (show i ≤ k by omega)]
          refine mx_iast C dX9_words_72 (pc' := 73) rfl (va_up_self _ _ _) rfl (show wcn t i < 60 by omega) (by decide) ?_
          refine mx_heap (bx_uu _ _ _ _) ?_
          refine mx_iinc C dX9_words_73 (pc' := 76) rfl rfl (mx_inc _) (by first | exact mx_c1_0 | exact mx_c1_int rfl | exact mx_c1_ref rfl | exact mx_c1_none rfl | exact mx_c1_rf rfl | exact mx_c1_null rfl) (by decide) (lo' := [_, _, _, _, _, _, _]) rfl ?_
          refine mx_goto C dX9_words_76 (tgt := 82) (by decide) ?_
          refine mx_goto C dX9_words_82 (tgt := 6) (by decide) ?_
          rw [← a1]
          refine ih _ (by omega) k _ _ _ rfl hkn (fun _ => hstop) (fun q hq => ?_)
          by_cases e3 : q = wcn t i
          · rw [e3, pk_us, pk_us, a4, a5]
            exact ⟨rfl, congrArg nI (by omega)⟩
          · rw [pk_un e3, pk_un e3]
            obtain ⟨b1, b2⟩ := a3 q (by omega)
            rw [b1, b2]
            exact hok q (by omega)
      refine mx_iload C dX9_words_21 (pc' := 23) rfl rfl ?_
      first | refine mx_aload_n C dX9_words_23 (pc' := 24) rfl rfl ?_ | refine mx_aload_nq C dX9_words_23 (pc' := 24) rfl rfl ?_
      refine gX9_33 C dX9_words_24 (pc' := 27) rfl (m3) rfl ?_
      refine mx_iload_n C dX9_words_27 (pc' := 28) rfl rfl ?_
      refine mx_iald C dX9_words_28 (pc' := 29) rfl (hZ) (rfl) (show f < 201 by omega) (by decide) ?_
      rw [ez]
      refine mx_N_ge C dX9_words_29 (tgt := 51) (by decide) (pc' := 32) rfl (by omega) (by omega) (fun h29 => ?_) (fun h29 => ?_)
      · exact fin (fun z => absurd z.1 (by omega))
      have b1 := h256 k h29
      first | refine mx_aload_n C dX9_words_32 (pc' := 33) rfl rfl ?_ | refine mx_aload_nq C dX9_words_32 (pc' := 33) rfl rfl ?_
      refine mx_iload_n C dX9_words_33 (pc' := 34) rfl rfl ?_
      refine mx_iload C dX9_words_34 (pc' := 36) rfl rfl ?_
      refine cX9_88 C dX9_words_36 (pc' := 39) rfl (m3) (c_X9_at l G base _ m' f1 f2 (show k < st_sz σ f by omega)) ⟨by decide, by decide, by decide, by decide, Nat.le_of_ble_eq_true rfl⟩ ?_
      rintro _ _ ⟨rfl, rfl⟩
      rw [et]
      refine cX9_92 C dX9_words_39 (pc' := 42) rfl (c_X9_isWord l G base _ b1) ⟨by decide, by decide, by decide, by decide, Nat.le_of_ble_eq_true rfl⟩ ?_
      rintro _ _ ⟨rfl, rfl⟩
      refine mx_B_eq C dX9_words_42 (tgt := 51) (by decide) (pc' := 45) rfl (fun h42 => ?_) (fun h42 => ?_)
      · exact fin (fun z => by rw [h42] at z; exact absurd z.2 (by decide))
      · skip
        refine mx_iinc C dX9_words_45 (pc' := 48) rfl rfl (mx_inc _) (by first | exact mx_c1_0 | exact mx_c1_int rfl | exact mx_c1_ref rfl | exact mx_c1_none rfl | exact mx_c1_rf rfl | exact mx_c1_null rfl) (by decide) (lo' := [_, _, _, _, _, _, _]) rfl ?_
        refine mx_goto C dX9_words_48 (tgt := 21) (by decide) ?_
        refine ih2 _ (by omega) (k + 1) rfl (by omega) (by omega) (fun q q1 q2 => ?_)
        by_cases e : q = k
        · subst e; exact h42
        · exact hall q q1 (by omega)
    refine mx_iload C dX9_words_17 (pc' := 19) rfl rfl ?_
    refine mx_istore C dX9_words_19 (pc' := 21) rfl (by first | exact mx_c1_0 | exact mx_c1_int rfl | exact mx_c1_ref rfl | exact mx_c1_none rfl | exact mx_c1_rf rfl | exact mx_c1_null rfl) (by decide) (lo' := [_, _, _, _, _, _, _]) rfl ?_
    exact inner _ i rfl (Nat.le_refl _) hi (fun q q1 q2 => by omega)
  have hself : h = va_up (va_up h (P u) (some (.inl (G.2 0, 60, .inl A0)))) (P w) (some (.inl (G.2 0, 60, .inl B0))) := by
    funext y
    unfold va_up
    by_cases e2 : y = P w
    · subst e2; simp [hB0]
    · by_cases e1 : y = P u
      · subst e1; simp [e2, hA0]
      · simp [e1, e2]
  refine mx_heap hself ?_
  refine mx_iconst C (v := nI 0) (by decide) dX9_words_0 (pc' := 1) rfl ?_
  refine mx_istore C dX9_words_1 (pc' := 3) rfl (by first | exact mx_c1_0 | exact mx_c1_int rfl | exact mx_c1_ref rfl | exact mx_c1_none rfl | exact mx_c1_rf rfl | exact mx_c1_null rfl) (by decide) (lo' := [_, _, _, _, _, _, _]) rfl ?_
  refine mx_iconst C (v := nI 0) (by decide) dX9_words_3 (pc' := 4) rfl ?_
  refine mx_istore C dX9_words_4 (pc' := 6) rfl (by first | exact mx_c1_0 | exact mx_c1_int rfl | exact mx_c1_ref rfl | exact mx_c1_none rfl | exact mx_c1_rf rfl | exact mx_c1_null rfl) (by decide) (lo' := [_, _, _, _, _, _, _]) rfl ?_
  exact loop _ 0 A0 B0 none rfl (by omega) (fun z => (by cases z)) (fun k hk => by simp [wcn] at hk)
end R1
