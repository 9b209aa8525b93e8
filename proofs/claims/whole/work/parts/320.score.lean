/-! weight; the sums of a pair; the common divisor -/
/-- the sums after the first p parts -/
def lkS (σ : mxS) (a b : Nat) : Nat → Nat × Nat × Nat
  | 0 => (0, 1, 0)
  | p + 1 => if fiT σ a p ≠ 0 ∧ fiT σ b p ≠ 0 then lad (lkS σ a b p) (pfC p (st_sg σ (fiT σ a p)) (st_sz σ (fiT σ a p)) (st_sg σ (fiT σ b p)) (st_sz σ (fiT σ b p))) (wgt σ p) else lkS σ a b p
theorem lad_le {x : Nat × Nat × Nat} {f : Nat × Nat} {w A B C U D : Nat} (h1 : x.1 ≤ A) (h2 : 1 ≤ x.2.1) (h3 : x.2.1 ≤ B) (h4 : x.2.2 ≤ C) (h5 : f.1 ≤ U) (h6 : 1 ≤ f.2) (h7 : f.2 ≤ D) (h8 : w ≤ 252000) : (lad x f w).1 ≤ A * D + B * U * 252000 ∧ 1 ≤ (lad x f w).2.1 ∧ (lad x f w).2.1 ≤ B * D ∧ (lad x f w).2.2 ≤ C + 252000 := by
  refine ⟨?_, ?_, ?_, ?_⟩
  · show x.1 * f.2 + x.2.1 * f.1 * w ≤ _
    exact Nat.add_le_add (Nat.mul_le_mul h1 h7) (Nat.mul_le_mul (Nat.mul_le_mul h3 h5) h8)
  · exact Nat.mul_le_mul h2 h6
  · exact Nat.mul_le_mul h3 h7
  · show x.2.2 + w ≤ _
    omega
theorem lkS_step {σ : mxS} (h : si σ) {a b p A B C U D : Nat} (hp : p < 5) (hU : U = (if p = 0 then 30 else if p ≤ 3 then 2 else 9999)) (hD : D = (if p = 0 then 60 else if p ≤ 3 then 2 else 9999)) (h1 : (lkS σ a b p).1 ≤ A) (h2 : 1 ≤ (lkS σ a b p).2.1) (h3 : (lkS σ a b p).2.1 ≤ B) (h4 : (lkS σ a b p).2.2 ≤ C) : (lkS σ a b (p + 1)).1 ≤ A * D + B * U * 252000 ∧ 1 ≤ (lkS σ a b (p + 1)).2.1 ∧ (lkS σ a b (p + 1)).2.1 ≤ B * D ∧ (lkS σ a b (p + 1)).2.2 ≤ C + 252000 := by
  have hD1 : 1 ≤ D := by rw [hD]; split; omega; split <;> omega
  simp only [lkS]
  split
  · rename_i e
    obtain ⟨x1, x2, -⟩ := fiT_in e.1
    obtain ⟨y1, y2, -⟩ := fiT_in e.2
    obtain ⟨b1, b2, b3⟩ := pfC_le (p := p) (t := st_sg σ (fiT σ a p)) (t2 := st_sg σ (fiT σ b p)) (h.2.2.2.2.2.1.1 _ x1 x2).2.2.2.1 (h.2.2.2.2.2.1.1 _ y1 y2).2.2.2.1
    rw [← hU] at b1
    rw [← hD] at b3
    exact lad_le h1 h2 h3 h4 b1 b2 b3 (wgt_le h hp)
  · refine ⟨?_, h2, ?_, by omega⟩
    · have : A * 1 ≤ A * D := Nat.mul_le_mul_left _ hD1
      omega
    · have : B * 1 ≤ B * D := Nat.mul_le_mul_left _ hD1
      omega
theorem lkS_le {σ : mxS} (h : si σ) {a b p : Nat} (hp : p ≤ 5) : (lkS σ a b p).1 ≤ 6000000000000 ∧ 1 ≤ (lkS σ a b p).2.1 ∧ (lkS σ a b p).2.1 ≤ 4799520 ∧ (lkS σ a b p).2.2 ≤ 1260000 := by
  have s1 := lkS_step h (a := a) (b := b) (p := 0) (A := 0) (B := 1) (C := 0) (by decide) rfl rfl (Nat.le_refl _) (Nat.le_refl _) (Nat.le_refl _) (Nat.le_refl _)
  obtain ⟨a1, a2, a3, a4⟩ := s1
  have s2 := lkS_step h (p := 1) (by decide) rfl rfl a1 a2 a3 a4
  obtain ⟨b1, b2, b3, b4⟩ := s2
  have s3 := lkS_step h (p := 2) (by decide) rfl rfl b1 b2 b3 b4
  obtain ⟨c1, c2, c3, c4⟩ := s3
  have s4 := lkS_step h (p := 3) (by decide) rfl rfl c1 c2 c3 c4
  obtain ⟨d1, d2, d3, d4⟩ := s4
  have s5 := lkS_step h (p := 4) (by decide) rfl rfl d1 d2 d3 d4
  obtain ⟨e1, e2, e3, e4⟩ := s5
  simp at a1 a3 b1 b3 c1 c3 d1 d3 e1 e3
  have a4 : (lkS σ a b 1).2.2 ≤ 1260000 := by have z := a4; simp at z; omega
  have a2 : 1 ≤ (lkS σ a b 1).2.1 := a2
  have b4 : (lkS σ a b 2).2.2 ≤ 1260000 := by have z := b4; simp at z; omega
  have b2 : 1 ≤ (lkS σ a b 2).2.1 := b2
  have c4 : (lkS σ a b 3).2.2 ≤ 1260000 := by have z := c4; simp at z; omega
  have c2 : 1 ≤ (lkS σ a b 3).2.1 := c2
  have d4 : (lkS σ a b 4).2.2 ≤ 1260000 := by have z := d4; simp at z; omega
  have d2 : 1 ≤ (lkS σ a b 4).2.1 := d2
  have e4 : (lkS σ a b 5).2.2 ≤ 1260000 := by have z := e4; simp at z; omega
  have e2 : 1 ≤ (lkS σ a b 5).2.1 := e2
  match p, hp with
  | 0, _ =>
    have e0 : lkS σ a b 0 = (0, 1, 0) := rfl
    rw [e0]
    exact ⟨by decide, by decide, by decide, by decide⟩
  | 1, _ => exact ⟨by omega, a2, by omega, by omega⟩
  | 2, _ => exact ⟨by omega, b2, by omega, by omega⟩
  | 3, _ => exact ⟨by omega, c2, by omega, by omega⟩
  | 4, _ => exact ⟨by omega, d2, by omega, by omega⟩
  | 5, _ => exact ⟨by omega, e2, by omega, by omega⟩
theorem wt_wgt {σ : mxS} {p u d q : Nat} : wgt (su_wt σ p u d) q = if q = p then u * (2520 / d) else wgt σ q := by
  show up1 (st_up σ) p u q * (2520 / up1 (st_dn σ) p d q) = _
  by_cases e : q = p
  · subst e; rw [up1_s, up1_s, if_pos rfl]
  · rw [up1_n e, up1_n e, if_neg e]; rfl
/-- Euclid's way halves the product -/
theorem eu_half {a b : Nat} (h : b ≤ a) (hb : 0 < b) : 2 * (b * (a % b)) ≤ a * b := by
  have h1 : 2 * (a % b) ≤ a := by
    have h2 := Nat.div_add_mod a b
    have h3 := Nat.mod_lt a hb
    have h4 : 1 ≤ a / b := Nat.div_pos h hb
    have h5 : b * 1 ≤ b * (a / b) := Nat.mul_le_mul_left _ h4
    omega
  calc 2 * (b * (a % b)) = b * (2 * (a % b)) := by rw [Nat.mul_left_comm]
    _ ≤ b * a := Nat.mul_le_mul_left _ h1
    _ = a * b := Nat.mul_comm _ _
section SC
variable (l : Launch) (G : mx_G) (base : Nat)
set_option maxRecDepth 20000
theorem c_X4_weigh (h : mx_H) {A : mxA} {σ : mxS} {la ea : Nat → Nat} {mk : Nat → Bool} (c : CI G A h σ la ea mk) {p0 u d : Nat} (hp : p0 < 5) (hu : u ≤ 100) (h1 : 1 ≤ d) (h2 : d ≤ 10) :
    mx_M l G base yX4_weigh cX4_weigh 6 none 0 0 0 0 [.ref (aK A 11), .int (nI p0), .long (lN u), .long (lN d)] h (fun v h' => v = none ∧ CI G A h' (su_wt σ p0 u d) la ea mk ∧ OUT A σ h h') := by
  obtain ⟨⟨sa, sb, sw, a0⟩, ⟨W, b0, b2⟩, ⟨F1, S1, N1, n1, d1⟩, ⟨F2, S2, N2, n2, d2⟩, V, n3, y, f⟩ := c.2.2.2.2.2.2.1
  have hK := c.2.1.1
  refine mx_enter (lo := [some (.ref (aK A 11)), some (.int (nI p0)), some (.long (lN u)), none, some (.long (lN d)), none]) (by decide) (mx_in wd_code_yX4_weigh rfl) (Nat.le_of_ble_eq_true rfl) rfl ?_
  intro p ev s mt args below meth cd C hr hnm
  have C : mx_C p s mt args meth cd cX4_weigh 6 RX4 G base := C
  refine mx_iload_n C dX4_weigh_0 (pc' := 1) rfl rfl ?_
  refine mx_if_lt C dX4_weigh_1 (tgt := 30) (by decide) (pc' := 4) rfl (fun h1b => ?_) (fun h1b => ?_)
  · exact absurd h1b (nI_pos (by omega))
  refine mx_iload_n C dX4_weigh_4 (pc' := 5) rfl rfl ?_
  refine mx_iconst C (v := nI 5) (by decide) dX4_weigh_5 (pc' := 6) rfl ?_
  refine mx_N_ge C dX4_weigh_6 (tgt := 30) (by decide) (pc' := 9) rfl (by omega) (by omega) (fun h6 => ?_) (fun h6 => ?_)
  · exact absurd h6 (by omega)
  refine mx_lload C dX4_weigh_9 (pc' := 11) rfl rfl ?_
  refine mx_lconst C (v := lN 0) (by decide) dX4_weigh_11 (pc' := 12) rfl ?_
  refine mx_lcmp C dX4_weigh_12 (pc' := 13) rfl ?_
  refine mx_LN_le C dX4_weigh_13 (tgt := 30) (by decide) (pc' := 16) rfl (by omega) (by omega) (fun h13 => ?_) (fun h13 => ?_)
  · exact absurd h13 (by omega)
  have hd0 : ¬ lN d = 0 := fun z => absurd ((pk_lEQ (a := d) (b := 0) (by omega) (by decide)).mp z) (by omega)
  first | refine mx_aload_n C dX4_weigh_16 (pc' := 17) rfl rfl ?_ | refine mx_aload_nq C dX4_weigh_16 (pc' := 17) rfl rfl ?_
  refine gX4_9 C dX4_weigh_17 (pc' := 20) rfl (a0) rfl ?_
  refine mx_iload_n C dX4_weigh_20 (pc' := 21) rfl rfl ?_
  refine mx_lload_n C dX4_weigh_21 (pc' := 22) rfl rfl ?_
  refine kX4_15 C dX4_weigh_22 (pc' := 25) rfl ?_
  refine mx_lload C dX4_weigh_25 (pc' := 27) rfl rfl ?_
  refine mx_ldiv C (hd0) dX4_weigh_27 (pc' := 28) rfl ?_
  rw [pk_lDiv (by decide) (by omega) (by omega)]
  refine mx_lmul C dX4_weigh_28 (pc' := 29) rfl ?_
  rw [lN_mul]
  refine mx_last C dX4_weigh_29 (pc' := 30) rfl (b0) (rfl) (hp) (by decide) ?_
  have e : ∀ i, i < 23 → i ≠ 12 → ∀ z, va_up h (aK A 12) z (aK A i) = h (aK A i) := fun i hi hn z => va_up_ne _ _ (hK.ne hi (by decide) hn)
  refine mx_vret C hr dX4_weigh_30 (by omega) (by omega) ⟨rfl, c.lk (fun a ha => va_up_ne _ _ (ha 12 (by decide) (by decide))) ⟨⟨sa, sb, sw, (e 11 (by decide) (by decide) _).trans a0⟩, ⟨_, va_up_self _ _ _, fun q hq => ?_⟩, ⟨F1, S1, N1, n1, d1.kept (e 13 (by decide) (by decide) _) (e 14 (by decide) (by decide) _) (e 15 (by decide) (by decide) _) (e 16 (by decide) (by decide) _)⟩, ⟨F2, S2, N2, n2, d2.kept (e 17 (by decide) (by decide) _) (e 18 (by decide) (by decide) _) (e 19 (by decide) (by decide) _) (e 20 (by decide) (by decide) _)⟩, V, n3, y, f.kept (e 21 (by decide) (by decide) _) (e 22 (by decide) (by decide) _)⟩ (si_wt c.1 hu h1 h2) rfl rfl rfl rfl, OUT.K (fun a ha => va_up_ne _ _ (ha 12 (by decide)))⟩
  rw [wt_wgt]
  by_cases e2 : q = p0
  · subst e2; rw [pk_uLs, if_pos rfl]
  · rw [pk_uLn e2, if_neg e2]; exact b2 q hq
def wtOk (p u d : Int64) : Prop := True
theorem c_X8_weight (h : mx_H) {A : mxA} {σ : mxS} {la ea : Nat → Nat} {mk : Nat → Bool} (c : CI G A h σ la ea mk) {i : Int32} {u d : Int64} :
    mx_M l G base yX8_weight cX8_weight 6 (some .int) 1 25 0 0 [.ref (aK A 0), .int i, .long u, .long d] h (fun v h' => (i < 0 ∨ nI 5 ≤ i ∨ u < lN 0 ∨ lN 100 < u ∨ d < lN 1 ∨ lN 10 < d → v = some (.int (nI 0)) ∧ h = h') ∧ (¬ (i < 0 ∨ nI 5 ≤ i ∨ u < lN 0 ∨ lN 100 < u ∨ d < lN 1 ∨ lN 10 < d) → v = some (.int (nI 1)) ∧ CI G A h' (su_wt σ i.toInt.toNat u.toInt.toNat d.toInt.toNat) la ea mk ∧ OUT A σ h h')) := by
  obtain ⟨⟨sa, sb, sw, a0⟩, -⟩ := c.2.2.2.2.2.2.1
  refine mx_enter (lo := [some (.ref (aK A 0)), some (.int i), some (.long u), none, some (.long d), none]) (by decide) (mx_in wd_code_yX8_weight rfl) (Nat.le_of_ble_eq_true rfl) rfl ?_
  intro p ev s mt args below meth cd C hr hnm
  have C : mx_C p s mt args meth cd cX8_weight 6 RX8 G base := C
  refine mx_iload_n C dX8_weight_0 (pc' := 1) rfl rfl ?_
  refine mx_if_lt C dX8_weight_1 (tgt := 39) (by decide) (pc' := 4) rfl (fun h1 => ?_) (fun h1 => ?_)
  · skip
    refine mx_iconst C (v := nI 0) (by decide) dX8_weight_39 (pc' := 40) rfl ?_
    exact mx_iret C hr dX8_weight_40 (by omega) (by omega) (⟨fun _ => ⟨rfl, rfl⟩, fun z => absurd (Or.inl h1) z⟩)
  refine mx_iload_n C dX8_weight_4 (pc' := 5) rfl rfl ?_
  refine mx_iconst C (v := nI 5) (by decide) dX8_weight_5 (pc' := 6) rfl ?_
  refine mx_icmp_ge C dX8_weight_6 (tgt := 39) (by decide) (pc' := 9) rfl (fun h6 => ?_) (fun h6 => ?_)
  · skip
    refine mx_iconst C (v := nI 0) (by decide) dX8_weight_39 (pc' := 40) rfl ?_
    exact mx_iret C hr dX8_weight_40 (by omega) (by omega) (⟨fun _ => ⟨rfl, rfl⟩, fun z => absurd (Or.inr (Or.inl h6)) z⟩)
  refine mx_lload_n C dX8_weight_9 (pc' := 10) rfl rfl ?_
  refine mx_lconst C (v := lN 0) (by decide) dX8_weight_10 (pc' := 11) rfl ?_
  refine mx_lcmp C dX8_weight_11 (pc' := 12) rfl ?_
  refine mx_L_lt C dX8_weight_12 (tgt := 39) (by decide) (pc' := 15) rfl (fun h12 => ?_) (fun h12 => ?_)
  · skip
    refine mx_iconst C (v := nI 0) (by decide) dX8_weight_39 (pc' := 40) rfl ?_
    exact mx_iret C hr dX8_weight_40 (by omega) (by omega) (⟨fun _ => ⟨rfl, rfl⟩, fun z => absurd (Or.inr (Or.inr (Or.inl h12))) z⟩)
  refine mx_lload_n C dX8_weight_15 (pc' := 16) rfl rfl ?_
  refine kX8_97 C dX8_weight_16 (pc' := 19) rfl ?_
  refine mx_lcmp C dX8_weight_19 (pc' := 20) rfl ?_
  refine mx_L_gt C dX8_weight_20 (tgt := 39) (by decide) (pc' := 23) rfl (fun h20 => ?_) (fun h20 => ?_)
  · skip
    refine mx_iconst C (v := nI 0) (by decide) dX8_weight_39 (pc' := 40) rfl ?_
    exact mx_iret C hr dX8_weight_40 (by omega) (by omega) (⟨fun _ => ⟨rfl, rfl⟩, fun z => absurd (Or.inr (Or.inr (Or.inr (Or.inl h20)))) z⟩)
  refine mx_lload C dX8_weight_23 (pc' := 25) rfl rfl ?_
  refine mx_lconst C (v := lN 1) (by decide) dX8_weight_25 (pc' := 26) rfl ?_
  refine mx_lcmp C dX8_weight_26 (pc' := 27) rfl ?_
  refine mx_L_lt C dX8_weight_27 (tgt := 39) (by decide) (pc' := 30) rfl (fun h27 => ?_) (fun h27 => ?_)
  · skip
    refine mx_iconst C (v := nI 0) (by decide) dX8_weight_39 (pc' := 40) rfl ?_
    exact mx_iret C hr dX8_weight_40 (by omega) (by omega) (⟨fun _ => ⟨rfl, rfl⟩, fun z => absurd (Or.inr (Or.inr (Or.inr (Or.inr (Or.inl h27))))) z⟩)
  refine mx_lload C dX8_weight_30 (pc' := 32) rfl rfl ?_
  refine kX8_99 C dX8_weight_32 (pc' := 35) rfl ?_
  refine mx_lcmp C dX8_weight_35 (pc' := 36) rfl ?_
  refine mx_L_le C dX8_weight_36 (tgt := 41) (by decide) (pc' := 39) rfl (fun h36 => ?_) (fun h36 => ?_)
  rotate_left
  · skip
    refine mx_iconst C (v := nI 0) (by decide) dX8_weight_39 (pc' := 40) rfl ?_
    exact mx_iret C hr dX8_weight_40 (by omega) (by omega) (⟨fun _ => ⟨rfl, rfl⟩, fun z => absurd (Or.inr (Or.inr (Or.inr (Or.inr (Or.inr (Int64.not_le.mp h36)))))) z⟩)
  have hno : ¬ (i < 0 ∨ nI 5 ≤ i ∨ u < lN 0 ∨ lN 100 < u ∨ d < lN 1 ∨ lN 10 < d) := by
    rintro (z | z | z | z | z | z)
    · exact h1 z
    · exact h6 z
    · exact h12 z
    · exact h20 z
    · exact h27 z
    · exact absurd h36 (Int64.not_le.mpr z)
  obtain ⟨j, hj, ej⟩ : ∃ j : Nat, j < 5 ∧ i = nI j := by
    rcases pk_ix i (n := 5) (by decide) with z | z | z
    · exact absurd z h1
    · exact absurd z h6
    · exact z
  have e2 : i.toInt.toNat = j := by rw [ej, nI_toInt (by omega)]; rfl
  obtain ⟨u', hu1, eu⟩ := pk_lOf h12
  have e3 : u.toInt.toNat = u' := by rw [eu, pk_lT (by omega)]; rfl
  have hu2 : u' ≤ 100 := Nat.not_lt.mp (fun z => h20 (by rw [eu]; exact (pk_lLT (by decide) hu1).mpr z))
  obtain ⟨d', hd1, ed⟩ := pk_lOf (x := d) (fun z => h27 (Int64.lt_trans z (by decide)))
  have e4 : d.toInt.toNat = d' := by rw [ed, pk_lT (by omega)]; rfl
  have hd2 : d' ≤ 10 := by rw [ed] at h36; exact (pk_lLE hd1 (by decide)).mp h36
  have hd3 : 1 ≤ d' := Nat.not_lt.mp (fun z => h27 (by rw [ed]; exact (pk_lLT hd1 (by decide)).mpr z))
  rw [e2, e3, e4]
  subst ej; subst eu; subst ed
  first | refine mx_aload_n C dX8_weight_41 (pc' := 42) rfl rfl ?_ | refine mx_aload_nq C dX8_weight_41 (pc' := 42) rfl rfl ?_
  refine gX8_30 C dX8_weight_42 (pc' := 45) rfl (c.2.2.1) rfl ?_
  refine mx_iload_n C dX8_weight_45 (pc' := 46) rfl rfl ?_
  refine mx_lload_n C dX8_weight_46 (pc' := 47) rfl rfl ?_
  refine mx_lload C dX8_weight_47 (pc' := 49) rfl rfl ?_
  refine cX8_101 C dX8_weight_49 (pc' := 52) rfl (a0) (c_X4_weigh l G base h c hj hu2 hd3 hd2) ⟨by decide, by decide, by decide, by decide, Nat.le_of_ble_eq_true rfl⟩ ?_
  rintro _ h9 ⟨rfl, c9, o9⟩
  refine mx_iconst C (v := nI 1) (by decide) dX8_weight_52 (pc' := 53) rfl ?_
  exact mx_iret C hr dX8_weight_53 (by omega) (by omega) (⟨fun z => absurd z hno, fun _ => ⟨rfl, c9, o9⟩⟩)
theorem c_X4_commonDivisor (h : mx_H) {K : Nat → Nat} {x : Nat × Nat × Nat} (hx : LK h K x) (h1 : x.1 < 2 ^ 62) (h2 : 0 < x.2.1 * x.2.2) (h3 : x.2.1 * x.2.2 < 2 ^ 62) :
    mx_M l G base yX4_commonDivisor cX4_commonDivisor 8 (some .long) 1 24 0 0 [.ref (K 11)] h (fun v h' => v = some (.long (lN (Nat.gcd (x.2.1 * x.2.2) x.1))) ∧ h = h') := by
  refine mx_enter (lo := [some (.ref (K 11)), none, none, none, none, none, none, none]) (by decide) (mx_in wd_code_yX4_commonDivisor rfl) (Nat.le_of_ble_eq_true rfl) rfl ?_
  intro p ev s mt args below meth cd C hr hnm
  have C : mx_C p s mt args meth cd cX4_commonDivisor 8 RX4 G base := C
  have loop : ∀ (d i a b : Nat) (o : Option Value), 1000 - i = d → i ≤ 1000 → 0 < a → a < 2 ^ 62 → b < 2 ^ 62 → Nat.gcd a b = Nat.gcd (x.2.1 * x.2.2) x.1 → (1 ≤ i → b ≤ a ∧ a * b * 2 ^ (i - 1) ≤ 2 ^ 124) → mx_V p l ev { frames := 1, cells := 0, slots := 0, locals := 24 } s mt args below meth cd G base 8 (MQ below (mx_Qc G base (fun v h' => v = some (.long (lN (Nat.gcd (x.2.1 * x.2.2) x.1))) ∧ h = h')) args s 0 0 (mx_A base)) h 0 0 18 [some (.ref (K 11)), some (.long (lN a)), none, some (.long (lN b)), none, some (.int (nI i)), o, none] [] := by
    intro d
    induction d using Nat.strongRecOn with
    | ind d ih =>
    intro i a b o hd hi ha ha2 hb2 hg hm
    refine mx_weak (mx_le_keep (mx_le_keep (mx_le_keep (mx_le_keep (mx_le_keep (mx_le_keep (mx_le_drop (mx_le_keep mx_le_nil)))))))) ?_
    have fin : b = 0 → mx_V p l ev { frames := 1, cells := 0, slots := 0, locals := 24 } s mt args below meth cd G base 8 (MQ below (mx_Qc G base (fun v h' => v = some (.long (lN (Nat.gcd (x.2.1 * x.2.2) x.1))) ∧ h = h')) args s 0 0 (mx_A base)) h 0 0 48 [some (.ref (K 11)), some (.long (lN a)), none, some (.long (lN b)), none, some (.int (nI i)), none, none] [] := by
      intro hb0
      have e1 : (if lN a < lN 1 then lN 1 else lN a) = lN (Nat.gcd (x.2.1 * x.2.2) x.1) := by
        rw [if_neg (fun z => absurd ((pk_lLT (by omega) (by decide)).mp z) (by omega)), ← hg, hb0, Nat.gcd_zero_right]
      refine mx_lconst C (v := lN 1) (by decide) dX4_commonDivisor_48 (pc' := 49) rfl ?_
      refine mx_lload_n C dX4_commonDivisor_49 (pc' := 50) rfl rfl ?_
      refine mx_mmaxl C (mx_in wd_m_RX4_109 rfl) dX4_commonDivisor_50 (pc' := 53) rfl ⟨by decide, Nat.le_of_ble_eq_true rfl, by decide, by decide⟩ ?_
      refine mx_topl e1 ?_
      exact mx_lret C hr dX4_commonDivisor_53 (by omega) (by omega) (⟨rfl, rfl⟩)
    refine mx_iload C dX4_commonDivisor_18 (pc' := 20) rfl rfl ?_
    refine mx_sipush C (v := nI 1000) (by decide) dX4_commonDivisor_20 (pc' := 23) rfl ?_
    refine mx_N_ge C dX4_commonDivisor_23 (tgt := 48) (by decide) (pc' := 26) rfl (by omega) (by omega) (fun h23 => ?_) (fun h23 => ?_)
    · refine fin ?_
      obtain ⟨m1, m2⟩ := hm (by omega)
      have e1 : i = 1000 := by omega
      rw [e1] at m2
      by_cases e2 : b = 0
      · exact e2
      · exfalso
        have e3 : 1 ≤ a * b := Nat.mul_pos ha (Nat.pos_of_ne_zero e2)
        have e4 : 1 * 2 ^ 999 ≤ a * b * 2 ^ 999 := Nat.mul_le_mul_right _ e3
        have e5 : (2 : Nat) ^ 124 < 2 ^ 999 := Nat.pow_lt_pow_right (by decide) (by decide)
        omega
    refine mx_lload_n C dX4_commonDivisor_26 (pc' := 27) rfl rfl ?_
    refine mx_lconst C (v := lN 0) (by decide) dX4_commonDivisor_27 (pc' := 28) rfl ?_
    refine mx_lcmp C dX4_commonDivisor_28 (pc' := 29) rfl ?_
    refine mx_LN_eq C dX4_commonDivisor_29 (tgt := 48) (by decide) (pc' := 32) rfl (by omega) (by omega) (fun h29 => ?_) (fun h29 => ?_)
    · exact fin h29
    have hb0 : ¬ lN b = 0 := fun z => h29 ((pk_lEQ (a := b) (b := 0) (by omega) (by decide)).mp z)
    have hlt := Nat.mod_lt a (show 0 < b by omega)
    refine mx_lload_n C dX4_commonDivisor_32 (pc' := 33) rfl rfl ?_
    refine mx_lload_n C dX4_commonDivisor_33 (pc' := 34) rfl rfl ?_
    refine mx_lrem C (hb0) dX4_commonDivisor_34 (pc' := 35) rfl ?_
    rw [pk_lRem (by omega) (by omega) (by omega)]
    refine mx_lstore C dX4_commonDivisor_35 (pc' := 37) rfl (by first | exact mx_c1_0 | exact mx_c1_int rfl | exact mx_c1_ref rfl | exact mx_c1_none rfl | exact mx_c1_rf rfl | exact mx_c1_null rfl) (by decide) (lo' := [_, _, _, _, _, _, _, _]) rfl ?_
    refine mx_lload_n C dX4_commonDivisor_37 (pc' := 38) rfl rfl ?_
    refine mx_lstore_n C dX4_commonDivisor_38 (pc' := 39) rfl (by first | exact mx_c1_0 | exact mx_c1_int rfl | exact mx_c1_ref rfl | exact mx_c1_none rfl | exact mx_c1_rf rfl | exact mx_c1_null rfl) (by decide) (lo' := [_, _, _, _, _, _, _, _]) rfl ?_
    refine mx_lload C dX4_commonDivisor_39 (pc' := 41) rfl rfl ?_
    refine mx_lstore_n C dX4_commonDivisor_41 (pc' := 42) rfl (by first | exact mx_c1_0 | exact mx_c1_int rfl | exact mx_c1_ref rfl | exact mx_c1_none rfl | exact mx_c1_rf rfl | exact mx_c1_null rfl) (by decide) (lo' := [_, _, _, _, _, _, _, _]) rfl ?_
    refine mx_iinc C dX4_commonDivisor_42 (pc' := 45) rfl rfl (mx_inc _) (by first | exact mx_c1_0 | exact mx_c1_int rfl | exact mx_c1_ref rfl | exact mx_c1_none rfl | exact mx_c1_rf rfl | exact mx_c1_null rfl) (by decide) (lo' := [_, _, _, _, _, _, _, _]) rfl ?_
    refine mx_goto C dX4_commonDivisor_45 (tgt := 18) (by decide) ?_
    refine ih _ (by omega) (i + 1) b (a % b) _ rfl (by omega) (by omega) hb2 (by omega) ?_ (fun _ => ⟨by omega, ?_⟩)
    · rw [← hg, Nat.gcd_comm b (a % b), Nat.gcd_comm a b, ← Nat.gcd_rec]
    · by_cases e2 : i = 0
      · subst e2
        show b * (a % b) * 2 ^ 0 ≤ 2 ^ 124
        rw [Nat.pow_zero, Nat.mul_one]
        have : b * (a % b) ≤ 2 ^ 62 * 2 ^ 62 := Nat.mul_le_mul (by omega) (by omega)
        rw [← Nat.pow_add] at this
        exact this
      · obtain ⟨m1, m2⟩ := hm (by omega)
        have e3 := eu_half m1 (show 0 < b by omega)
        show b * (a % b) * 2 ^ i ≤ 2 ^ 124
        have e4 : (2 : Nat) ^ i = 2 * 2 ^ (i - 1) := by rw [← Nat.pow_succ']; exact congrArg _ (by omega)
        rw [e4]
        calc b * (a % b) * (2 * 2 ^ (i - 1)) = 2 * (b * (a % b)) * 2 ^ (i - 1) := by rw [← Nat.mul_assoc, Nat.mul_comm (b * (a % b)) 2]
          _ ≤ a * b * 2 ^ (i - 1) := Nat.mul_le_mul_right _ e3
          _ ≤ 2 ^ 124 := m2
  first | refine mx_aload_n C dX4_commonDivisor_0 (pc' := 1) rfl rfl ?_ | refine mx_aload_nq C dX4_commonDivisor_0 (pc' := 1) rfl rfl ?_
  refine gX4_38 C dX4_commonDivisor_1 (pc' := 4) rfl (hx) rfl ?_
  first | refine mx_aload_n C dX4_commonDivisor_4 (pc' := 5) rfl rfl ?_ | refine mx_aload_nq C dX4_commonDivisor_4 (pc' := 5) rfl rfl ?_
  refine gX4_41 C dX4_commonDivisor_5 (pc' := 8) rfl (hx) rfl ?_
  refine mx_lmul C dX4_commonDivisor_8 (pc' := 9) rfl ?_
  rw [lN_mul]
  refine mx_lstore_n C dX4_commonDivisor_9 (pc' := 10) rfl (by first | exact mx_c1_0 | exact mx_c1_int rfl | exact mx_c1_ref rfl | exact mx_c1_none rfl | exact mx_c1_rf rfl | exact mx_c1_null rfl) (by decide) (lo' := [_, _, _, _, _, _, _, _]) rfl ?_
  first | refine mx_aload_n C dX4_commonDivisor_10 (pc' := 11) rfl rfl ?_ | refine mx_aload_nq C dX4_commonDivisor_10 (pc' := 11) rfl rfl ?_
  refine gX4_34 C dX4_commonDivisor_11 (pc' := 14) rfl (hx) rfl ?_
  refine mx_lstore_n C dX4_commonDivisor_14 (pc' := 15) rfl (by first | exact mx_c1_0 | exact mx_c1_int rfl | exact mx_c1_ref rfl | exact mx_c1_none rfl | exact mx_c1_rf rfl | exact mx_c1_null rfl) (by decide) (lo' := [_, _, _, _, _, _, _, _]) rfl ?_
  refine mx_iconst C (v := nI 0) (by decide) dX4_commonDivisor_15 (pc' := 16) rfl ?_
  refine mx_istore C dX4_commonDivisor_16 (pc' := 18) rfl (by first | exact mx_c1_0 | exact mx_c1_int rfl | exact mx_c1_ref rfl | exact mx_c1_none rfl | exact mx_c1_rf rfl | exact mx_c1_null rfl) (by decide) (lo' := [_, _, _, _, _, _, _, _]) rfl ?_
  exact loop _ 0 _ _ none rfl (by omega) h2 h3 h1 rfl (fun z => absurd z (by omega))
theorem c_X4_above (h : mx_H) {K : Nat → Nat} {x : Nat × Nat × Nat} (hx : LK h K x) (h1 : x.1 < 2 ^ 62) (h2 : 0 < x.2.1 * x.2.2) (h3 : x.2.1 * x.2.2 < 2 ^ 62) :
    mx_M l G base yX4_above cX4_above 1 (some .long) 2 51 0 0 [.ref (K 11)] h (fun v h' => v = some (.long (lN (x.1 / Nat.gcd (x.2.1 * x.2.2) x.1))) ∧ h = h') := by
  have g1 : 0 < Nat.gcd (x.2.1 * x.2.2) x.1 := Nat.gcd_pos_of_pos_left _ h2
  have g2 : Nat.gcd (x.2.1 * x.2.2) x.1 ≤ x.2.1 * x.2.2 := Nat.gcd_le_left _ h2
  have g3 : ¬ lN (Nat.gcd (x.2.1 * x.2.2) x.1) = 0 := fun z => absurd ((pk_lEQ (b := 0) (by omega) (by decide)).mp z) (by omega)
  refine mx_enter (lo := [some (.ref (K 11))]) (by decide) (mx_in wd_code_yX4_above rfl) (Nat.le_of_ble_eq_true rfl) rfl ?_
  intro p ev s mt args below meth cd C hr hnm
  have C : mx_C p s mt args meth cd cX4_above 1 RX4 G base := C
  first | refine mx_aload_n C dX4_above_0 (pc' := 1) rfl rfl ?_ | refine mx_aload_nq C dX4_above_0 (pc' := 1) rfl rfl ?_
  refine gX4_34 C dX4_above_1 (pc' := 4) rfl (hx) rfl ?_
  first | refine mx_aload_n C dX4_above_4 (pc' := 5) rfl rfl ?_ | refine mx_aload_nq C dX4_above_4 (pc' := 5) rfl rfl ?_
  refine cX4_67 C dX4_above_5 (pc' := 8) rfl (hx) (c_X4_commonDivisor l G base h hx h1 h2 h3) ⟨by decide, by decide, by decide, by decide, Nat.le_of_ble_eq_true rfl⟩ ?_
  rintro _ _ ⟨rfl, rfl⟩
  refine mx_ldiv C (g3) dX4_above_8 (pc' := 9) rfl ?_
  refine mx_topl (pk_lDiv (by omega) g1 (by omega)) ?_
  exact mx_lret C hr dX4_above_9 (by omega) (by omega) (⟨rfl, rfl⟩)
theorem c_X4_below (h : mx_H) {K : Nat → Nat} {x : Nat × Nat × Nat} (hx : LK h K x) (h1 : x.1 < 2 ^ 62) (h2 : 0 < x.2.1 * x.2.2) (h3 : x.2.1 * x.2.2 < 2 ^ 62) :
    mx_M l G base yX4_below cX4_below 1 (some .long) 2 51 0 0 [.ref (K 11)] h (fun v h' => v = some (.long (lN (x.2.1 * x.2.2 / Nat.gcd (x.2.1 * x.2.2) x.1))) ∧ h = h') := by
  have g1 : 0 < Nat.gcd (x.2.1 * x.2.2) x.1 := Nat.gcd_pos_of_pos_left _ h2
  have g2 : Nat.gcd (x.2.1 * x.2.2) x.1 ≤ x.2.1 * x.2.2 := Nat.gcd_le_left _ h2
  have g3 : ¬ lN (Nat.gcd (x.2.1 * x.2.2) x.1) = 0 := fun z => absurd ((pk_lEQ (b := 0) (by omega) (by decide)).mp z) (by omega)
  refine mx_enter (lo := [some (.ref (K 11))]) (by decide) (mx_in wd_code_yX4_below rfl) (Nat.le_of_ble_eq_true rfl) rfl ?_
  intro p ev s mt args below meth cd C hr hnm
  have C : mx_C p s mt args meth cd cX4_below 1 RX4 G base := C
  first | refine mx_aload_n C dX4_below_0 (pc' := 1) rfl rfl ?_ | refine mx_aload_nq C dX4_below_0 (pc' := 1) rfl rfl ?_
  refine gX4_38 C dX4_below_1 (pc' := 4) rfl (hx) rfl ?_
  first | refine mx_aload_n C dX4_below_4 (pc' := 5) rfl rfl ?_ | refine mx_aload_nq C dX4_below_4 (pc' := 5) rfl rfl ?_
  refine gX4_41 C dX4_below_5 (pc' := 8) rfl (hx) rfl ?_
  refine mx_lmul C dX4_below_8 (pc' := 9) rfl ?_
  rw [lN_mul]
  first | refine mx_aload_n C dX4_below_9 (pc' := 10) rfl rfl ?_ | refine mx_aload_nq C dX4_below_9 (pc' := 10) rfl rfl ?_
  refine cX4_67 C dX4_below_10 (pc' := 13) rfl (hx) (c_X4_commonDivisor l G base h hx h1 h2 h3) ⟨by decide, by decide, by decide, by decide, Nat.le_of_ble_eq_true rfl⟩ ?_
  rintro _ _ ⟨rfl, rfl⟩
  refine mx_ldiv C (g3) dX4_below_13 (pc' := 14) rfl ?_
  refine mx_topl (pk_lDiv (by omega) g1 (by omega)) ?_
  exact mx_lret C hr dX4_below_14 (by omega) (by omega) (⟨rfl, rfl⟩)
end SC
