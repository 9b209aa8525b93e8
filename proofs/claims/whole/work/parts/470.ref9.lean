/-! the reference: likeness, divisor, score -/
/-- a part's likeness, as the reference has it -/
def pfR (p : Nat) (t : Nat → Nat) (n : Nat) (t2 : Nat → Nat) (n2 : Nat) : Nat × Nat := if 4 ≤ p ∧ nm t n = nm t2 n2 ∧ nm t n ≠ 0 then (nm t n, nm t n) else pfC p t n t2 n2
theorem pfR_le {p : Nat} {t t2 : Nat → Nat} {n n2 : Nat} (h : n ≤ 60) (h2 : n2 ≤ 60) : (pfR p t n t2 n2).1 ≤ (if p = 0 then 30 else if p ≤ 3 then 2 else 9999) ∧ 1 ≤ (pfR p t n t2 n2).2 ∧ (pfR p t n t2 n2).2 ≤ (if p = 0 then 60 else if p ≤ 3 then 2 else 9999) := by
  unfold pfR
  split
  · rename_i e
    have := nm_lt t n
    rw [if_neg (by omega), if_neg (by omega), if_neg (by omega)]
    show nm t n ≤ 9999 ∧ 1 ≤ nm t n ∧ nm t n ≤ 9999
    omega
  · exact pfC_le h h2
def rkS (σ : mxS) (a b : Nat) : Nat → Nat × Nat × Nat
  | 0 => (0, 1, 0)
  | p + 1 => if fiT σ a p ≠ 0 ∧ fiT σ b p ≠ 0 then lad (rkS σ a b p) (pfR p (st_sg σ (fiT σ a p)) (st_sz σ (fiT σ a p)) (st_sg σ (fiT σ b p)) (st_sz σ (fiT σ b p))) (wgt σ p) else rkS σ a b p
theorem rkS_step {σ : mxS} (h : si σ) {a b p A B C U D : Nat} (hp : p < 5) (hU : U = (if p = 0 then 30 else if p ≤ 3 then 2 else 9999)) (hD : D = (if p = 0 then 60 else if p ≤ 3 then 2 else 9999)) (h1 : (rkS σ a b p).1 ≤ A) (h2 : 1 ≤ (rkS σ a b p).2.1) (h3 : (rkS σ a b p).2.1 ≤ B) (h4 : (rkS σ a b p).2.2 ≤ C) : (rkS σ a b (p + 1)).1 ≤ A * D + B * U * 252000 ∧ 1 ≤ (rkS σ a b (p + 1)).2.1 ∧ (rkS σ a b (p + 1)).2.1 ≤ B * D ∧ (rkS σ a b (p + 1)).2.2 ≤ C + 252000 := by
  have hD1 : 1 ≤ D := by rw [hD]; split; omega; split <;> omega
  simp only [rkS]
  split
  · rename_i e
    obtain ⟨x1, x2, -⟩ := fiT_in e.1
    obtain ⟨y1, y2, -⟩ := fiT_in e.2
    obtain ⟨b1, b2, b3⟩ := pfR_le (p := p) (t := st_sg σ (fiT σ a p)) (t2 := st_sg σ (fiT σ b p)) (h.2.2.2.2.2.1.1 _ x1 x2).2.2.2.1 (h.2.2.2.2.2.1.1 _ y1 y2).2.2.2.1
    rw [← hU] at b1
    rw [← hD] at b3
    exact lad_le h1 h2 h3 h4 b1 b2 b3 (wgt_le h hp)
  · refine ⟨?_, h2, ?_, by omega⟩
    · have : A * 1 ≤ A * D := Nat.mul_le_mul_left _ hD1
      omega
    · have : B * 1 ≤ B * D := Nat.mul_le_mul_left _ hD1
      omega
theorem rkS_le {σ : mxS} (h : si σ) {a b p : Nat} (hp : p ≤ 5) : (rkS σ a b p).1 ≤ 6000000000000 ∧ 1 ≤ (rkS σ a b p).2.1 ∧ (rkS σ a b p).2.1 ≤ 4799520 ∧ (rkS σ a b p).2.2 ≤ 1260000 := by
  have s1 := rkS_step h (a := a) (b := b) (p := 0) (A := 0) (B := 1) (C := 0) (by decide) rfl rfl (Nat.le_refl _) (Nat.le_refl _) (Nat.le_refl _) (Nat.le_refl _)
  obtain ⟨a1, a2, a3, a4⟩ := s1
  have s2 := rkS_step h (p := 1) (by decide) rfl rfl a1 a2 a3 a4
  obtain ⟨b1, b2, b3, b4⟩ := s2
  have s3 := rkS_step h (p := 2) (by decide) rfl rfl b1 b2 b3 b4
  obtain ⟨c1, c2, c3, c4⟩ := s3
  have s4 := rkS_step h (p := 3) (by decide) rfl rfl c1 c2 c3 c4
  obtain ⟨d1, d2, d3, d4⟩ := s4
  have s5 := rkS_step h (p := 4) (by decide) rfl rfl d1 d2 d3 d4
  obtain ⟨e1, e2, e3, e4⟩ := s5
  simp at a1 a3 b1 b3 c1 c3 d1 d3 e1 e3
  have a4 : (rkS σ a b 1).2.2 ≤ 1260000 := by have z := a4; simp at z; omega
  have a2 : 1 ≤ (rkS σ a b 1).2.1 := a2
  have b4 : (rkS σ a b 2).2.2 ≤ 1260000 := by have z := b4; simp at z; omega
  have b2 : 1 ≤ (rkS σ a b 2).2.1 := b2
  have c4 : (rkS σ a b 3).2.2 ≤ 1260000 := by have z := c4; simp at z; omega
  have c2 : 1 ≤ (rkS σ a b 3).2.1 := c2
  have d4 : (rkS σ a b 4).2.2 ≤ 1260000 := by have z := d4; simp at z; omega
  have d2 : 1 ≤ (rkS σ a b 4).2.1 := d2
  have e4 : (rkS σ a b 5).2.2 ≤ 1260000 := by have z := e4; simp at z; omega
  have e2 : 1 ≤ (rkS σ a b 5).2.1 := e2
  match p, hp with
  | 0, _ =>
    have e0 : rkS σ a b 0 = (0, 1, 0) := rfl
    rw [e0]
    exact ⟨by decide, by decide, by decide, by decide⟩
  | 1, _ => exact ⟨by omega, a2, by omega, by omega⟩
  | 2, _ => exact ⟨by omega, b2, by omega, by omega⟩
  | 3, _ => exact ⟨by omega, c2, by omega, by omega⟩
  | 4, _ => exact ⟨by omega, d2, by omega, by omega⟩
  | 5, _ => exact ⟨by omega, e2, by omega, by omega⟩
theorem rkS_4 {σ : mxS} {a b p : Nat} (hp : p ≤ 4) : rkS σ a b p = lkS σ a b p := by
  induction p with
  | zero => rfl
  | succ p ih =>
    simp only [rkS, lkS]
    rw [ih (by omega)]
    have e : ∀ t n t2 n2, pfR p t n t2 n2 = pfC p t n t2 n2 := fun t n t2 n2 => if_neg (fun z => absurd z.1 (by omega))
    rw [e]
theorem rkS_5 {σ : mxS} {a b : Nat} : ∃ c, 1 ≤ c ∧ (rkS σ a b 5).1 = c * (lkS σ a b 5).1 ∧ (rkS σ a b 5).2.1 = c * (lkS σ a b 5).2.1 ∧ (rkS σ a b 5).2.2 = (lkS σ a b 5).2.2 := by
  show ∃ c, 1 ≤ c ∧ (rkS σ a b (4 + 1)).1 = c * (lkS σ a b (4 + 1)).1 ∧ (rkS σ a b (4 + 1)).2.1 = c * (lkS σ a b (4 + 1)).2.1 ∧ (rkS σ a b (4 + 1)).2.2 = (lkS σ a b (4 + 1)).2.2
  simp only [rkS, lkS]
  have e4 : rkS σ a b 4 = lkS σ a b 4 := rkS_4 (Nat.le_refl _)
  simp only [rkS, lkS] at e4
  rw [e4]
  split
  · generalize st_sg σ (fiT σ a 4) = t
    generalize st_sz σ (fiT σ a 4) = n
    generalize st_sg σ (fiT σ b 4) = t2
    generalize st_sz σ (fiT σ b 4) = n2
    by_cases e : nm t n = nm t2 n2 ∧ nm t n ≠ 0
    · have e1 : pfR 4 t n t2 n2 = (nm t n, nm t n) := if_pos ⟨Nat.le_refl _, e⟩
      have e2 : pfC 4 t n t2 n2 = (1, 1) := by
        unfold pfC
        rw [if_neg (by decide), if_neg (by decide), if_neg (by decide), if_neg (by decide), if_pos e.1]
      refine ⟨nm t n, by omega, ?_, ?_, ?_⟩
      · rw [e1, e2]
        unfold lad
        simp only [Nat.mul_one, Nat.mul_add]
        rw [Nat.mul_comm (nm t n), ← Nat.mul_assoc, Nat.mul_comm (nm t n)]
      · rw [e1, e2]
        unfold lad
        simp only [Nat.mul_one]
        rw [Nat.mul_comm]
      · rw [e1, e2]; rfl
    · have e1 : pfR 4 t n t2 n2 = pfC 4 t n t2 n2 := if_neg (fun z => e z.2)
      rw [e1]
      exact ⟨1, Nat.le_refl _, (Nat.one_mul _).symm, (Nat.one_mul _).symm, rfl⟩
  · exact ⟨1, Nat.le_refl _, (Nat.one_mul _).symm, (Nat.one_mul _).symm, rfl⟩
theorem bfL_eq {t t2 : Nat → Nat} {n n2 : Nat} : bfL (bform t n) = bfL (bform t2 n2) ↔ bform t n = bform t2 n2 := by
  constructor
  · intro h
    cases h1 : bform t n with
    | none =>
      rw [h1] at h
      exact (bfL_none.mp h.symm).symm
    | some u =>
      cases h2 : bform t2 n2 with
      | none =>
        rw [h2] at h
        have := bfL_none.mp h
        rw [h1] at this; cases this
      | some w =>
        rw [h1, h2] at h
        have a1 := bform_lt h1
        have a2 := bform_lt h2
        rw [(pk_lEQ (a := u) (b := w) (by omega) (by omega)).mp h]
  · intro h; rw [h]
theorem sub1 {a b : Nat} (ha : a < 10000) (hb : b < 10000) : nI a - nI b = nI 1 ↔ a = b + 1 := by
  constructor
  · intro h
    have := congrArg Int32.toInt h
    rw [pk_sub_toInt (by omega) (by omega), nI_toInt (by decide)] at this
    omega
  · intro h
    rw [h, pk_sub (by omega)]
    exact congrArg nI (by omega)
theorem tI_tO (t : Nat → Nat) (n : Nat) (t2 : Nat → Nat) (n2 : Nat) : tI t n t2 n2 ≤ tO t n t2 n2 := by
  have h1 := tI_le t n t2 n2
  have h2 := tI_le t2 n2 t n
  rw [tI_comm] at h2
  unfold tO
  omega
section R9
variable (l : Launch) (G : mx_G) (base : Nat)
set_option maxRecDepth 20000
theorem c_X9_likeness (h : mx_H) {P : Nat → Nat} {σ : mxS} {th kc : Int32} {pu pd : Int64} (m : MI G P h σ th kc pu pd) {q f g : Nat} (hq : q < 5) (f1 : 1 ≤ f) (f2 : f ≤ st_k σ) (g1 : 1 ≤ g) (g2 : g ≤ st_k σ) {t t2 : Nat → Nat} {n n2 : Nat} (et : st_sg σ f = t) (en : st_sz σ f = n) (et2 : st_sg σ g = t2) (en2 : st_sz σ g = n2) : mx_M l G base yX9_likeness cX9_likeness 6 none 4 96 0 0 [.ref (P 0), .int (nI q), .int (nI f), .int (nI g)] h (fun v h' => v = none ∧ MI G P h' σ th kc (lN (pfR q t n t2 n2).1) (lN (pfR q t n t2 n2).2) ∧ OUM P h h') := by
  have nf := nm_lt t n
  have ng := nm_lt t2 n2
  have hn1 := c_X9_number l G base h m f1 f2
  have hn2 := c_X9_number l G base h m g1 g2
  rw [et, en] at hn1
  rw [et2, en2] at hn2
  refine mx_enter (lo := [some (.ref (P 0)), some (.int (nI q)), some (.int (nI f)), some (.int (nI g)), none, none]) (by decide) (mx_in wd_code_yX9_likeness rfl) (Nat.le_of_ble_eq_true rfl) rfl ?_
  intro p ev s mt args below meth cd C hr hnm
  have C : mx_C p s mt args meth cd cX9_likeness 6 RX9 G base := C
  first | refine mx_aload_n C dX9_likeness_0 (pc' := 1) rfl rfl ?_ | refine mx_aload_nq C dX9_likeness_0 (pc' := 1) rfl rfl ?_
  refine mx_iload_n C dX9_likeness_1 (pc' := 2) rfl rfl ?_
  refine cX9_150 C dX9_likeness_2 (pc' := 5) rfl (m.2.2.1) (hn1) ⟨by decide, by decide, by decide, by decide, Nat.le_of_ble_eq_true rfl⟩ ?_
  rintro _ _ ⟨rfl, rfl⟩
  refine mx_istore C dX9_likeness_5 (pc' := 7) rfl (by first | exact mx_c1_0 | exact mx_c1_int rfl | exact mx_c1_ref rfl | exact mx_c1_none rfl | exact mx_c1_rf rfl | exact mx_c1_null rfl) (by decide) (lo' := [_, _, _, _, _, _]) rfl ?_
  first | refine mx_aload_n C dX9_likeness_7 (pc' := 8) rfl rfl ?_ | refine mx_aload_nq C dX9_likeness_7 (pc' := 8) rfl rfl ?_
  refine mx_iload_n C dX9_likeness_8 (pc' := 9) rfl rfl ?_
  refine cX9_150 C dX9_likeness_9 (pc' := 12) rfl (m.2.2.1) (hn2) ⟨by decide, by decide, by decide, by decide, Nat.le_of_ble_eq_true rfl⟩ ?_
  rintro _ _ ⟨rfl, rfl⟩
  refine mx_istore C dX9_likeness_12 (pc' := 14) rfl (by first | exact mx_c1_0 | exact mx_c1_int rfl | exact mx_c1_ref rfl | exact mx_c1_none rfl | exact mx_c1_rf rfl | exact mx_c1_null rfl) (by decide) (lo' := [_, _, _, _, _, _]) rfl ?_
  first | refine mx_aload_n C dX9_likeness_14 (pc' := 15) rfl rfl ?_ | refine mx_aload_nq C dX9_likeness_14 (pc' := 15) rfl rfl ?_
  refine mx_lconst C (v := lN 0) (by decide) dX9_likeness_15 (pc' := 16) rfl ?_
  refine pX9_143 C dX9_likeness_16 (pc' := 19) rfl (m.2.2.1) (Nat.le_of_ble_eq_true rfl) rfl rfl (fs' := [_, _, _, _, _, _, _, _, _, _, _, _, _, _, _, _, _, _, _, _, _, _, _, _, _]) rfl ?_
  refine mx_heap (h' := va_up h (P 0) (some (.inr (9, mm P σ th kc (lN 0) pd)))) rfl ?_
  have m1 := m.p0 th kc (lN 0) pd
  first | refine mx_aload_n C dX9_likeness_19 (pc' := 20) rfl rfl ?_ | refine mx_aload_nq C dX9_likeness_19 (pc' := 20) rfl rfl ?_
  refine mx_lconst C (v := lN 1) (by decide) dX9_likeness_20 (pc' := 21) rfl ?_
  refine pX9_147 C dX9_likeness_21 (pc' := 24) rfl (m1.2.2.1) (Nat.le_of_ble_eq_true rfl) rfl rfl (fs' := [_, _, _, _, _, _, _, _, _, _, _, _, _, _, _, _, _, _, _, _, _, _, _, _, _]) rfl ?_
  refine mx_heap (bx_uu _ _ _ _) ?_
  refine mx_heap (h' := va_up h (P 0) (some (.inr (9, mm P σ th kc (lN 0) (lN 1))))) rfl ?_
  have m2 := m.p0 th kc (lN 0) (lN 1)
  have ho2 : OUM P h (va_up h (P 0) (some (.inr (9, mm P σ th kc (lN 0) (lN 1))))) := OUM.up (by decide)
  generalize va_up h (P 0) (some (.inr (9, mm P σ th kc (lN 0) (lN 1)))) = h2 at *
  have m3 := m2.2.2.1
  refine mx_iload_n C dX9_likeness_24 (pc' := 25) rfl rfl ?_
  match q, hq with
  | 0, _ =>
    refine mx_tabIn C dX9_likeness_25 (by decide) (by decide) (off := 31) (by decide) (tgt := 56) (by decide) ?_
    have e1 : pfR 0 t n t2 n2 = (tI t n t2 n2, if tO t n t2 n2 = 0 then 1 else tO t n t2 n2) := by
      have e2 : pfR 0 t n t2 n2 = pfC 0 t n t2 n2 := if_neg (fun z => absurd z.1 (by decide))
      have := tI_tO t n t2 n2
      rw [e2]
      unfold pfC
      rw [if_pos rfl]
      by_cases e3 : tO t n t2 n2 = 0
      · rw [if_pos e3, if_pos e3, show tI t n t2 n2 = 0 by omega]
      · rw [if_neg e3, if_neg e3]
    rw [e1]
    first | refine mx_aload_n C dX9_likeness_56 (pc' := 57) rfl rfl ?_ | refine mx_aload_nq C dX9_likeness_56 (pc' := 57) rfl rfl ?_
    refine mx_iload_n C dX9_likeness_57 (pc' := 58) rfl rfl ?_
    refine mx_iload_n C dX9_likeness_58 (pc' := 59) rfl rfl ?_
    refine cX9_153 C dX9_likeness_59 (pc' := 62) rfl (m3) (c_X9_title l G base h2 m2 f1 f2 g1 g2 et en et2 en2) ⟨by decide, by decide, by decide, by decide, Nat.le_of_ble_eq_true rfl⟩ ?_
    rintro _ h9 ⟨rfl, m9, o9⟩
    refine mx_goto C dX9_likeness_62 (tgt := 242) (by decide) ?_
    exact mx_vret C hr dX9_likeness_242 (by omega) (by omega) (⟨rfl, m9, ho2.tr o9⟩)
  | 1, _ =>
    refine mx_tabIn C dX9_likeness_25 (by decide) (by decide) (off := 40) (by decide) (tgt := 65) (by decide) ?_
    have e1 : pfR 1 t n t2 n2 = ((if nm t n = nm t2 n2 then 2 else if nm t n = nm t2 n2 + 1 ∨ nm t2 n2 = nm t n + 1 then 1 else 0), 2) := if_neg (fun z => absurd z.1 (by decide))
    rw [e1]
    have k102 : ∀ u : Nat, u = (if nm t n = nm t2 n2 then 2 else if nm t n = nm t2 n2 + 1 ∨ nm t2 n2 = nm t n + 1 then 1 else 0) → mx_V p l ev { frames := 4, cells := 0, slots := 0, locals := 96 } s mt args below meth cd G base 6 (MQ below (mx_Qc G base (fun v h' => v = none ∧ MI G P h' σ th kc (lN (if nm t n = nm t2 n2 then 2 else if nm t n = nm t2 n2 + 1 ∨ nm t2 n2 = nm t n + 1 then 1 else 0)) (lN 2) ∧ OUM P h h')) args s 0 0 (mx_A base)) h2 0 0 102 [some (.ref (P 0)), some (.int (nI 1)), some (.int (nI f)), some (.int (nI g)), some (.int (nI (nm t n))), some (.int (nI (nm t2 n2)))] [.long (lN u), .ref (P 0)] := by
      intro u hu
      rw [← hu]
      refine pX9_143 C dX9_likeness_102 (pc' := 105) rfl (m3) (Nat.le_of_ble_eq_true rfl) rfl rfl (fs' := [_, _, _, _, _, _, _, _, _, _, _, _, _, _, _, _, _, _, _, _, _, _, _, _, _]) rfl ?_
      refine mx_heap (h' := va_up h2 (P 0) (some (.inr (9, mm P σ th kc (lN u) (lN 1))))) rfl ?_
      have m4 := m2.p0 th kc (lN u) (lN 1)
      first | refine mx_aload_n C dX9_likeness_105 (pc' := 106) rfl rfl ?_ | refine mx_aload_nq C dX9_likeness_105 (pc' := 106) rfl rfl ?_
      refine kX9_157 C dX9_likeness_106 (pc' := 109) rfl ?_
      refine pX9_147 C dX9_likeness_109 (pc' := 112) rfl (m4.2.2.1) (Nat.le_of_ble_eq_true rfl) rfl rfl (fs' := [_, _, _, _, _, _, _, _, _, _, _, _, _, _, _, _, _, _, _, _, _, _, _, _, _]) rfl ?_
      refine mx_heap (bx_uu _ _ _ _) ?_
      refine mx_goto C dX9_likeness_112 (tgt := 242) (by decide) ?_
      exact mx_vret C hr dX9_likeness_242 (by omega) (by omega) (⟨rfl, m2.p0 th kc (lN u) (lN 2), ho2.tr (OUM.up (by decide))⟩)
    first | refine mx_aload_n C dX9_likeness_65 (pc' := 66) rfl rfl ?_ | refine mx_aload_nq C dX9_likeness_65 (pc' := 66) rfl rfl ?_
    refine mx_iload C dX9_likeness_66 (pc' := 68) rfl rfl ?_
    refine mx_iload C dX9_likeness_68 (pc' := 70) rfl rfl ?_
    refine mx_N_ne C dX9_likeness_70 (tgt := 79) (by decide) (pc' := 73) rfl (by omega) (by omega) (fun c1 => ?_) (fun c1 => ?_)
    rotate_left
    · skip
      refine kX9_157 C dX9_likeness_73 (pc' := 76) rfl ?_
      refine mx_goto C dX9_likeness_76 (tgt := 102) (by decide) ?_
      exact k102 2 (by rw [if_pos c1])
    have q1 := sub1 nf ng
    have q2 := sub1 ng nf
    refine mx_iload C dX9_likeness_79 (pc' := 81) rfl rfl ?_
    refine mx_iload C dX9_likeness_81 (pc' := 83) rfl rfl ?_
    refine mx_isub C dX9_likeness_83 (pc' := 84) rfl ?_
    refine mx_iconst C (v := nI 1) (by decide) dX9_likeness_84 (pc' := 85) rfl ?_
    refine mx_icmp_eq C dX9_likeness_85 (tgt := 97) (by decide) (pc' := 88) rfl (fun c2 => ?_) (fun c2 => ?_)
    · skip
      refine mx_lconst C (v := lN 1) (by decide) dX9_likeness_97 (pc' := 98) rfl ?_
      refine mx_goto C dX9_likeness_98 (tgt := 102) (by decide) ?_
      exact k102 1 (by rw [if_neg c1, if_pos (Or.inl (q1.mp c2))])
    refine mx_iload C dX9_likeness_88 (pc' := 90) rfl rfl ?_
    refine mx_iload C dX9_likeness_90 (pc' := 92) rfl rfl ?_
    refine mx_isub C dX9_likeness_92 (pc' := 93) rfl ?_
    refine mx_iconst C (v := nI 1) (by decide) dX9_likeness_93 (pc' := 94) rfl ?_
    refine mx_icmp_ne C dX9_likeness_94 (tgt := 101) (by decide) (pc' := 97) rfl (fun c3 => ?_) (fun c3 => ?_)
    · skip
      refine mx_lconst C (v := lN 0) (by decide) dX9_likeness_101 (pc' := 102) rfl ?_
      exact k102 0 (by rw [if_neg c1, if_neg]; rintro (z | z); exact c2 (q1.mpr z); exact c3 (q2.mpr z))
    · skip
      refine mx_lconst C (v := lN 1) (by decide) dX9_likeness_97 (pc' := 98) rfl ?_
      refine mx_goto C dX9_likeness_98 (tgt := 102) (by decide) ?_
      exact k102 1 (by rw [if_neg c1, if_pos (Or.inr (q2.mp c3))])
  | 2, _ =>
    refine mx_tabIn C dX9_likeness_25 (by decide) (by decide) (off := 90) (by decide) (tgt := 115) (by decide) ?_
    have e1 : pfR 2 t n t2 n2 = ((if bform t n ≠ none ∧ bform t n = bform t2 n2 then 1 else 0), 1) := if_neg (fun z => absurd z.1 (by decide))
    rw [e1]
    have k147 : ∀ u : Nat, u = (if bform t n ≠ none ∧ bform t n = bform t2 n2 then 1 else 0) → mx_V p l ev { frames := 4, cells := 0, slots := 0, locals := 96 } s mt args below meth cd G base 6 (MQ below (mx_Qc G base (fun v h' => v = none ∧ MI G P h' σ th kc (lN (if bform t n ≠ none ∧ bform t n = bform t2 n2 then 1 else 0)) (lN 1) ∧ OUM P h h')) args s 0 0 (mx_A base)) h2 0 0 147 [some (.ref (P 0)), some (.int (nI 2)), some (.int (nI f)), some (.int (nI g)), some (.int (nI (nm t n))), some (.int (nI (nm t2 n2)))] [.long (lN u), .ref (P 0)] := by
      intro u hu
      rw [← hu]
      refine pX9_143 C dX9_likeness_147 (pc' := 150) rfl (m3) (Nat.le_of_ble_eq_true rfl) rfl rfl (fs' := [_, _, _, _, _, _, _, _, _, _, _, _, _, _, _, _, _, _, _, _, _, _, _, _, _]) rfl ?_
      refine mx_goto C dX9_likeness_150 (tgt := 242) (by decide) ?_
      exact mx_vret C hr dX9_likeness_242 (by omega) (by omega) (⟨rfl, m2.p0 th kc (lN u) (lN 1), ho2.tr (OUM.up (by decide))⟩)
    first | refine mx_aload_n C dX9_likeness_115 (pc' := 116) rfl rfl ?_ | refine mx_aload_nq C dX9_likeness_115 (pc' := 116) rfl rfl ?_
    first | refine mx_aload_n C dX9_likeness_116 (pc' := 117) rfl rfl ?_ | refine mx_aload_nq C dX9_likeness_116 (pc' := 117) rfl rfl ?_
    refine mx_iload_n C dX9_likeness_117 (pc' := 118) rfl rfl ?_
    refine cX9_108 C dX9_likeness_118 (pc' := 121) rfl (m3) (c_X9_form l G base h2 m2 f1 f2 et en) ⟨by decide, by decide, by decide, by decide, Nat.le_of_ble_eq_true rfl⟩ ?_
    rintro _ _ ⟨rfl, rfl⟩
    refine kX9_99 C dX9_likeness_121 (pc' := 124) rfl ?_
    refine mx_lcmp C dX9_likeness_124 (pc' := 125) rfl ?_
    refine mx_L_eq C dX9_likeness_125 (tgt := 146) (by decide) (pc' := 128) rfl (fun c1 => ?_) (fun c1 => ?_)
    · skip
      refine mx_lconst C (v := lN 0) (by decide) dX9_likeness_146 (pc' := 147) rfl ?_
      exact k147 0 (by rw [if_neg (fun z => z.1 (bfL_none.mp c1))])
    first | refine mx_aload_n C dX9_likeness_128 (pc' := 129) rfl rfl ?_ | refine mx_aload_nq C dX9_likeness_128 (pc' := 129) rfl rfl ?_
    refine mx_iload_n C dX9_likeness_129 (pc' := 130) rfl rfl ?_
    refine cX9_108 C dX9_likeness_130 (pc' := 133) rfl (m3) (c_X9_form l G base h2 m2 f1 f2 et en) ⟨by decide, by decide, by decide, by decide, Nat.le_of_ble_eq_true rfl⟩ ?_
    rintro _ _ ⟨rfl, rfl⟩
    first | refine mx_aload_n C dX9_likeness_133 (pc' := 134) rfl rfl ?_ | refine mx_aload_nq C dX9_likeness_133 (pc' := 134) rfl rfl ?_
    refine mx_iload_n C dX9_likeness_134 (pc' := 135) rfl rfl ?_
    refine cX9_108 C dX9_likeness_135 (pc' := 138) rfl (m3) (c_X9_form l G base h2 m2 g1 g2 et2 en2) ⟨by decide, by decide, by decide, by decide, Nat.le_of_ble_eq_true rfl⟩ ?_
    rintro _ _ ⟨rfl, rfl⟩
    refine mx_lcmp C dX9_likeness_138 (pc' := 139) rfl ?_
    refine mx_L_ne C dX9_likeness_139 (tgt := 146) (by decide) (pc' := 142) rfl (fun c2 => ?_) (fun c2 => ?_)
    · skip
      refine mx_lconst C (v := lN 0) (by decide) dX9_likeness_146 (pc' := 147) rfl ?_
      exact k147 0 (by rw [if_neg (fun z => c2 (bfL_eq.mpr z.2))])
    · skip
      refine mx_lconst C (v := lN 1) (by decide) dX9_likeness_142 (pc' := 143) rfl ?_
      refine mx_goto C dX9_likeness_143 (tgt := 147) (by decide) ?_
      exact k147 1 (by rw [if_pos ⟨fun z => c1 (bfL_none.mpr z), bfL_eq.mp c2⟩])
  | 3, _ =>
    refine mx_tabIn C dX9_likeness_25 (by decide) (by decide) (off := 128) (by decide) (tgt := 153) (by decide) ?_
    have e1 : pfR 3 t n t2 n2 = ((if sRow t n t2 n2 then 1 else 0), 1) := if_neg (fun z => absurd z.1 (by decide))
    rw [e1]
    first | refine mx_aload_n C dX9_likeness_153 (pc' := 154) rfl rfl ?_ | refine mx_aload_nq C dX9_likeness_153 (pc' := 154) rfl rfl ?_
    first | refine mx_aload_n C dX9_likeness_154 (pc' := 155) rfl rfl ?_ | refine mx_aload_nq C dX9_likeness_154 (pc' := 155) rfl rfl ?_
    refine mx_iload_n C dX9_likeness_155 (pc' := 156) rfl rfl ?_
    refine mx_iload_n C dX9_likeness_156 (pc' := 157) rfl rfl ?_
    refine cX9_159 C dX9_likeness_157 (pc' := 160) rfl (m3) (c_X9_sameWords l G base h2 m2 f1 f2 g1 g2 et en et2 en2) ⟨by decide, by decide, by decide, by decide, Nat.le_of_ble_eq_true rfl⟩ ?_
    rintro _ h9 ⟨rfl, m9, o9⟩
    refine mx_B_eq C dX9_likeness_160 (tgt := 167) (by decide) (pc' := 163) rfl (fun c1 => ?_) (fun c1 => ?_)
    · rw [c1, if_neg (by decide)]
      refine mx_lconst C (v := lN 0) (by decide) dX9_likeness_167 (pc' := 168) rfl ?_
      refine pX9_143 C dX9_likeness_168 (pc' := 171) rfl (m9.2.2.1) (Nat.le_of_ble_eq_true rfl) rfl rfl (fs' := [_, _, _, _, _, _, _, _, _, _, _, _, _, _, _, _, _, _, _, _, _, _, _, _, _]) rfl ?_
      refine mx_goto C dX9_likeness_171 (tgt := 242) (by decide) ?_
      exact mx_vret C hr dX9_likeness_242 (by omega) (by omega) (⟨rfl, m9.p0 th kc (lN 0) (lN 1), (ho2.tr o9).tr (OUM.up (by decide))⟩)
    · rw [c1, if_pos rfl]
      refine mx_lconst C (v := lN 1) (by decide) dX9_likeness_163 (pc' := 164) rfl ?_
      refine mx_goto C dX9_likeness_164 (tgt := 168) (by decide) ?_
      refine pX9_143 C dX9_likeness_168 (pc' := 171) rfl (m9.2.2.1) (Nat.le_of_ble_eq_true rfl) rfl rfl (fs' := [_, _, _, _, _, _, _, _, _, _, _, _, _, _, _, _, _, _, _, _, _, _, _, _, _]) rfl ?_
      refine mx_goto C dX9_likeness_171 (tgt := 242) (by decide) ?_
      exact mx_vret C hr dX9_likeness_242 (by omega) (by omega) (⟨rfl, m9.p0 th kc (lN 1) (lN 1), (ho2.tr o9).tr (OUM.up (by decide))⟩)
  | 4, _ =>
    refine mx_tabOut C dX9_likeness_25 (by decide) (tgt := 174) (by decide) ?_
    have e1 : pfR 4 t n t2 n2 = if nm t n = 0 ∧ nm t2 n2 = 0 then (1, 1) else (min (nm t n) (nm t2 n2), max (nm t n) (nm t2 n2)) := by
      unfold pfR pfC
      by_cases e : nm t n = nm t2 n2
      · by_cases e0 : nm t n = 0
        · rw [if_neg (fun z => z.2.2 e0), if_neg (by decide), if_neg (by decide), if_neg (by decide), if_neg (by decide), if_pos e, if_pos ⟨e0, by omega⟩]
        · rw [if_pos ⟨Nat.le_refl _, e, e0⟩, if_neg (fun z => e0 z.1), ← e, Nat.min_self, Nat.max_self]
      · rw [if_neg (fun z => e z.2.1), if_neg (by decide), if_neg (by decide), if_neg (by decide), if_neg (by decide), if_neg e, if_neg (fun z => e (by omega))]
    rw [e1]
    generalize nm t n = a at *
    generalize nm t2 n2 = b at *
    have k239 : ∀ (hh : mx_H) (u w : Nat), MI G P hh σ th kc (lN u) (lN 1) → OUM P h hh → (if a = 0 ∧ b = 0 then (1, 1) else (min a b, max a b)) = (u, w) → mx_V p l ev { frames := 4, cells := 0, slots := 0, locals := 96 } s mt args below meth cd G base 6 (MQ below (mx_Qc G base (fun v h' => v = none ∧ MI G P h' σ th kc (lN (if a = 0 ∧ b = 0 then (1, 1) else (min a b, max a b)).1) (lN (if a = 0 ∧ b = 0 then (1, 1) else (min a b, max a b)).2) ∧ OUM P h h')) args s 0 0 (mx_A base)) hh 0 0 239 [some (.ref (P 0)), some (.int (nI 4)), some (.int (nI f)), some (.int (nI g)), some (.int (nI a)), some (.int (nI b))] [.long (lN w), .ref (P 0)] := by
      intro hh u w mj hoj hu
      rw [hu]
      refine pX9_147 C dX9_likeness_239 (pc' := 242) rfl (mj.2.2.1) (Nat.le_of_ble_eq_true rfl) rfl rfl (fs' := [_, _, _, _, _, _, _, _, _, _, _, _, _, _, _, _, _, _, _, _, _, _, _, _, _]) rfl ?_
      exact mx_vret C hr dX9_likeness_242 (by omega) (by omega) (⟨rfl, mj.p0 th kc (lN u) (lN w), hoj.tr (OUM.up (by decide))⟩)
    have k205 : ∀ (u w : Nat), (if a = 0 ∧ b = 0 then (1, 1) else (min a b, max a b)) = (u, w) → mx_V p l ev { frames := 4, cells := 0, slots := 0, locals := 96 } s mt args below meth cd G base 6 (MQ below (mx_Qc G base (fun v h' => v = none ∧ MI G P h' σ th kc (lN (if a = 0 ∧ b = 0 then (1, 1) else (min a b, max a b)).1) (lN (if a = 0 ∧ b = 0 then (1, 1) else (min a b, max a b)).2) ∧ OUM P h h')) args s 0 0 (mx_A base)) h2 0 0 205 [some (.ref (P 0)), some (.int (nI 4)), some (.int (nI f)), some (.int (nI g)), some (.int (nI a)), some (.int (nI b))] [.long (lN u), .ref (P 0)] := by
      intro u w hu
      refine pX9_143 C dX9_likeness_205 (pc' := 208) rfl (m3) (Nat.le_of_ble_eq_true rfl) rfl rfl (fs' := [_, _, _, _, _, _, _, _, _, _, _, _, _, _, _, _, _, _, _, _, _, _, _, _, _]) rfl ?_
      refine mx_heap (h' := va_up h2 (P 0) (some (.inr (9, mm P σ th kc (lN u) (lN 1))))) rfl ?_
      have m4 := m2.p0 th kc (lN u) (lN 1)
      have ho4 : OUM P h (va_up h2 (P 0) (some (.inr (9, mm P σ th kc (lN u) (lN 1))))) := ho2.tr (OUM.up (by decide))
      generalize va_up h2 (P 0) (some (.inr (9, mm P σ th kc (lN u) (lN 1)))) = h4 at *
      have k223 : ¬ (a = 0 ∧ b = 0) → mx_V p l ev { frames := 4, cells := 0, slots := 0, locals := 96 } s mt args below meth cd G base 6 (MQ below (mx_Qc G base (fun v h' => v = none ∧ MI G P h' σ th kc (lN (if a = 0 ∧ b = 0 then (1, 1) else (min a b, max a b)).1) (lN (if a = 0 ∧ b = 0 then (1, 1) else (min a b, max a b)).2) ∧ OUM P h h')) args s 0 0 (mx_A base)) h4 0 0 223 [some (.ref (P 0)), some (.int (nI 4)), some (.int (nI f)), some (.int (nI g)), some (.int (nI a)), some (.int (nI b))] [.ref (P 0)] := by
        intro hz
        have hw : w = max a b := by rw [if_neg hz] at hu; exact (congrArg Prod.snd hu).symm
        refine mx_iload C dX9_likeness_223 (pc' := 225) rfl rfl ?_
        refine mx_iload C dX9_likeness_225 (pc' := 227) rfl rfl ?_
        refine mx_N_ge C dX9_likeness_227 (tgt := 236) (by decide) (pc' := 230) rfl (by omega) (by omega) (fun d1 => ?_) (fun d1 => ?_)
        · rw [show max a b = a by omega] at hw
          refine mx_iload C dX9_likeness_236 (pc' := 238) rfl rfl ?_
          refine mx_i2l C (nI_l (show a < 2 ^ 31 by omega)) dX9_likeness_238 (pc' := 239) rfl ?_
          exact k239 h4 u a m4 ho4 (by rw [hu, hw])
        · rw [show max a b = b by omega] at hw
          refine mx_iload C dX9_likeness_230 (pc' := 232) rfl rfl ?_
          refine mx_i2l C (nI_l (show b < 2 ^ 31 by omega)) dX9_likeness_232 (pc' := 233) rfl ?_
          refine mx_goto C dX9_likeness_233 (tgt := 239) (by decide) ?_
          exact k239 h4 u b m4 ho4 (by rw [hu, hw])
      first | refine mx_aload_n C dX9_likeness_208 (pc' := 209) rfl rfl ?_ | refine mx_aload_nq C dX9_likeness_208 (pc' := 209) rfl rfl ?_
      refine mx_iload C dX9_likeness_209 (pc' := 211) rfl rfl ?_
      refine mx_N0_ne C dX9_likeness_211 (tgt := 223) (by decide) (pc' := 214) rfl (by omega) (fun d1 => ?_) (fun d1 => ?_)
      · exact k223 (fun z => d1 z.1)
      refine mx_iload C dX9_likeness_214 (pc' := 216) rfl rfl ?_
      refine mx_N0_ne C dX9_likeness_216 (tgt := 223) (by decide) (pc' := 219) rfl (by omega) (fun d2 => ?_) (fun d2 => ?_)
      · exact k223 (fun z => d2 z.2)
      have hw : w = 1 := by rw [if_pos ⟨d1, d2⟩] at hu; exact (congrArg Prod.snd hu).symm
      refine mx_lconst C (v := lN 1) (by decide) dX9_likeness_219 (pc' := 220) rfl ?_
      refine mx_goto C dX9_likeness_220 (tgt := 239) (by decide) ?_
      exact k239 h4 u 1 m4 ho4 (by rw [hu, hw])
    have k189 : ¬ (a = 0 ∧ b = 0) → mx_V p l ev { frames := 4, cells := 0, slots := 0, locals := 96 } s mt args below meth cd G base 6 (MQ below (mx_Qc G base (fun v h' => v = none ∧ MI G P h' σ th kc (lN (if a = 0 ∧ b = 0 then (1, 1) else (min a b, max a b)).1) (lN (if a = 0 ∧ b = 0 then (1, 1) else (min a b, max a b)).2) ∧ OUM P h h')) args s 0 0 (mx_A base)) h2 0 0 189 [some (.ref (P 0)), some (.int (nI 4)), some (.int (nI f)), some (.int (nI g)), some (.int (nI a)), some (.int (nI b))] [.ref (P 0)] := by
      intro hz
      refine mx_iload C dX9_likeness_189 (pc' := 191) rfl rfl ?_
      refine mx_iload C dX9_likeness_191 (pc' := 193) rfl rfl ?_
      refine mx_N_ge C dX9_likeness_193 (tgt := 202) (by decide) (pc' := 196) rfl (by omega) (by omega) (fun d1 => ?_) (fun d1 => ?_)
      · skip
        refine mx_iload C dX9_likeness_202 (pc' := 204) rfl rfl ?_
        refine mx_i2l C (nI_l (show b < 2 ^ 31 by omega)) dX9_likeness_204 (pc' := 205) rfl ?_
        exact k205 b (max a b) (by rw [if_neg hz, show min a b = b by omega])
      · skip
        refine mx_iload C dX9_likeness_196 (pc' := 198) rfl rfl ?_
        refine mx_i2l C (nI_l (show a < 2 ^ 31 by omega)) dX9_likeness_198 (pc' := 199) rfl ?_
        refine mx_goto C dX9_likeness_199 (tgt := 205) (by decide) ?_
        exact k205 a (max a b) (by rw [if_neg hz, show min a b = a by omega])
    first | refine mx_aload_n C dX9_likeness_174 (pc' := 175) rfl rfl ?_ | refine mx_aload_nq C dX9_likeness_174 (pc' := 175) rfl rfl ?_
    refine mx_iload C dX9_likeness_175 (pc' := 177) rfl rfl ?_
    refine mx_N0_ne C dX9_likeness_177 (tgt := 189) (by decide) (pc' := 180) rfl (by omega) (fun d1 => ?_) (fun d1 => ?_)
    · exact k189 (fun z => d1 z.1)
    refine mx_iload C dX9_likeness_180 (pc' := 182) rfl rfl ?_
    refine mx_N0_ne C dX9_likeness_182 (tgt := 189) (by decide) (pc' := 185) rfl (by omega) (fun d2 => ?_) (fun d2 => ?_)
    · exact k189 (fun z => d2 z.2)
    refine mx_lconst C (v := lN 1) (by decide) dX9_likeness_185 (pc' := 186) rfl ?_
    refine mx_goto C dX9_likeness_186 (tgt := 205) (by decide) ?_
    exact k205 1 1 (by rw [if_pos ⟨d1, d2⟩])
  | n' + 5, hp => exact absurd hp (by omega)
theorem c_X9_divisor (h : mx_H) {a b : Nat} (ha : a < 2 ^ 62) (hb : b < 2 ^ 62) : mx_M l G base yX9_divisor cX9_divisor 10 (some .long) 0 0 0 0 [.long (lN a), .long (lN b)] h (fun v h' => v = some (.long (lN (Nat.gcd a b))) ∧ h = h') := by
  refine mx_enter (lo := [some (.long (lN a)), none, some (.long (lN b)), none, none, none, none, none, none, none]) (by decide) (mx_in wd_code_yX9_divisor rfl) (Nat.le_of_ble_eq_true rfl) rfl ?_
  intro p ev s mt args below meth cd C hr hnm
  have C : mx_C p s mt args meth cd cX9_divisor 10 RX9 G base := C
  have loop : ∀ (d x y : Nat) (o8 : Option Value), y = d → x < 2 ^ 62 → y < 2 ^ 62 → Nat.gcd x y = Nat.gcd a b → mx_V p l ev { frames := 0, cells := 0, slots := 0, locals := 0 } s mt args below meth cd G base 10 (MQ below (mx_Qc G base (fun v h' => v = some (.long (lN (Nat.gcd a b))) ∧ h = h')) args s 0 0 (mx_A base)) h 0 0 6 [some (.long (lN a)), none, some (.long (lN b)), none, some (.long (lN x)), none, some (.long (lN y)), none, o8, none] [] := by
    intro d
    induction d using Nat.strongRecOn with
    | ind d ih =>
    intro x y o8 hd hx hy hg
    refine mx_weak (mx_le_keep (mx_le_keep (mx_le_keep (mx_le_keep (mx_le_keep (mx_le_keep (mx_le_keep (mx_le_keep (mx_le_drop (mx_le_keep mx_le_nil)))))))))) ?_
    refine mx_lload C dX9_divisor_6 (pc' := 8) rfl rfl ?_
    refine mx_lconst C (v := lN 0) (by decide) dX9_divisor_8 (pc' := 9) rfl ?_
    refine mx_lcmp C dX9_divisor_9 (pc' := 10) rfl ?_
    refine mx_LN_le C dX9_divisor_10 (tgt := 31) (by decide) (pc' := 13) rfl (by omega) (by omega) (fun c1 => ?_) (fun c1 => ?_)
    · have e1 : y = 0 := by omega
      subst e1
      rw [Nat.gcd_zero_right] at hg
      refine mx_lload C dX9_divisor_31 (pc' := 33) rfl rfl ?_
      exact mx_lret C hr dX9_divisor_33 (by omega) (by omega) (⟨by rw [hg], rfl⟩)
    have hy0 : ¬ lN y = 0 := fun z => absurd ((pk_lEQ (a := y) (b := 0) (by omega) (by decide)).mp z) (by omega)
    have hlt := Nat.mod_lt x (show 0 < y by omega)
    refine mx_lload C dX9_divisor_13 (pc' := 15) rfl rfl ?_
    refine mx_lload C dX9_divisor_15 (pc' := 17) rfl rfl ?_
    refine mx_lrem C (hy0) dX9_divisor_17 (pc' := 18) rfl ?_
    rw [pk_lRem (by omega) (by omega) (by omega)]
    refine mx_lstore C dX9_divisor_18 (pc' := 20) rfl (by first | exact mx_c1_0 | exact mx_c1_int rfl | exact mx_c1_ref rfl | exact mx_c1_none rfl | exact mx_c1_rf rfl | exact mx_c1_null rfl) (by decide) (lo' := [_, _, _, _, _, _, _, _, _, _]) rfl ?_
    refine mx_lload C dX9_divisor_20 (pc' := 22) rfl rfl ?_
    refine mx_lstore C dX9_divisor_22 (pc' := 24) rfl (by first | exact mx_c1_0 | exact mx_c1_int rfl | exact mx_c1_ref rfl | exact mx_c1_none rfl | exact mx_c1_rf rfl | exact mx_c1_null rfl) (by decide) (lo' := [_, _, _, _, _, _, _, _, _, _]) rfl ?_
    refine mx_lload C dX9_divisor_24 (pc' := 26) rfl rfl ?_
    refine mx_lstore C dX9_divisor_26 (pc' := 28) rfl (by first | exact mx_c1_0 | exact mx_c1_int rfl | exact mx_c1_ref rfl | exact mx_c1_none rfl | exact mx_c1_rf rfl | exact mx_c1_null rfl) (by decide) (lo' := [_, _, _, _, _, _, _, _, _, _]) rfl ?_
    refine mx_goto C dX9_divisor_28 (tgt := 6) (by decide) ?_
    refine ih _ (show x % y < d by omega) y (x % y) _ rfl hy (by omega) ?_
    rw [← hg, Nat.gcd_comm y (x % y), Nat.gcd_comm x y, ← Nat.gcd_rec]
  refine mx_lload_n C dX9_divisor_0 (pc' := 1) rfl rfl ?_
  refine mx_lstore C dX9_divisor_1 (pc' := 3) rfl (by first | exact mx_c1_0 | exact mx_c1_int rfl | exact mx_c1_ref rfl | exact mx_c1_none rfl | exact mx_c1_rf rfl | exact mx_c1_null rfl) (by decide) (lo' := [_, _, _, _, _, _, _, _, _, _]) rfl ?_
  refine mx_lload_n C dX9_divisor_3 (pc' := 4) rfl rfl ?_
  refine mx_lstore C dX9_divisor_4 (pc' := 6) rfl (by first | exact mx_c1_0 | exact mx_c1_int rfl | exact mx_c1_ref rfl | exact mx_c1_none rfl | exact mx_c1_rf rfl | exact mx_c1_null rfl) (by decide) (lo' := [_, _, _, _, _, _, _, _, _, _]) rfl ?_
  exact loop _ a b none rfl ha hb rfl
theorem c_X9_score (h : mx_H) {P : Nat → Nat} {σ : mxS} {th kc : Int32} {pu pd : Int64} (m : MI G P h σ th kc pu pd) {a b w : Int32} {x y : Nat} (hx0 : ixS σ a = x) (hy0 : ixS σ b = y) {U D W : Nat} (eU : (lkS σ x y 5).1 = U) (eD : (lkS σ x y 5).2.1 = D) (eW : (lkS σ x y 5).2.2 = W) : mx_M l G base yX9_score cX9_score 15 (some .long) 5 121 0 0 [.ref (P 0), .int a, .int b, .int w] h (fun v h' => OUM P h h' ∧ (x = 0 ∨ y = 0 → v = some (.long (-1)) ∧ MI G P h' σ (nI 0) kc pu pd) ∧ (¬ (x = 0 ∨ y = 0) → (W = 0 → v = some (.long (lN 0)) ∧ ∃ pu' pd', MI G P h' σ (nI 1) kc pu' pd') ∧ (W ≠ 0 → v = some (.long (lN (if w = 0 then U / Nat.gcd (D * W) U else D * W / Nat.gcd (D * W) U))) ∧ ∃ pu' pd', MI G P h' σ (nI 0) kc pu' pd'))) := by
  have hn := m.1.1
  have m1 := m.p0 (nI 0) kc pu pd
  have ho : OUM P h (va_up h (P 0) (some (.inr (9, mm P σ (nI 0) kc pu pd)))) := OUM.up (by decide)
  refine mx_enter (lo := [some (.ref (P 0)), some (.int a), some (.int b), some (.int w), none, none, none, none, none, none, none, none, none, none, none]) (by decide) (mx_in wd_code_yX9_score rfl) (Nat.le_of_ble_eq_true rfl) rfl ?_
  intro p ev s mt args below meth cd C hr hnm
  have C : mx_C p s mt args meth cd cX9_score 15 RX9 G base := C
  first | refine mx_aload_n C dX9_score_0 (pc' := 1) rfl rfl ?_ | refine mx_aload_nq C dX9_score_0 (pc' := 1) rfl rfl ?_
  refine mx_iconst C (v := nI 0) (by decide) dX9_score_1 (pc' := 2) rfl ?_
  refine pX9_64 C dX9_score_2 (pc' := 5) rfl (m.2.2.1) (Nat.le_of_ble_eq_true rfl) rfl rfl (fs' := [_, _, _, _, _, _, _, _, _, _, _, _, _, _, _, _, _, _, _, _, _, _, _, _, _]) rfl ?_
  refine mx_heap (h' := va_up h (P 0) (some (.inr (9, mm P σ (nI 0) kc pu pd)))) rfl ?_
  generalize va_up h (P 0) (some (.inr (9, mm P σ (nI 0) kc pu pd))) = h1 at *
  first | refine mx_aload_n C dX9_score_5 (pc' := 6) rfl rfl ?_ | refine mx_aload_nq C dX9_score_5 (pc' := 6) rfl rfl ?_
  refine mx_iload_n C dX9_score_6 (pc' := 7) rfl rfl ?_
  refine cX9_75 C dX9_score_7 (pc' := 10) rfl (m1.2.2.1) (c_X9_isTop l G base _ m1) ⟨by decide, by decide, by decide, by decide, Nat.le_of_ble_eq_true rfl⟩ ?_
  rintro _ _ ⟨rfl, rfl⟩
  rw [hx0]
  refine mx_B_eq C dX9_score_10 (tgt := 21) (by decide) (pc' := 13) rfl (fun c1 => ?_) (fun c1 => ?_)
  · skip
    refine kX9_99 C dX9_score_21 (pc' := 24) rfl ?_
    exact mx_lret C hr dX9_score_24 (by omega) (by omega) (⟨ho, fun _ => ⟨rfl, m1⟩, fun z => absurd (Or.inl (Decidable.not_not.mp (of_decide_eq_false c1))) z⟩)
  have c1 := of_decide_eq_true c1
  first | refine mx_aload_n C dX9_score_13 (pc' := 14) rfl rfl ?_ | refine mx_aload_nq C dX9_score_13 (pc' := 14) rfl rfl ?_
  refine mx_iload_n C dX9_score_14 (pc' := 15) rfl rfl ?_
  refine cX9_75 C dX9_score_15 (pc' := 18) rfl (m1.2.2.1) (c_X9_isTop l G base _ m1) ⟨by decide, by decide, by decide, by decide, Nat.le_of_ble_eq_true rfl⟩ ?_
  rintro _ _ ⟨rfl, rfl⟩
  rw [hy0]
  refine mx_B_ne C dX9_score_18 (tgt := 25) (by decide) (pc' := 21) rfl (fun c2 => ?_) (fun c2 => ?_)
  rotate_left
  · skip
    refine kX9_99 C dX9_score_21 (pc' := 24) rfl ?_
    exact mx_lret C hr dX9_score_24 (by omega) (by omega) (⟨ho, fun _ => ⟨rfl, m1⟩, fun z => absurd (Or.inr (Decidable.not_not.mp (of_decide_eq_false c2))) z⟩)
  have c2 := of_decide_eq_true c2
  obtain ⟨ea, x2, x3⟩ := ixS_at hn hx0 c1
  obtain ⟨eb, y2, y3⟩ := ixS_at hn hy0 c2
  subst ea
  subst eb
  have hno : ¬ (x = 0 ∨ y = 0) := fun z => z.elim c1 c2
  have loop : ∀ (d q : Nat) (hh : mx_H) (pu' pd' : Int64) (o11 o12 o13 : Option Value), 5 - q = d → q ≤ 5 → MI G P hh σ (nI 0) kc pu' pd' → OUM P h hh → mx_V p l ev { frames := 5, cells := 0, slots := 0, locals := 121 } s mt args below meth cd G base 15 (MQ below (mx_Qc G base (fun v h' => OUM P h h' ∧ (x = 0 ∨ y = 0 → v = some (.long (-1)) ∧ MI G P h' σ (nI 0) kc pu pd) ∧ (¬ (x = 0 ∨ y = 0) → (W = 0 → v = some (.long (lN 0)) ∧ ∃ pu' pd', MI G P h' σ (nI 1) kc pu' pd') ∧ (W ≠ 0 → v = some (.long (lN (if w = 0 then U / Nat.gcd (D * W) U else D * W / Nat.gcd (D * W) U))) ∧ ∃ pu' pd', MI G P h' σ (nI 0) kc pu' pd')))) args s 0 0 (mx_A base)) hh 0 0 37 [some (.ref (P 0)), some (.int (nI x)), some (.int (nI y)), some (.int w), some (.long (lN (rkS σ x y q).1)), none, some (.long (lN (rkS σ x y q).2.1)), none, some (.long (lN (rkS σ x y q).2.2)), none, some (.int (nI q)), o11, o12, o13, none] [] := by
    intro d
    induction d using Nat.strongRecOn with
    | ind d ih =>
    intro q hh pu' pd' o11 o12 o13 hd hq mj hoj
    refine mx_weak (mx_le_keep (mx_le_keep (mx_le_keep (mx_le_keep (mx_le_keep (mx_le_keep (mx_le_keep (mx_le_keep (mx_le_keep (mx_le_keep (mx_le_keep (mx_le_drop (mx_le_drop (mx_le_drop (mx_le_keep mx_le_nil))))))))))))))) ?_
    refine mx_iload C dX9_score_37 (pc' := 39) rfl rfl ?_
    refine mx_iconst C (v := nI 5) (by decide) dX9_score_39 (pc' := 40) rfl ?_
    refine mx_N_ge C dX9_score_40 (tgt := 146) (by decide) (pc' := 43) rfl (by omega) (by omega) (fun c3 => ?_) (fun c3 => ?_)
    · have e1 : q = 5 := by omega
      subst e1
      obtain ⟨b1, b2, b3, b4⟩ := rkS_le mj.1 (a := x) (b := y) (p := 5) (Nat.le_refl _)
      obtain ⟨k, k1, k2, k3, k4⟩ := @rkS_5 σ x y
      rw [eU] at k2
      rw [eD] at k3
      rw [eW] at k4
      rw [k2, k3, k4]
      rw [k2] at b1
      rw [k3] at b2 b3
      rw [k4] at b4
      have hDp : 1 ≤ D := by
        rcases Nat.eq_zero_or_pos D with z | z
        · rw [z, Nat.mul_zero] at b2; omega
        · exact z
      refine mx_lload C dX9_score_146 (pc' := 148) rfl rfl ?_
      refine mx_lconst C (v := lN 0) (by decide) dX9_score_148 (pc' := 149) rfl ?_
      refine mx_lcmp C dX9_score_149 (pc' := 150) rfl ?_
      refine mx_LN_ne C dX9_score_150 (tgt := 160) (by decide) (pc' := 153) rfl (by omega) (by omega) (fun c4 => ?_) (fun c4 => ?_)
      rotate_left
      · skip
        first | refine mx_aload_n C dX9_score_153 (pc' := 154) rfl rfl ?_ | refine mx_aload_nq C dX9_score_153 (pc' := 154) rfl rfl ?_
        refine mx_iconst C (v := nI 1) (by decide) dX9_score_154 (pc' := 155) rfl ?_
        refine pX9_64 C dX9_score_155 (pc' := 158) rfl (mj.2.2.1) (Nat.le_of_ble_eq_true rfl) rfl rfl (fs' := [_, _, _, _, _, _, _, _, _, _, _, _, _, _, _, _, _, _, _, _, _, _, _, _, _]) rfl ?_
        refine mx_heap (h' := va_up hh (P 0) (some (.inr (9, mm P σ (nI 1) kc pu' pd')))) rfl ?_
        refine mx_lconst C (v := lN 0) (by decide) dX9_score_158 (pc' := 159) rfl ?_
        exact mx_lret C hr dX9_score_159 (by omega) (by omega) (⟨hoj.tr (OUM.up (by decide)), fun z => absurd z hno, fun _ => ⟨fun _ => ⟨rfl, pu', pd', mj.p0 (nI 1) kc pu' pd'⟩, fun z => absurd c4 z⟩⟩)
      have hDW : k * D * W ≤ 4799520 * 1260000 := Nat.mul_le_mul b3 b4
      have hDW1 : 1 ≤ D * W := Nat.mul_pos hDp (by omega)
      have ekd : k * D * W = k * (D * W) := Nat.mul_assoc _ _ _
      refine mx_lload C dX9_score_160 (pc' := 162) rfl rfl ?_
      refine mx_lload C dX9_score_162 (pc' := 164) rfl rfl ?_
      refine mx_lmul C dX9_score_164 (pc' := 165) rfl ?_
      rw [lN_mul, ekd]
      refine mx_lstore C dX9_score_165 (pc' := 167) rfl (by first | exact mx_c1_0 | exact mx_c1_int rfl | exact mx_c1_ref rfl | exact mx_c1_none rfl | exact mx_c1_rf rfl | exact mx_c1_null rfl) (by decide) (lo' := [_, _, _, _, _, _, _, _, _, _, _, _, _, _, _]) rfl ?_
      refine mx_lload C dX9_score_167 (pc' := 169) rfl rfl ?_
      refine mx_lconst C (v := lN 0) (by decide) dX9_score_169 (pc' := 170) rfl ?_
      refine mx_lcmp C dX9_score_170 (pc' := 171) rfl ?_
      rw [ekd] at hDW
      have fin : ∀ u : Nat, u = (if w = 0 then U / Nat.gcd (D * W) U else D * W / Nat.gcd (D * W) U) → ((¬ (x = 0 ∨ y = 0) → (W = 0 → some (Value.long (lN u)) = some (.long (lN 0)) ∧ ∃ pu' pd', MI G P hh σ (nI 1) kc pu' pd') ∧ (W ≠ 0 → some (Value.long (lN u)) = some (.long (lN (if w = 0 then U / Nat.gcd (D * W) U else D * W / Nat.gcd (D * W) U))) ∧ ∃ pu' pd', MI G P hh σ (nI 0) kc pu' pd'))) := fun u hu _ => ⟨fun z => absurd z c4, fun _ => ⟨by rw [hu], pu', pd', mj⟩⟩
      refine mx_LN_ne C dX9_score_171 (tgt := 184) (by decide) (pc' := 174) rfl (by omega) (by omega) (fun c5 => ?_) (fun c5 => ?_)
      rotate_left
      · have eU0 : U = 0 := by
          rcases Nat.eq_zero_or_pos U with z | z
          · exact z
          · have := Nat.mul_pos (show 0 < k by omega) z; omega
        have r1 : U / Nat.gcd (D * W) U = 0 := by rw [eU0, Nat.zero_div]
        have r2 : D * W / Nat.gcd (D * W) U = 1 := by rw [eU0, Nat.gcd_zero_right, Nat.div_self (by omega)]
        refine mx_iload_n C dX9_score_174 (pc' := 175) rfl rfl ?_
        refine mx_if_ne C dX9_score_175 (tgt := 182) (by decide) (pc' := 178) rfl (fun c6 => ?_) (fun c6 => ?_)
        · skip
          refine mx_lconst C (v := lN 1) (by decide) dX9_score_182 (pc' := 183) rfl ?_
          exact mx_lret C hr dX9_score_183 (by omega) (by omega) (⟨hoj, fun z => absurd z hno, fin 1 (by rw [if_neg c6, r2])⟩)
        · skip
          refine mx_lconst C (v := lN 0) (by decide) dX9_score_178 (pc' := 179) rfl ?_
          refine mx_goto C dX9_score_179 (tgt := 183) (by decide) ?_
          exact mx_lret C hr dX9_score_183 (by omega) (by omega) (⟨hoj, fun z => absurd z hno, fin 0 (by rw [if_pos c6, r1])⟩)
      have eg : Nat.gcd (k * U) (k * (D * W)) = k * Nat.gcd (D * W) U := by rw [Nat.gcd_mul_left, Nat.gcd_comm]
      have hg1 : 0 < Nat.gcd (D * W) U := Nat.gcd_pos_of_pos_left _ hDW1
      have hg2 : k * Nat.gcd (D * W) U ≤ k * (D * W) := Nat.mul_le_mul_left _ (Nat.gcd_le_left _ hDW1)
      have hg3 : 1 ≤ k * Nat.gcd (D * W) U := Nat.mul_pos k1 hg1
      have hgne : ¬ lN (k * Nat.gcd (D * W) U) = 0 := fun z => absurd ((pk_lEQ (a := k * Nat.gcd (D * W) U) (b := 0) (by omega) (by decide)).mp z) (by omega)
      have d1 : k * U / (k * Nat.gcd (D * W) U) = U / Nat.gcd (D * W) U := Nat.mul_div_mul_left _ _ (by omega)
      have d2 : k * (D * W) / (k * Nat.gcd (D * W) U) = D * W / Nat.gcd (D * W) U := Nat.mul_div_mul_left _ _ (by omega)
      refine mx_lload C dX9_score_184 (pc' := 186) rfl rfl ?_
      refine mx_lload C dX9_score_186 (pc' := 188) rfl rfl ?_
      refine cX9_171 C dX9_score_188 (pc' := 191) rfl (c_X9_divisor l G base hh (show k * U < 2 ^ 62 by omega) (show k * (D * W) < 2 ^ 62 by omega)) ⟨by decide, by decide, by decide, by decide, Nat.le_of_ble_eq_true rfl⟩ ?_
      rintro _ _ ⟨rfl, rfl⟩
      rw [eg]
      refine mx_lstore C dX9_score_191 (pc' := 193) rfl (by first | exact mx_c1_0 | exact mx_c1_int rfl | exact mx_c1_ref rfl | exact mx_c1_none rfl | exact mx_c1_rf rfl | exact mx_c1_null rfl) (by decide) (lo' := [_, _, _, _, _, _, _, _, _, _, _, _, _, _, _]) rfl ?_
      refine mx_iload_n C dX9_score_193 (pc' := 194) rfl rfl ?_
      refine mx_if_ne C dX9_score_194 (tgt := 205) (by decide) (pc' := 197) rfl (fun c6 => ?_) (fun c6 => ?_)
      · skip
        refine mx_lload C dX9_score_205 (pc' := 207) rfl rfl ?_
        refine mx_lload C dX9_score_207 (pc' := 209) rfl rfl ?_
        refine mx_ldiv C (hgne) dX9_score_209 (pc' := 210) rfl ?_
        rw [pk_lDiv (by omega) (by omega) (by omega), d2]
        exact mx_lret C hr dX9_score_210 (by omega) (by omega) (⟨hoj, fun z => absurd z hno, fin _ (by rw [if_neg c6])⟩)
      · skip
        refine mx_lload C dX9_score_197 (pc' := 199) rfl rfl ?_
        refine mx_lload C dX9_score_199 (pc' := 201) rfl rfl ?_
        refine mx_ldiv C (hgne) dX9_score_201 (pc' := 202) rfl ?_
        rw [pk_lDiv (by omega) (by omega) (by omega), d1]
        refine mx_goto C dX9_score_202 (tgt := 210) (by decide) ?_
        exact mx_lret C hr dX9_score_210 (by omega) (by omega) (⟨hoj, fun z => absurd z hno, fin _ (by rw [if_pos c6])⟩)
    have k140 : ∀ (hh : mx_H) (pu' pd' : Int64) (o11 o12 o13 : Option Value), MI G P hh σ (nI 0) kc pu' pd' → OUM P h hh → mx_V p l ev { frames := 5, cells := 0, slots := 0, locals := 121 } s mt args below meth cd G base 15 (MQ below (mx_Qc G base (fun v h' => OUM P h h' ∧ (x = 0 ∨ y = 0 → v = some (.long (-1)) ∧ MI G P h' σ (nI 0) kc pu pd) ∧ (¬ (x = 0 ∨ y = 0) → (W = 0 → v = some (.long (lN 0)) ∧ ∃ pu' pd', MI G P h' σ (nI 1) kc pu' pd') ∧ (W ≠ 0 → v = some (.long (lN (if w = 0 then U / Nat.gcd (D * W) U else D * W / Nat.gcd (D * W) U))) ∧ ∃ pu' pd', MI G P h' σ (nI 0) kc pu' pd')))) args s 0 0 (mx_A base)) hh 0 0 140 [some (.ref (P 0)), some (.int (nI x)), some (.int (nI y)), some (.int w), some (.long (lN (rkS σ x y (q + 1)).1)), none, some (.long (lN (rkS σ x y (q + 1)).2.1)), none, some (.long (lN (rkS σ x y (q + 1)).2.2)), none, some (.int (nI q)), o11, o12, o13, none] [] := by
      intro hh pu' pd' o11 o12 o13 mj hoj
      refine mx_iinc C dX9_score_140 (pc' := 143) rfl rfl (mx_inc _) (by first | exact mx_c1_0 | exact mx_c1_int rfl | exact mx_c1_ref rfl | exact mx_c1_none rfl | exact mx_c1_rf rfl | exact mx_c1_null rfl) (by decide) (lo' := [_, _, _, _, _, _, _, _, _, _, _, _, _, _, _]) rfl ?_
      refine mx_goto C dX9_score_143 (tgt := 37) (by decide) ?_
      exact ih _ (by omega) (q + 1) hh pu' pd' o11 o12 o13 rfl (by omega) mj hoj
    have tf1 := @fiT_in σ x q
    have tf2 := @fiT_in σ y q
    have hk := mj.1.2.1
    have fb1 : fiT σ x q ≤ 200 := by
      rcases Nat.eq_zero_or_pos (fiT σ x q) with z | z
      · omega
      · have := (tf1 (by omega)).2.1; omega
    have fb2 : fiT σ y q ≤ 200 := by
      rcases Nat.eq_zero_or_pos (fiT σ y q) with z | z
      · omega
      · have := (tf2 (by omega)).2.1; omega
    first | refine mx_aload_n C dX9_score_43 (pc' := 44) rfl rfl ?_ | refine mx_aload_nq C dX9_score_43 (pc' := 44) rfl rfl ?_
    refine mx_iload_n C dX9_score_44 (pc' := 45) rfl rfl ?_
    refine mx_iload C dX9_score_45 (pc' := 47) rfl rfl ?_
    refine cX9_162 C dX9_score_47 (pc' := 50) rfl (mj.2.2.1) (c_X9_first l G base hh mj x2 (show q ≤ 9 by omega)) ⟨by decide, by decide, by decide, by decide, Nat.le_of_ble_eq_true rfl⟩ ?_
    rintro _ _ ⟨rfl, rfl⟩
    refine mx_istore C dX9_score_50 (pc' := 52) rfl (by first | exact mx_c1_0 | exact mx_c1_int rfl | exact mx_c1_ref rfl | exact mx_c1_none rfl | exact mx_c1_rf rfl | exact mx_c1_null rfl) (by decide) (lo' := [_, _, _, _, _, _, _, _, _, _, _, _, _, _, _]) rfl ?_
    first | refine mx_aload_n C dX9_score_52 (pc' := 53) rfl rfl ?_ | refine mx_aload_nq C dX9_score_52 (pc' := 53) rfl rfl ?_
    refine mx_iload_n C dX9_score_53 (pc' := 54) rfl rfl ?_
    refine mx_iload C dX9_score_54 (pc' := 56) rfl rfl ?_
    refine cX9_162 C dX9_score_56 (pc' := 59) rfl (mj.2.2.1) (c_X9_first l G base hh mj y2 (show q ≤ 9 by omega)) ⟨by decide, by decide, by decide, by decide, Nat.le_of_ble_eq_true rfl⟩ ?_
    rintro _ _ ⟨rfl, rfl⟩
    refine mx_istore C dX9_score_59 (pc' := 61) rfl (by first | exact mx_c1_0 | exact mx_c1_int rfl | exact mx_c1_ref rfl | exact mx_c1_none rfl | exact mx_c1_rf rfl | exact mx_c1_null rfl) (by decide) (lo' := [_, _, _, _, _, _, _, _, _, _, _, _, _, _, _]) rfl ?_
    refine mx_iload C dX9_score_61 (pc' := 63) rfl rfl ?_
    have e0 : rkS σ x y (q + 1) = if fiT σ x q ≠ 0 ∧ fiT σ y q ≠ 0 then lad (rkS σ x y q) (pfR q (st_sg σ (fiT σ x q)) (st_sz σ (fiT σ x q)) (st_sg σ (fiT σ y q)) (st_sz σ (fiT σ y q))) (wgt σ q) else rkS σ x y q := rfl
    refine mx_N0_le C dX9_score_63 (tgt := 140) (by decide) (pc' := 66) rfl (by omega) (fun c4 => ?_) (fun c4 => ?_)
    · rw [if_neg (fun z => z.1 (by omega))] at e0
      have := k140 hh pu' pd' (some (.int (nI (fiT σ x q)))) (some (.int (nI (fiT σ y q)))) none mj hoj
      rw [e0] at this
      exact this
    refine mx_iload C dX9_score_66 (pc' := 68) rfl rfl ?_
    refine mx_N0_le C dX9_score_68 (tgt := 140) (by decide) (pc' := 71) rfl (by omega) (fun c5 => ?_) (fun c5 => ?_)
    · rw [if_neg (fun z => z.2 (by omega))] at e0
      have := k140 hh pu' pd' (some (.int (nI (fiT σ x q)))) (some (.int (nI (fiT σ y q)))) none mj hoj
      rw [e0] at this
      exact this
    rw [if_pos ⟨by omega, by omega⟩] at e0
    obtain ⟨u1, u2, -⟩ := tf1 (by omega)
    obtain ⟨w1, w2, -⟩ := tf2 (by omega)
    first | refine mx_aload_n C dX9_score_71 (pc' := 72) rfl rfl ?_ | refine mx_aload_nq C dX9_score_71 (pc' := 72) rfl rfl ?_
    refine mx_iload C dX9_score_72 (pc' := 74) rfl rfl ?_
    refine mx_iload C dX9_score_74 (pc' := 76) rfl rfl ?_
    refine mx_iload C dX9_score_76 (pc' := 78) rfl rfl ?_
    refine cX9_165 C dX9_score_78 (pc' := 81) rfl (mj.2.2.1) (c_X9_likeness l G base hh mj (show q < 5 by omega) u1 u2 w1 w2 rfl rfl rfl rfl) ⟨by decide, by decide, by decide, by decide, Nat.le_of_ble_eq_true rfl⟩ ?_
    rintro _ h9 ⟨rfl, m9, o9⟩
    generalize pfR q (st_sg σ (fiT σ x q)) (st_sz σ (fiT σ x q)) (st_sg σ (fiT σ y q)) (st_sz σ (fiT σ y q)) = fr at *
    obtain ⟨up0, dn0, F0, hUp, hDn, -, o1, -⟩ := m9.2.2.2.2.2.1
    obtain ⟨p1, p2⟩ := o1 q (by omega)
    obtain ⟨z1, z2, z3⟩ := m9.1.2.2.2.2.2.2.1 q (by omega)
    have hdne : ¬ lN (st_dn σ q) = 0 := fun z => absurd ((pk_lEQ (a := st_dn σ q) (b := 0) (by omega) (by decide)).mp z) (by omega)
    have ew : 2520 / st_dn σ q * st_up σ q = wgt σ q := by unfold wgt; rw [Nat.mul_comm]
    have key := k140 h9 (lN fr.1) (lN fr.2) (some (.int (nI (fiT σ x q)))) (some (.int (nI (fiT σ y q)))) (some (.long (lN (wgt σ q)))) m9 (hoj.tr o9)
    rw [e0] at key
    have v1 : (rkS σ x y q).1 * fr.2 + wgt σ q * fr.1 * (rkS σ x y q).2.1 = (lad (rkS σ x y q) fr (wgt σ q)).1 := by
      unfold lad
      show _ = (rkS σ x y q).1 * fr.2 + (rkS σ x y q).2.1 * fr.1 * wgt σ q
      rw [Nat.mul_comm (wgt σ q * fr.1), Nat.mul_comm (wgt σ q) fr.1, Nat.mul_assoc]
    have v2 : (rkS σ x y q).2.1 * fr.2 = (lad (rkS σ x y q) fr (wgt σ q)).2.1 := rfl
    have v3 : (rkS σ x y q).2.2 + wgt σ q = (lad (rkS σ x y q) fr (wgt σ q)).2.2 := rfl
    refine kX9_169 C dX9_score_81 (pc' := 84) rfl ?_
    first | refine mx_aload_n C dX9_score_84 (pc' := 85) rfl rfl ?_ | refine mx_aload_nq C dX9_score_84 (pc' := 85) rfl rfl ?_
    refine gX9_39 C dX9_score_85 (pc' := 88) rfl (m9.2.2.1) rfl ?_
    refine mx_iload C dX9_score_88 (pc' := 90) rfl rfl ?_
    refine mx_iald C dX9_score_90 (pc' := 91) rfl (hDn) (rfl) (show q < 5 by omega) (by decide) ?_
    rw [p2]
    refine mx_i2l C (nI_l (show st_dn σ q < 2 ^ 31 by omega)) dX9_score_91 (pc' := 92) rfl ?_
    refine mx_ldiv C (hdne) dX9_score_92 (pc' := 93) rfl ?_
    rw [pk_lDiv (by decide) (by omega) (by omega)]
    first | refine mx_aload_n C dX9_score_93 (pc' := 94) rfl rfl ?_ | refine mx_aload_nq C dX9_score_93 (pc' := 94) rfl rfl ?_
    refine gX9_36 C dX9_score_94 (pc' := 97) rfl (m9.2.2.1) rfl ?_
    refine mx_iload C dX9_score_97 (pc' := 99) rfl rfl ?_
    refine mx_iald C dX9_score_99 (pc' := 100) rfl (hUp) (rfl) (show q < 5 by omega) (by decide) ?_
    rw [p1]
    refine mx_i2l C (nI_l (show st_up σ q < 2 ^ 31 by omega)) dX9_score_100 (pc' := 101) rfl ?_
    refine mx_lmul C dX9_score_101 (pc' := 102) rfl ?_
    rw [lN_mul, ew]
    refine mx_lstore C dX9_score_102 (pc' := 104) rfl (by first | exact mx_c1_0 | exact mx_c1_int rfl | exact mx_c1_ref rfl | exact mx_c1_none rfl | exact mx_c1_rf rfl | exact mx_c1_null rfl) (by decide) (lo' := [_, _, _, _, _, _, _, _, _, _, _, _, _, _, _]) rfl ?_
    refine mx_lload C dX9_score_104 (pc' := 106) rfl rfl ?_
    first | refine mx_aload_n C dX9_score_106 (pc' := 107) rfl rfl ?_ | refine mx_aload_nq C dX9_score_106 (pc' := 107) rfl rfl ?_
    refine gX9_147 C dX9_score_107 (pc' := 110) rfl (m9.2.2.1) rfl ?_
    refine mx_lmul C dX9_score_110 (pc' := 111) rfl ?_
    rw [lN_mul]
    refine mx_lload C dX9_score_111 (pc' := 113) rfl rfl ?_
    first | refine mx_aload_n C dX9_score_113 (pc' := 114) rfl rfl ?_ | refine mx_aload_nq C dX9_score_113 (pc' := 114) rfl rfl ?_
    refine gX9_143 C dX9_score_114 (pc' := 117) rfl (m9.2.2.1) rfl ?_
    refine mx_lmul C dX9_score_117 (pc' := 118) rfl ?_
    rw [lN_mul]
    refine mx_lload C dX9_score_118 (pc' := 120) rfl rfl ?_
    refine mx_lmul C dX9_score_120 (pc' := 121) rfl ?_
    rw [lN_mul]
    refine mx_ladd C dX9_score_121 (pc' := 122) rfl ?_
    rw [lN_add, v1]
    refine mx_lstore C dX9_score_122 (pc' := 124) rfl (by first | exact mx_c1_0 | exact mx_c1_int rfl | exact mx_c1_ref rfl | exact mx_c1_none rfl | exact mx_c1_rf rfl | exact mx_c1_null rfl) (by decide) (lo' := [_, _, _, _, _, _, _, _, _, _, _, _, _, _, _]) rfl ?_
    refine mx_lload C dX9_score_124 (pc' := 126) rfl rfl ?_
    first | refine mx_aload_n C dX9_score_126 (pc' := 127) rfl rfl ?_ | refine mx_aload_nq C dX9_score_126 (pc' := 127) rfl rfl ?_
    refine gX9_147 C dX9_score_127 (pc' := 130) rfl (m9.2.2.1) rfl ?_
    refine mx_lmul C dX9_score_130 (pc' := 131) rfl ?_
    rw [lN_mul, v2]
    refine mx_lstore C dX9_score_131 (pc' := 133) rfl (by first | exact mx_c1_0 | exact mx_c1_int rfl | exact mx_c1_ref rfl | exact mx_c1_none rfl | exact mx_c1_rf rfl | exact mx_c1_null rfl) (by decide) (lo' := [_, _, _, _, _, _, _, _, _, _, _, _, _, _, _]) rfl ?_
    refine mx_lload C dX9_score_133 (pc' := 135) rfl rfl ?_
    refine mx_lload C dX9_score_135 (pc' := 137) rfl rfl ?_
    refine mx_ladd C dX9_score_137 (pc' := 138) rfl ?_
    rw [lN_add, v3]
    refine mx_lstore C dX9_score_138 (pc' := 140) rfl (by first | exact mx_c1_0 | exact mx_c1_int rfl | exact mx_c1_ref rfl | exact mx_c1_none rfl | exact mx_c1_rf rfl | exact mx_c1_null rfl) (by decide) (lo' := [_, _, _, _, _, _, _, _, _, _, _, _, _, _, _]) rfl ?_
    exact key
  refine mx_lconst C (v := lN 0) (by decide) dX9_score_25 (pc' := 26) rfl ?_
  refine mx_lstore C dX9_score_26 (pc' := 28) rfl (by first | exact mx_c1_0 | exact mx_c1_int rfl | exact mx_c1_ref rfl | exact mx_c1_none rfl | exact mx_c1_rf rfl | exact mx_c1_null rfl) (by decide) (lo' := [_, _, _, _, _, _, _, _, _, _, _, _, _, _, _]) rfl ?_
  refine mx_lconst C (v := lN 1) (by decide) dX9_score_28 (pc' := 29) rfl ?_
  refine mx_lstore C dX9_score_29 (pc' := 31) rfl (by first | exact mx_c1_0 | exact mx_c1_int rfl | exact mx_c1_ref rfl | exact mx_c1_none rfl | exact mx_c1_rf rfl | exact mx_c1_null rfl) (by decide) (lo' := [_, _, _, _, _, _, _, _, _, _, _, _, _, _, _]) rfl ?_
  refine mx_lconst C (v := lN 0) (by decide) dX9_score_31 (pc' := 32) rfl ?_
  refine mx_lstore C dX9_score_32 (pc' := 34) rfl (by first | exact mx_c1_0 | exact mx_c1_int rfl | exact mx_c1_ref rfl | exact mx_c1_none rfl | exact mx_c1_rf rfl | exact mx_c1_null rfl) (by decide) (lo' := [_, _, _, _, _, _, _, _, _, _, _, _, _, _, _]) rfl ?_
  refine mx_iconst C (v := nI 0) (by decide) dX9_score_34 (pc' := 35) rfl ?_
  refine mx_istore C dX9_score_35 (pc' := 37) rfl (by first | exact mx_c1_0 | exact mx_c1_int rfl | exact mx_c1_ref rfl | exact mx_c1_none rfl | exact mx_c1_rf rfl | exact mx_c1_null rfl) (by decide) (lo' := [_, _, _, _, _, _, _, _, _, _, _, _, _, _, _]) rfl ?_
  exact loop _ 0 h1 pu pd none none none rfl (by omega) m1 ho
end R9
