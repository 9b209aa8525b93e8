/-! book numbers -/
def isX (c : Nat) : Bool := decide (c = 88 ∨ c = 120)
def bkp (c n : Nat) : Bool := dg c || (isX c && n == 9)
def bcr (c n : Nat) : Bool := !dg c && (isX c && n == 9)
def bvl (c : Nat) : Nat := if dg c then c - 48 else 10
/-- after i signs: how many are kept, whether an X is among them, what they are -/
def bn (t : Nat → Nat) : Nat → Nat
  | 0 => 0
  | i + 1 => if bkp (t i) (bn t i) then bn t i + 1 else bn t i
def bx (t : Nat → Nat) : Nat → Bool
  | 0 => false
  | i + 1 => bx t i || bcr (t i) (bn t i)
def bv (t : Nat → Nat) : Nat → Nat → Nat
  | 0, _ => 0
  | i + 1, k => if bkp (t i) (bn t i) && k == bn t i then bvl (t i) else bv t i k
theorem bn_s (t : Nat → Nat) (i : Nat) : bn t (i + 1) = if bkp (t i) (bn t i) then bn t i + 1 else bn t i := rfl
theorem bx_s (t : Nat → Nat) (i : Nat) : bx t (i + 1) = (bx t i || bcr (t i) (bn t i)) := rfl
theorem bv_s (t : Nat → Nat) (i k : Nat) : bv t (i + 1) k = if bkp (t i) (bn t i) && k == bn t i then bvl (t i) else bv t i k := rfl
theorem bn_le (t : Nat → Nat) (i : Nat) : bn t i ≤ i := by
  induction i with
  | zero => simp [bn]
  | succ i ih => rw [bn_s]; split <;> omega
theorem bvl_le {c : Nat} : bvl c ≤ 10 := by
  unfold bvl
  split
  · rename_i h
    have := dg_i h
    omega
  · omega
/-- the signs kept: digits; the tenth may be an X, and is one if bx says so -/
theorem bv_in (t : Nat → Nat) (i : Nat) : (∀ k, k < bn t i → bv t i k ≤ 10 ∧ (k ≠ 9 → bv t i k ≤ 9)) ∧ (bx t i = false → ∀ k, k < bn t i → bv t i k ≤ 9) ∧ (bx t i = true → 10 ≤ bn t i) := by
  induction i with
  | zero => simp [bn, bx]
  | succ i ih =>
    obtain ⟨h1, h2, h3⟩ := ih
    rw [bn_s, bx_s]
    by_cases hk : bkp (t i) (bn t i) = true
    · rw [if_pos hk]
      have key : bvl (t i) ≤ 10 ∧ (bn t i ≠ 9 → bvl (t i) ≤ 9) ∧ (bcr (t i) (bn t i) = false → bvl (t i) ≤ 9) ∧ (bcr (t i) (bn t i) = true → bn t i = 9) := by
        unfold bkp at hk
        unfold bcr bvl
        cases hd : dg (t i) with
        | true =>
          have := dg_i hd
          simp; omega
        | false =>
          rw [hd] at hk
          simp at hk
          simp [hk.1, hk.2]
      refine ⟨fun k hk2 => ?_, fun hx k hk2 => ?_, fun hx => ?_⟩
      · rw [bv_s, hk]
        by_cases e : k = bn t i
        · subst e; simp; exact ⟨key.1, key.2.1⟩
        · simp [e]; have := h1 k (by omega); exact ⟨this.1, this.2⟩
      · simp at hx
        rw [bv_s, hk]
        by_cases e : k = bn t i
        · subst e; simp; exact key.2.2.1 hx.2
        · simp [e]; exact h2 hx.1 k (by omega)
      · simp at hx
        rcases hx with hx | hx
        · have := h3 hx; omega
        · have := key.2.2.2 hx; omega
    · have hk' : bkp (t i) (bn t i) = false := by simpa using hk
      have hc : bcr (t i) (bn t i) = false := by
        unfold bkp at hk'
        unfold bcr
        simp at hk' ⊢
        intro _ z
        have := hk'.2 z
        omega
      rw [if_neg hk, hc]
      refine ⟨fun k hk2 => ?_, fun hx k hk2 => ?_, fun hx => ?_⟩
      · rw [bv_s, hk']; simp; have := h1 k hk2; exact ⟨this.1, this.2⟩
      · simp at hx
        rw [bv_s, hk']; simp; exact h2 hx k hk2
      · simp at hx; exact h3 hx
def s10 (V : Nat → Nat) : Nat → Nat
  | 0 => 0
  | i + 1 => s10 V i + V i * (10 - i)
def s13 (V : Nat → Nat) : Nat → Nat
  | 0 => 0
  | i + 1 => s13 V i + (if i % 2 = 0 then V i else 3 * V i)
def sS (V : Nat → Nat) : Nat → Nat
  | 0 => 38
  | i + 1 => sS V i + (if i % 2 = 0 then 3 * V i else V i)
def dF (V : Nat → Nat) (a : Nat) : Nat → Nat
  | 0 => a
  | i + 1 => dF V a i * 10 + V i
def bform (t : Nat → Nat) (n : Nat) : Option Nat :=
  if bn t n = 10 ∧ s10 (bv t n) 10 % 11 = 0 then some (dF (bv t n) 978 9 * 10 + (10 - sS (bv t n) 9 % 10) % 10)
  else if bn t n = 13 ∧ bx t n = false ∧ s13 (bv t n) 13 % 10 = 0 then some (dF (bv t n) 0 13) else none
def bfL (o : Option Nat) : Int64 := match o with
  | some f => lN f
  | none => -1
theorem s10_le {V : Nat → Nat} {k : Nat} (h : ∀ i, i < k → V i ≤ 10) : s10 V k ≤ 100 * k := by
  induction k with
  | zero => simp [s10]
  | succ k ih =>
    have h1 := ih (fun i hi => h i (by omega))
    have h2 : V k * (10 - k) ≤ 10 * 10 := Nat.mul_le_mul (h k (by omega)) (by omega)
    simp only [s10]; omega
theorem s13_le {V : Nat → Nat} {k : Nat} (h : ∀ i, i < k → V i ≤ 10) : s13 V k ≤ 30 * k := by
  induction k with
  | zero => simp [s13]
  | succ k ih =>
    have h1 := ih (fun i hi => h i (by omega))
    have h2 := h k (by omega)
    simp only [s13]; split <;> omega
theorem sS_le {V : Nat → Nat} {k : Nat} (h : ∀ i, i < k → V i ≤ 10) : sS V k ≤ 38 + 30 * k := by
  induction k with
  | zero => simp [sS]
  | succ k ih =>
    have h1 := ih (fun i hi => h i (by omega))
    have h2 := h k (by omega)
    simp only [sS]; split <;> omega
theorem dF_le {V : Nat → Nat} {a k : Nat} (h : ∀ i, i < k → V i ≤ 10) : dF V a k + 2 ≤ (a + 2) * 10 ^ k := by
  induction k with
  | zero => simp [dF]
  | succ k ih =>
    have h1 := ih (fun i hi => h i (by omega))
    have h2 := h k (by omega)
    simp only [dF, Nat.pow_succ, ← Nat.mul_assoc]; omega
theorem dF_b {V : Nat → Nat} {a k : Nat} (h : ∀ i, i < k → V i ≤ 10) (ha : a ≤ 978) (hk : k ≤ 13) : dF V a k ≤ 9800000000000000 := by
  have h1 := dF_le (a := a) h
  have h2 : (a + 2) * 10 ^ k ≤ 980 * 10 ^ 13 := Nat.mul_le_mul (by omega) (Nat.pow_le_pow_right (by decide) hk)
  omega
/-- a BookNumber object -/
def bo_up (G : mx_G) (h : mx_H) (b va : Nat) (V : Nat → Int32) (c : Int32) (x : Bool) : mx_H :=
  va_up (va_up h b (some (.inr (1, [.ref va, .int c, .int (mx_b x)])))) va (some (.inl (G.2 0, 13, .inl V)))
def bo_at (G : mx_G) (h : mx_H) (b va : Nat) (V : Nat → Int32) (c : Int32) (x : Bool) : Prop :=
  b ≠ va ∧ h b = some (.inr (1, [.ref va, .int c, .int (mx_b x)])) ∧ h va = some (.inl (G.2 0, 13, .inl V))
theorem bo_at_up {G : mx_G} {h : mx_H} {b va : Nat} {V : Nat → Int32} {c : Int32} {x : Bool} (hD : b ≠ va) : bo_at G (bo_up G h b va V c x) b va V c x := by
  refine ⟨hD, ?_, ?_⟩
  · unfold bo_up; rw [va_up_ne _ _ hD, va_up_self]
  · unfold bo_up; rw [va_up_self]
theorem bo_up_ne {G : mx_G} {h : mx_H} {b va a : Nat} {V : Nat → Int32} {c : Int32} {x : Bool} (h1 : a ≠ b) (h2 : a ≠ va) : bo_up G h b va V c x a = h a := by
  unfold bo_up; rw [va_up_ne _ _ h2, va_up_ne _ _ h1]
theorem bo_self {G : mx_G} {h : mx_H} {b va : Nat} {V : Nat → Int32} {c : Int32} {x : Bool} (hA : bo_at G h b va V c x) : h = bo_up G h b va V c x := by
  obtain ⟨-, a1, a2⟩ := hA
  funext y
  unfold bo_up va_up
  by_cases e2 : y = va
  · subst e2; simp [a2]
  · by_cases e1 : y = b
    · subst e1; simp [e2, a1]
    · simp [e2, e1]
theorem bo_setb {G : mx_G} {h : mx_H} {b va : Nat} {V : Nat → Int32} {c c' : Int32} {x x' : Bool} (hD : b ≠ va) : va_up (bo_up G h b va V c x) b (some (.inr (1, [.ref va, .int c', .int (mx_b x')]))) = bo_up G h b va V c' x' := by
  funext y
  unfold bo_up va_up
  by_cases e : y = b
  · subst e; simp [hD]
  · simp [e]
theorem bo_setV {G : mx_G} {h : mx_H} {b va : Nat} {V V' : Nat → Int32} {c : Int32} {x : Bool} : va_up (bo_up G h b va V c x) va (some (.inl (G.2 0, 13, .inl V'))) = bo_up G h b va V' c x := by
  funext y
  unfold bo_up va_up
  by_cases e : y = va
  · subst e; simp
  · simp [e]
theorem bo_bo {G : mx_G} {h : mx_H} {b va : Nat} {V V' : Nat → Int32} {c c' : Int32} {x x' : Bool} : bo_up G (bo_up G h b va V c x) b va V' c' x' = bo_up G h b va V' c' x' := by
  funext y
  unfold bo_up va_up
  by_cases e2 : y = va
  · subst e2; simp
  · by_cases e1 : y = b
    · subst e1; simp [e2]
    · simp [e2, e1]
section BO
variable (l : Launch) (G : mx_G) (base : Nat)
set_option maxRecDepth 20000
theorem c_X1_valueOf (h : mx_H) {b va c cn : Nat} {V : Nat → Int32} {x : Bool} (hb : bo_at G h b va V (nI cn) x) (hc : c < 256) (hcn : cn ≤ 60) :
    mx_M l G base yX1_valueOf cX1_valueOf 2 (some .int) 1 20 0 0 [.ref b, .int (nI c)] h (fun v h' => v = some (.int (if bkp c cn then nI (bvl c) else -1)) ∧ h' = bo_up G h b va V (nI cn) (x || bcr c cn)) := by
  have hself := bo_self hb
  obtain ⟨hD, hb1, hb2⟩ := hb
  refine mx_enter (lo := [some (.ref b), some (.int (nI c))]) (by decide) (mx_in wd_code_yX1_valueOf rfl) (Nat.le_of_ble_eq_true rfl) rfl ?_
  intro p ev s mt args below meth cd C hr hnm
  have C : mx_C p s mt args meth cd cX1_valueOf 2 RX1 G base := C
  refine mx_iload_n C dX1_valueOf_0 (pc' := 1) rfl rfl ?_
  refine cX1_56 C dX1_valueOf_1 (pc' := 4) rfl (c_X5_isDigit l G base h hc) ⟨by decide, by decide, by decide, by decide, Nat.le_of_ble_eq_true rfl⟩ ?_
  rintro _ _ ⟨rfl, rfl⟩
  refine mx_B_eq C dX1_valueOf_4 (tgt := 12) (by decide) (pc' := 7) rfl (fun h4 => ?_) (fun h4 => ?_)
  rotate_left
  · have h48 := dg_i h4
    refine mx_iload_n C dX1_valueOf_7 (pc' := 8) rfl rfl ?_
    refine mx_bipush C (v := nI 48) (by decide) dX1_valueOf_8 (pc' := 10) rfl ?_
    refine mx_isub C dX1_valueOf_10 (pc' := 11) rfl ?_
    rw [pk_sub h48.1]
    exact mx_iret C hr dX1_valueOf_11 (by omega) (by omega) (⟨by unfold bkp bvl; rw [h4]; rfl, by unfold bcr; rw [h4]; simp; exact hself⟩)
  refine mx_iload_n C dX1_valueOf_12 (pc' := 13) rfl rfl ?_
  refine cX1_62 C dX1_valueOf_13 (pc' := 16) rfl (c_X5_isCross l G base h hc) ⟨by decide, by decide, by decide, by decide, Nat.le_of_ble_eq_true rfl⟩ ?_
  rintro _ _ ⟨rfl, rfl⟩
  refine mx_B_eq C dX1_valueOf_16 (tgt := 36) (by decide) (pc' := 19) rfl (fun h16 => ?_) (fun h16 => ?_)
  · skip
    refine mx_iconst C (v := (-1)) (by decide) dX1_valueOf_36 (pc' := 37) rfl ?_
    have e1 : isX c = false := h16
    exact mx_iret C hr dX1_valueOf_37 (by omega) (by omega) (⟨by unfold bkp; rw [h4, e1]; rfl, by unfold bcr; rw [h4, e1]; simp; exact hself⟩)
  have e1 : isX c = true := h16
  first | refine mx_aload_n C dX1_valueOf_19 (pc' := 20) rfl rfl ?_ | refine mx_aload_nq C dX1_valueOf_19 (pc' := 20) rfl rfl ?_
  refine gX1_19 C dX1_valueOf_20 (pc' := 23) rfl (hb1) rfl ?_
  refine mx_bipush C (v := nI 9) (by decide) dX1_valueOf_23 (pc' := 25) rfl ?_
  refine mx_N_ne C dX1_valueOf_25 (tgt := 36) (by decide) (pc' := 28) rfl (by omega) (by omega) (fun h25 => ?_) (fun h25 => ?_)
  · skip
    refine mx_iconst C (v := (-1)) (by decide) dX1_valueOf_36 (pc' := 37) rfl ?_
    exact mx_iret C hr dX1_valueOf_37 (by omega) (by omega) (⟨by unfold bkp; rw [h4, e1]; simp [h25], by unfold bcr; rw [h4, e1, show (cn == 9) = false from by simp [h25]]; simp; exact hself⟩)
  subst h25
  refine mx_heap hself ?_
  first | refine mx_aload_n C dX1_valueOf_28 (pc' := 29) rfl rfl ?_ | refine mx_aload_nq C dX1_valueOf_28 (pc' := 29) rfl rfl ?_
  refine mx_iconst C (v := nI 1) (by decide) dX1_valueOf_29 (pc' := 30) rfl ?_
  first | refine pX1_31 C dX1_valueOf_30 (pc' := 33) rfl ((bo_at_up hD).2.1) (Nat.le_of_ble_eq_true rfl) (mx_b_nz _) (mx_b_fz _) (fs' := [_, _, _]) rfl ?_ | refine pX1_31 C dX1_valueOf_30 (pc' := 33) rfl ((bo_at_up hD).2.1) (Nat.le_of_ble_eq_true rfl) rfl rfl (fs' := [_, _, _]) rfl ?_
  refine mx_bipush C (v := nI 10) (by decide) dX1_valueOf_33 (pc' := 35) rfl ?_
  refine mx_heap (bo_setb (x' := true) hD) ?_
  exact mx_iret C hr dX1_valueOf_35 (by omega) (by omega) (⟨by unfold bkp bvl; rw [h4, e1]; rfl, by unfold bcr; rw [h4, e1]; simp⟩)
theorem c_X1_read (h : mx_H) {b va x ow ch n : Nat} {nu tg c0 : Int32} {nx : Value} {t : Nat → Nat} {V0 : Nat → Int32} {x0 : Bool} (hb : bo_at G h b va V0 c0 x0) (hx : tx_at G h x nu tg ow ch nx n t) :
    mx_M l G base yX1_read cX1_read 4 none 2 41 0 0 [.ref b, .ref x] h (fun v h' => v = none ∧ ∃ V, h' = bo_up G h b va V (nI (bn t n)) (bx t n) ∧ ∀ k, k < bn t n → k < 13 → V k = nI (bv t n k)) := by
  have hself := bo_self hb
  obtain ⟨hD, hb1, hb2⟩ := hb
  obtain ⟨hn, hx1, T, hch, hT⟩ := hx
  have x1 : x ≠ b := ne_of hx1 hb1 (by simp)
  have x2 : x ≠ va := ne_of hx1 hb2 (by simp)
  have y1 : ch ≠ b := ne_of hch hb1 (by simp)
  have y2 : ch ≠ va := ne_of hch hb2 (by simp)
  refine mx_enter (lo := [some (.ref b), some (.ref x), none, none]) (by decide) (mx_in wd_code_yX1_read rfl) (Nat.le_of_ble_eq_true rfl) rfl ?_
  intro p ev s mt args below meth cd C hr hnm
  have C : mx_C p s mt args meth cd cX1_read 4 RX1 G base := C
  have loop : ∀ (d i : Nat) (V : Nat → Int32) (o3 : Option Value), n - i = d → i ≤ n → (∀ k, k < bn t i → k < 13 → V k = nI (bv t i k)) → (∀ w, o3 = some w → w.category = 1) → mx_V p l ev { frames := 2, cells := 0, slots := 0, locals := 41 } s mt args below meth cd G base 4 (MQ below (mx_Qc G base (fun v h' => v = none ∧ ∃ V, h' = bo_up G h b va V (nI (bn t n)) (bx t n) ∧ ∀ k, k < bn t n → k < 13 → V k = nI (bv t n k))) args s 0 0 (mx_A base)) (bo_up G h b va V (nI (bn t i)) (bx t i)) 0 0 12 [some (.ref b), some (.ref x), some (.int (nI i)), o3] [] := by
    intro d
    induction d using Nat.strongRecOn with
    | ind d ih =>
    intro i V o3 hd hi hok ho3
    have hbl := bn_le t i
    refine mx_weak (mx_le_keep (mx_le_keep (mx_le_keep (mx_le_drop mx_le_nil)))) ?_
    have A1 := (bo_at_up (G := G) (h := h) (V := V) (c := nI (bn t i)) (x := bx t i) hD).2.1
    have B1 : bo_up G h b va V (nI (bn t i)) (bx t i) x = some (.inr (6, [.int nu, .int tg, .ref ow, .ref ch, .int (nI n), nx])) := by rw [bo_up_ne x1 x2]; exact hx1
    have B2 : bo_up G h b va V (nI (bn t i)) (bx t i) ch = some (.inl (G.2 2, 60, .inl T)) := by rw [bo_up_ne y1 y2]; exact hch
    refine mx_iload_n C dX1_read_12 (pc' := 13) rfl rfl ?_
    first | refine mx_aload_n C dX1_read_13 (pc' := 14) rfl rfl ?_ | refine mx_aload_nq C dX1_read_13 (pc' := 14) rfl rfl ?_
    refine gX1_43 C dX1_read_14 (pc' := 17) rfl (B1) rfl ?_
    refine mx_N_ge C dX1_read_17 (tgt := 77) (by decide) (pc' := 20) rfl (by omega) (by omega) (fun h17 => ?_) (fun h17 => ?_)
    · have e1 : i = n := by omega
      subst e1
      exact mx_vret C hr dX1_read_77 (by omega) (by omega) (⟨rfl, V, rfl, hok⟩)
    refine mx_iload_n C dX1_read_20 (pc' := 21) rfl rfl ?_
    refine mx_bipush C (v := nI 60) (by decide) dX1_read_21 (pc' := 23) rfl ?_
    refine mx_N_ge C dX1_read_23 (tgt := 77) (by decide) (pc' := 26) rfl (by omega) (by omega) (fun h23 => ?_) (fun h23 => ?_)
    · exact absurd h23 (by omega)
    obtain ⟨hTi, hti⟩ := hT i h17
    first | refine mx_aload_n C dX1_read_26 (pc' := 27) rfl rfl ?_ | refine mx_aload_nq C dX1_read_26 (pc' := 27) rfl rfl ?_
    first | refine mx_aload_n C dX1_read_27 (pc' := 28) rfl rfl ?_ | refine mx_aload_nq C dX1_read_27 (pc' := 28) rfl rfl ?_
    refine gX1_48 C dX1_read_28 (pc' := 31) rfl (B1) rfl ?_
    refine mx_iload_n C dX1_read_31 (pc' := 32) rfl rfl ?_
    refine mx_cald C dX1_read_32 (pc' := 33) rfl (B2) (rfl) (show i < 60 by omega) (by decide) ?_
    rw [hTi]
    refine cX1_52 C dX1_read_33 (pc' := 36) rfl (A1) (c_X1_valueOf l G base _ (bo_at_up hD) hti (show bn t i ≤ 60 by omega)) ⟨by decide, by decide, by decide, by decide, Nat.le_of_ble_eq_true rfl⟩ ?_
    rintro _ _ ⟨rfl, rfl⟩
    refine mx_heap bo_bo ?_
    rw [← bx_s]
    refine mx_istore_n C dX1_read_36 (pc' := 37) rfl (by first | exact mx_c1_0 | exact mx_c1_int rfl | exact mx_c1_ref rfl | exact mx_c1_none rfl | exact mx_c1_rf rfl | exact mx_c1_null rfl) (by decide) (lo' := [_, _, _, _]) rfl ?_
    refine mx_iload_n C dX1_read_37 (pc' := 38) rfl rfl ?_
    refine mx_iconst C (v := (-1)) (by decide) dX1_read_38 (pc' := 39) rfl ?_
    by_cases hk : bkp (t i) (bn t i) = true
    · have e1 : bn t i + 1 = bn t (i + 1) := by rw [bn_s, if_pos hk]
      rw [if_pos hk]
      have hle := @bvl_le (t i)
      refine mx_icmp_eq C dX1_read_39 (tgt := 71) (by decide) (pc' := 42) rfl (fun h39 => ?_) (fun h39 => ?_)
      · exfalso
        have z := congrArg Int32.toInt h39
        rw [nI_toInt (by omega)] at z
        have z2 : (-1 : Int32).toInt = -1 := by decide
        omega
      have A1 := (bo_at_up (G := G) (h := h) (V := V) (c := nI (bn t i)) (x := bx t (i + 1)) hD).2.1
      have A2 := (bo_at_up (G := G) (h := h) (V := V) (c := nI (bn t i)) (x := bx t (i + 1)) hD).2.2
      first | refine mx_aload_n C dX1_read_42 (pc' := 43) rfl rfl ?_ | refine mx_aload_nq C dX1_read_42 (pc' := 43) rfl rfl ?_
      refine gX1_19 C dX1_read_43 (pc' := 46) rfl (A1) rfl ?_
      refine mx_bipush C (v := nI 13) (by decide) dX1_read_46 (pc' := 48) rfl ?_
      have rest : ∀ V' : Nat → Int32, (∀ k, k < bn t (i + 1) → k < 13 → V' k = nI (bv t (i + 1) k)) → mx_V p l ev { frames := 2, cells := 0, slots := 0, locals := 41 } s mt args below meth cd G base 4 (MQ below (mx_Qc G base (fun v h' => v = none ∧ ∃ V, h' = bo_up G h b va V (nI (bn t n)) (bx t n) ∧ ∀ k, k < bn t n → k < 13 → V k = nI (bv t n k))) args s 0 0 (mx_A base)) (bo_up G h b va V' (nI (bn t i)) (bx t (i + 1))) 0 0 61 [some (.ref b), some (.ref x), some (.int (nI i)), some (.int (nI (bvl (t i))))] [] := by
        intro V' hV'
        have A1 := (bo_at_up (G := G) (h := h) (V := V') (c := nI (bn t i)) (x := bx t (i + 1)) hD).2.1
        first | refine mx_aload_n C dX1_read_61 (pc' := 62) rfl rfl ?_ | refine mx_aload_nq C dX1_read_61 (pc' := 62) rfl rfl ?_
        refine mx_dup C rfl dX1_read_62 (pc' := 63) rfl ?_
        refine gX1_19 C dX1_read_63 (pc' := 66) rfl (A1) rfl ?_
        refine mx_iconst C (v := nI 1) (by decide) dX1_read_66 (pc' := 67) rfl ?_
        refine mx_iadd C dX1_read_67 (pc' := 68) rfl ?_
        rw [nI_add, e1]
        refine pX1_19 C dX1_read_68 (pc' := 71) rfl (A1) (Nat.le_of_ble_eq_true rfl) rfl rfl (fs' := [_, _, _]) rfl ?_
        refine mx_heap (bo_setb hD) ?_
        refine mx_iinc C dX1_read_71 (pc' := 74) rfl rfl (mx_inc _) (by first | exact mx_c1_0 | exact mx_c1_int rfl | exact mx_c1_ref rfl | exact mx_c1_none rfl | exact mx_c1_rf rfl | exact mx_c1_null rfl) (by decide) (lo' := [_, _, _, _]) rfl ?_
        refine mx_goto C dX1_read_74 (tgt := 12) (by decide) ?_
        exact ih _ (by omega) (i + 1) V' _ rfl (by omega) hV' (fun w hw => by cases hw; rfl)
      refine mx_N_ge C dX1_read_48 (tgt := 61) (by decide) (pc' := 51) rfl (by omega) (by omega) (fun h48 => ?_) (fun h48 => ?_)
      · refine rest V (fun k h1 h2 => ?_)
        rw [bv_s, hk]
        have e3 : ¬ k = bn t i := by omega
        simp [e3]
        exact hok k (by omega) h2
      · skip
        first | refine mx_aload_n C dX1_read_51 (pc' := 52) rfl rfl ?_ | refine mx_aload_nq C dX1_read_51 (pc' := 52) rfl rfl ?_
        refine gX1_11 C dX1_read_52 (pc' := 55) rfl (A1) rfl ?_
        first | refine mx_aload_n C dX1_read_55 (pc' := 56) rfl rfl ?_ | refine mx_aload_nq C dX1_read_55 (pc' := 56) rfl rfl ?_
        refine gX1_19 C dX1_read_56 (pc' := 59) rfl (A1) rfl ?_
        refine mx_iload_n C dX1_read_59 (pc' := 60) rfl rfl ?_
        refine mx_iast C dX1_read_60 (pc' := 61) rfl A2 rfl (show bn t i < 13 by omega) (by decide) ?_
        refine mx_heap bo_setV ?_
        refine rest _ (fun k h1 h2 => ?_)
        rw [bv_s, hk]
        by_cases e3 : k = bn t i
        · subst e3; rw [pk_us]; simp
        · rw [pk_un e3]; simp [e3]; exact hok k (by omega) h2
    · have e1 : bn t i = bn t (i + 1) := by rw [bn_s, if_neg hk]
      rw [if_neg hk]
      refine mx_icmp_eq C dX1_read_39 (tgt := 71) (by decide) (pc' := 42) rfl (fun h39 => ?_) (fun h39 => ?_)
      · skip
        refine mx_iinc C dX1_read_71 (pc' := 74) rfl rfl (mx_inc _) (by first | exact mx_c1_0 | exact mx_c1_int rfl | exact mx_c1_ref rfl | exact mx_c1_none rfl | exact mx_c1_rf rfl | exact mx_c1_null rfl) (by decide) (lo' := [_, _, _, _]) rfl ?_
        refine mx_goto C dX1_read_74 (tgt := 12) (by decide) ?_
        rw [e1]
        refine ih _ (by omega) (i + 1) V _ rfl (by omega) (fun k h1 h2 => ?_) (fun w hw => by cases hw; rfl)
        rw [← e1] at h1
        have hk' : bkp (t i) (bn t i) = false := by simpa using hk
        rw [bv_s, hk']
        simp
        exact hok k h1 h2
      · exact absurd rfl h39
  refine mx_heap hself ?_
  first | refine mx_aload_n C dX1_read_0 (pc' := 1) rfl rfl ?_ | refine mx_aload_nq C dX1_read_0 (pc' := 1) rfl rfl ?_
  refine mx_iconst C (v := nI 0) (by decide) dX1_read_1 (pc' := 2) rfl ?_
  refine pX1_19 C dX1_read_2 (pc' := 5) rfl ((bo_at_up hD).2.1) (Nat.le_of_ble_eq_true rfl) rfl rfl (fs' := [_, _, _]) rfl ?_
  refine mx_heap (bo_setb hD) ?_
  first | refine mx_aload_n C dX1_read_5 (pc' := 6) rfl rfl ?_ | refine mx_aload_nq C dX1_read_5 (pc' := 6) rfl rfl ?_
  refine mx_iconst C (v := nI 0) (by decide) dX1_read_6 (pc' := 7) rfl ?_
  first | refine pX1_31 C dX1_read_7 (pc' := 10) rfl ((bo_at_up hD).2.1) (Nat.le_of_ble_eq_true rfl) (mx_b_nz _) (mx_b_fz _) (fs' := [_, _, _]) rfl ?_ | refine pX1_31 C dX1_read_7 (pc' := 10) rfl ((bo_at_up hD).2.1) (Nat.le_of_ble_eq_true rfl) rfl rfl (fs' := [_, _, _]) rfl ?_
  refine mx_heap (bo_setb (x' := false) hD) ?_
  refine mx_iconst C (v := nI 0) (by decide) dX1_read_10 (pc' := 11) rfl ?_
  refine mx_istore_n C dX1_read_11 (pc' := 12) rfl (by first | exact mx_c1_0 | exact mx_c1_int rfl | exact mx_c1_ref rfl | exact mx_c1_none rfl | exact mx_c1_rf rfl | exact mx_c1_null rfl) (by decide) (lo' := [_, _, _, _]) rfl ?_
  exact loop n 0 V0 none rfl (by omega) (fun k hk => by simp [bn] at hk) (fun w hw => by cases hw)
theorem c_X1_isShortRight (h : mx_H) {b va : Nat} {V : Nat → Int32} {c : Int32} {x : Bool} {U : Nat → Nat} (hb : bo_at G h b va V c x) (hV : ∀ k, k < 10 → V k = nI (U k) ∧ U k ≤ 10) :
    mx_M l G base yX1_isShortRight cX1_isShortRight 3 (some .boolean) 0 0 0 0 [.ref b] h (fun v h' => v = some (.int (mx_b (decide (s10 U 10 % 11 = 0)))) ∧ h = h') := by
  obtain ⟨hD, hb1, hb2⟩ := hb
  refine mx_enter (lo := [some (.ref b), none, none]) (by decide) (mx_in wd_code_yX1_isShortRight rfl) (Nat.le_of_ble_eq_true rfl) rfl ?_
  intro p ev s mt args below meth cd C hr hnm
  have C : mx_C p s mt args meth cd cX1_isShortRight 3 RX1 G base := C
  have loop : ∀ (d i : Nat), 10 - i = d → i ≤ 10 → mx_V p l ev { frames := 0, cells := 0, slots := 0, locals := 0 } s mt args below meth cd G base 3 (MQ below (mx_Qc G base (fun v h' => v = some (.int (mx_b (decide (s10 U 10 % 11 = 0)))) ∧ h = h')) args s 0 0 (mx_A base)) h 0 0 4 [some (.ref b), some (.int (nI (s10 U i))), some (.int (nI i))] [] := by
    intro d
    induction d using Nat.strongRecOn with
    | ind d ih =>
    intro i hd hi
    have hs := s10_le (V := U) (k := i) (fun j hj => (hV j (by omega)).2)
    refine mx_iload_n C dX1_isShortRight_4 (pc' := 5) rfl rfl ?_
    refine mx_bipush C (v := nI 10) (by decide) dX1_isShortRight_5 (pc' := 7) rfl ?_
    refine mx_N_ge C dX1_isShortRight_7 (tgt := 30) (by decide) (pc' := 10) rfl (by omega) (by omega) (fun h7 => ?_) (fun h7 => ?_)
    · have e1 : i = 10 := by omega
      subst e1
      refine mx_iload_n C dX1_isShortRight_30 (pc' := 31) rfl rfl ?_
      refine mx_bipush C (v := nI 11) (by decide) dX1_isShortRight_31 (pc' := 33) rfl ?_
      refine mx_irem C (by decide) dX1_isShortRight_33 (pc' := 34) rfl ?_
      rw [pk_rem (by omega) (by decide) (by decide)]
      refine mx_N0_ne C dX1_isShortRight_34 (tgt := 41) (by decide) (pc' := 37) rfl (by omega) (fun h34 => ?_) (fun h34 => ?_)
      · skip
        refine mx_iconst C (v := nI 0) (by decide) dX1_isShortRight_41 (pc' := 42) rfl ?_
        first | exact mx_zret C hr (mx_b_nz _) dX1_isShortRight_42 (by omega) (by omega) (⟨mx_ok0 (decide_eq_false h34), rfl⟩) | exact mx_zret C hr rfl dX1_isShortRight_42 (by omega) (by omega) (⟨mx_ok0 (decide_eq_false h34), rfl⟩)
      · skip
        refine mx_iconst C (v := nI 1) (by decide) dX1_isShortRight_37 (pc' := 38) rfl ?_
        refine mx_goto C dX1_isShortRight_38 (tgt := 42) (by decide) ?_
        first | exact mx_zret C hr (mx_b_nz _) dX1_isShortRight_42 (by omega) (by omega) (⟨mx_ok1 (decide_eq_true h34), rfl⟩) | exact mx_zret C hr rfl dX1_isShortRight_42 (by omega) (by omega) (⟨mx_ok1 (decide_eq_true h34), rfl⟩)
    obtain ⟨hVi, hUi⟩ := hV i h7
    refine mx_iload_n C dX1_isShortRight_10 (pc' := 11) rfl rfl ?_
    first | refine mx_aload_n C dX1_isShortRight_11 (pc' := 12) rfl rfl ?_ | refine mx_aload_nq C dX1_isShortRight_11 (pc' := 12) rfl rfl ?_
    refine gX1_11 C dX1_isShortRight_12 (pc' := 15) rfl (hb1) rfl ?_
    refine mx_iload_n C dX1_isShortRight_15 (pc' := 16) rfl rfl ?_
    refine mx_iald C dX1_isShortRight_16 (pc' := 17) rfl (hb2) (rfl) (show i < 13 by omega) (by decide) ?_
    rw [hVi]
    refine mx_bipush C (v := nI 10) (by decide) dX1_isShortRight_17 (pc' := 19) rfl ?_
    refine mx_iload_n C dX1_isShortRight_19 (pc' := 20) rfl rfl ?_
    refine mx_isub C dX1_isShortRight_20 (pc' := 21) rfl ?_
    rw [pk_sub (show i ≤ 10 by omega)]
    refine mx_imul C dX1_isShortRight_21 (pc' := 22) rfl ?_
    rw [pk_mul]
    refine mx_iadd C dX1_isShortRight_22 (pc' := 23) rfl ?_
    rw [nI_add]
    refine mx_istore_n C dX1_isShortRight_23 (pc' := 24) rfl (by first | exact mx_c1_0 | exact mx_c1_int rfl | exact mx_c1_ref rfl | exact mx_c1_none rfl | exact mx_c1_rf rfl | exact mx_c1_null rfl) (by decide) (lo' := [_, _, _]) rfl ?_
    refine mx_iinc C dX1_isShortRight_24 (pc' := 27) rfl rfl (mx_inc _) (by first | exact mx_c1_0 | exact mx_c1_int rfl | exact mx_c1_ref rfl | exact mx_c1_none rfl | exact mx_c1_rf rfl | exact mx_c1_null rfl) (by decide) (lo' := [_, _, _]) rfl ?_
    refine mx_goto C dX1_isShortRight_27 (tgt := 4) (by decide) ?_
    exact ih _ (by omega) (i + 1) rfl (by omega)
  refine mx_iconst C (v := nI 0) (by decide) dX1_isShortRight_0 (pc' := 1) rfl ?_
  refine mx_istore_n C dX1_isShortRight_1 (pc' := 2) rfl (by first | exact mx_c1_0 | exact mx_c1_int rfl | exact mx_c1_ref rfl | exact mx_c1_none rfl | exact mx_c1_rf rfl | exact mx_c1_null rfl) (by decide) (lo' := [_, _, _]) rfl ?_
  refine mx_iconst C (v := nI 0) (by decide) dX1_isShortRight_2 (pc' := 3) rfl ?_
  refine mx_istore_n C dX1_isShortRight_3 (pc' := 4) rfl (by first | exact mx_c1_0 | exact mx_c1_int rfl | exact mx_c1_ref rfl | exact mx_c1_none rfl | exact mx_c1_rf rfl | exact mx_c1_null rfl) (by decide) (lo' := [_, _, _]) rfl ?_
  exact loop _ 0 rfl (by omega)
theorem c_X1_isLongRight (h : mx_H) {b va : Nat} {V : Nat → Int32} {c : Int32} {x : Bool} {U : Nat → Nat} (hb : bo_at G h b va V c x) (hV : ∀ k, k < 13 → V k = nI (U k) ∧ U k ≤ 10) :
    mx_M l G base yX1_isLongRight cX1_isLongRight 3 (some .boolean) 0 0 0 0 [.ref b] h (fun v h' => v = some (.int (mx_b (decide (s13 U 13 % 10 = 0)))) ∧ h = h') := by
  obtain ⟨hD, hb1, hb2⟩ := hb
  refine mx_enter (lo := [some (.ref b), none, none]) (by decide) (mx_in wd_code_yX1_isLongRight rfl) (Nat.le_of_ble_eq_true rfl) rfl ?_
  intro p ev s mt args below meth cd C hr hnm
  have C : mx_C p s mt args meth cd cX1_isLongRight 3 RX1 G base := C
  have loop : ∀ (d i : Nat), 13 - i = d → i ≤ 13 → mx_V p l ev { frames := 0, cells := 0, slots := 0, locals := 0 } s mt args below meth cd G base 3 (MQ below (mx_Qc G base (fun v h' => v = some (.int (mx_b (decide (s13 U 13 % 10 = 0)))) ∧ h = h')) args s 0 0 (mx_A base)) h 0 0 4 [some (.ref b), some (.int (nI (s13 U i))), some (.int (nI i))] [] := by
    intro d
    induction d using Nat.strongRecOn with
    | ind d ih =>
    intro i hd hi
    have hs := s13_le (V := U) (k := i) (fun j hj => (hV j (by omega)).2)
    refine mx_iload_n C dX1_isLongRight_4 (pc' := 5) rfl rfl ?_
    refine mx_bipush C (v := nI 13) (by decide) dX1_isLongRight_5 (pc' := 7) rfl ?_
    refine mx_N_ge C dX1_isLongRight_7 (tgt := 42) (by decide) (pc' := 10) rfl (by omega) (by omega) (fun h7 => ?_) (fun h7 => ?_)
    · have e1 : i = 13 := by omega
      subst e1
      refine mx_iload_n C dX1_isLongRight_42 (pc' := 43) rfl rfl ?_
      refine mx_bipush C (v := nI 10) (by decide) dX1_isLongRight_43 (pc' := 45) rfl ?_
      refine mx_irem C (by decide) dX1_isLongRight_45 (pc' := 46) rfl ?_
      rw [pk_rem (by omega) (by decide) (by decide)]
      refine mx_N0_ne C dX1_isLongRight_46 (tgt := 53) (by decide) (pc' := 49) rfl (by omega) (fun h46 => ?_) (fun h46 => ?_)
      · skip
        refine mx_iconst C (v := nI 0) (by decide) dX1_isLongRight_53 (pc' := 54) rfl ?_
        first | exact mx_zret C hr (mx_b_nz _) dX1_isLongRight_54 (by omega) (by omega) (⟨mx_ok0 (decide_eq_false h46), rfl⟩) | exact mx_zret C hr rfl dX1_isLongRight_54 (by omega) (by omega) (⟨mx_ok0 (decide_eq_false h46), rfl⟩)
      · skip
        refine mx_iconst C (v := nI 1) (by decide) dX1_isLongRight_49 (pc' := 50) rfl ?_
        refine mx_goto C dX1_isLongRight_50 (tgt := 54) (by decide) ?_
        first | exact mx_zret C hr (mx_b_nz _) dX1_isLongRight_54 (by omega) (by omega) (⟨mx_ok1 (decide_eq_true h46), rfl⟩) | exact mx_zret C hr rfl dX1_isLongRight_54 (by omega) (by omega) (⟨mx_ok1 (decide_eq_true h46), rfl⟩)
    obtain ⟨hVi, hUi⟩ := hV i h7
    have key := ih _ (by omega) (i + 1) rfl (by omega)
    refine mx_iload_n C dX1_isLongRight_10 (pc' := 11) rfl rfl ?_
    refine mx_iload_n C dX1_isLongRight_11 (pc' := 12) rfl rfl ?_
    refine mx_iconst C (v := nI 2) (by decide) dX1_isLongRight_12 (pc' := 13) rfl ?_
    refine mx_irem C (by decide) dX1_isLongRight_13 (pc' := 14) rfl ?_
    rw [pk_rem (by omega) (by decide) (by decide)]
    refine mx_N0_ne C dX1_isLongRight_14 (tgt := 26) (by decide) (pc' := 17) rfl (by omega) (fun h14 => ?_) (fun h14 => ?_)
    · have e2 : s13 U (i + 1) = s13 U i + 3 * U i := by simp only [s13]; rw [if_neg h14]
      rw [e2] at key
      refine mx_iconst C (v := nI 3) (by decide) dX1_isLongRight_26 (pc' := 27) rfl ?_
      first | refine mx_aload_n C dX1_isLongRight_27 (pc' := 28) rfl rfl ?_ | refine mx_aload_nq C dX1_isLongRight_27 (pc' := 28) rfl rfl ?_
      refine gX1_11 C dX1_isLongRight_28 (pc' := 31) rfl (hb1) rfl ?_
      refine mx_iload_n C dX1_isLongRight_31 (pc' := 32) rfl rfl ?_
      refine mx_iald C dX1_isLongRight_32 (pc' := 33) rfl (hb2) (rfl) (show i < 13 by omega) (by decide) ?_
      rw [hVi]
      refine mx_imul C dX1_isLongRight_33 (pc' := 34) rfl ?_
      rw [pk_mul]
      refine mx_iadd C dX1_isLongRight_34 (pc' := 35) rfl ?_
      rw [nI_add]
      refine mx_istore_n C dX1_isLongRight_35 (pc' := 36) rfl (by first | exact mx_c1_0 | exact mx_c1_int rfl | exact mx_c1_ref rfl | exact mx_c1_none rfl | exact mx_c1_rf rfl | exact mx_c1_null rfl) (by decide) (lo' := [_, _, _]) rfl ?_
      refine mx_iinc C dX1_isLongRight_36 (pc' := 39) rfl rfl (mx_inc _) (by first | exact mx_c1_0 | exact mx_c1_int rfl | exact mx_c1_ref rfl | exact mx_c1_none rfl | exact mx_c1_rf rfl | exact mx_c1_null rfl) (by decide) (lo' := [_, _, _]) rfl ?_
      refine mx_goto C dX1_isLongRight_39 (tgt := 4) (by decide) ?_
      exact key
    · have e2 : s13 U (i + 1) = s13 U i + U i := by simp only [s13]; rw [if_pos h14]
      rw [e2] at key
      first | refine mx_aload_n C dX1_isLongRight_17 (pc' := 18) rfl rfl ?_ | refine mx_aload_nq C dX1_isLongRight_17 (pc' := 18) rfl rfl ?_
      refine gX1_11 C dX1_isLongRight_18 (pc' := 21) rfl (hb1) rfl ?_
      refine mx_iload_n C dX1_isLongRight_21 (pc' := 22) rfl rfl ?_
      refine mx_iald C dX1_isLongRight_22 (pc' := 23) rfl (hb2) (rfl) (show i < 13 by omega) (by decide) ?_
      rw [hVi]
      refine mx_goto C dX1_isLongRight_23 (tgt := 34) (by decide) ?_
      refine mx_iadd C dX1_isLongRight_34 (pc' := 35) rfl ?_
      rw [nI_add]
      refine mx_istore_n C dX1_isLongRight_35 (pc' := 36) rfl (by first | exact mx_c1_0 | exact mx_c1_int rfl | exact mx_c1_ref rfl | exact mx_c1_none rfl | exact mx_c1_rf rfl | exact mx_c1_null rfl) (by decide) (lo' := [_, _, _]) rfl ?_
      refine mx_iinc C dX1_isLongRight_36 (pc' := 39) rfl rfl (mx_inc _) (by first | exact mx_c1_0 | exact mx_c1_int rfl | exact mx_c1_ref rfl | exact mx_c1_none rfl | exact mx_c1_rf rfl | exact mx_c1_null rfl) (by decide) (lo' := [_, _, _]) rfl ?_
      refine mx_goto C dX1_isLongRight_39 (tgt := 4) (by decide) ?_
      exact key
  refine mx_iconst C (v := nI 0) (by decide) dX1_isLongRight_0 (pc' := 1) rfl ?_
  refine mx_istore_n C dX1_isLongRight_1 (pc' := 2) rfl (by first | exact mx_c1_0 | exact mx_c1_int rfl | exact mx_c1_ref rfl | exact mx_c1_none rfl | exact mx_c1_rf rfl | exact mx_c1_null rfl) (by decide) (lo' := [_, _, _]) rfl ?_
  refine mx_iconst C (v := nI 0) (by decide) dX1_isLongRight_2 (pc' := 3) rfl ?_
  refine mx_istore_n C dX1_isLongRight_3 (pc' := 4) rfl (by first | exact mx_c1_0 | exact mx_c1_int rfl | exact mx_c1_ref rfl | exact mx_c1_none rfl | exact mx_c1_rf rfl | exact mx_c1_null rfl) (by decide) (lo' := [_, _, _]) rfl ?_
  exact loop _ 0 rfl (by omega)
theorem c_X1_formOfLong (h : mx_H) {b va : Nat} {V : Nat → Int32} {c : Int32} {x : Bool} {U : Nat → Nat} (hb : bo_at G h b va V c x) (hV : ∀ k, k < 13 → V k = nI (U k) ∧ U k ≤ 10) :
    mx_M l G base yX1_formOfLong cX1_formOfLong 4 (some .long) 0 0 0 0 [.ref b] h (fun v h' => v = some (.long (lN (dF U 0 13))) ∧ h = h') := by
  obtain ⟨hD, hb1, hb2⟩ := hb
  refine mx_enter (lo := [some (.ref b), none, none, none]) (by decide) (mx_in wd_code_yX1_formOfLong rfl) (Nat.le_of_ble_eq_true rfl) rfl ?_
  intro p ev s mt args below meth cd C hr hnm
  have C : mx_C p s mt args meth cd cX1_formOfLong 4 RX1 G base := C
  have loop : ∀ (d i : Nat), 13 - i = d → i ≤ 13 → mx_V p l ev { frames := 0, cells := 0, slots := 0, locals := 0 } s mt args below meth cd G base 4 (MQ below (mx_Qc G base (fun v h' => v = some (.long (lN (dF U 0 13))) ∧ h = h')) args s 0 0 (mx_A base)) h 0 0 4 [some (.ref b), some (.long (lN (dF U 0 i))), none, some (.int (nI i))] [] := by
    intro d
    induction d using Nat.strongRecOn with
    | ind d ih =>
    intro i hd hi
    refine mx_iload_n C dX1_formOfLong_4 (pc' := 5) rfl rfl ?_
    refine mx_bipush C (v := nI 13) (by decide) dX1_formOfLong_5 (pc' := 7) rfl ?_
    refine mx_N_ge C dX1_formOfLong_7 (tgt := 30) (by decide) (pc' := 10) rfl (by omega) (by omega) (fun h7 => ?_) (fun h7 => ?_)
    · have e1 : i = 13 := by omega
      subst e1
      refine mx_lload_n C dX1_formOfLong_30 (pc' := 31) rfl rfl ?_
      exact mx_lret C hr dX1_formOfLong_31 (by omega) (by omega) (⟨rfl, rfl⟩)
    obtain ⟨hVi, hUi⟩ := hV i h7
    refine mx_lload_n C dX1_formOfLong_10 (pc' := 11) rfl rfl ?_
    refine kX1_67 C dX1_formOfLong_11 (pc' := 14) rfl ?_
    refine mx_lmul C dX1_formOfLong_14 (pc' := 15) rfl ?_
    rw [lN_mul]
    first | refine mx_aload_n C dX1_formOfLong_15 (pc' := 16) rfl rfl ?_ | refine mx_aload_nq C dX1_formOfLong_15 (pc' := 16) rfl rfl ?_
    refine gX1_11 C dX1_formOfLong_16 (pc' := 19) rfl (hb1) rfl ?_
    refine mx_iload_n C dX1_formOfLong_19 (pc' := 20) rfl rfl ?_
    refine mx_iald C dX1_formOfLong_20 (pc' := 21) rfl (hb2) (rfl) (show i < 13 by omega) (by decide) ?_
    rw [hVi]
    refine mx_i2l C (nI_l (show U i < 2 ^ 31 by omega)) dX1_formOfLong_21 (pc' := 22) rfl ?_
    refine mx_ladd C dX1_formOfLong_22 (pc' := 23) rfl ?_
    rw [lN_add]
    refine mx_lstore_n C dX1_formOfLong_23 (pc' := 24) rfl (by first | exact mx_c1_0 | exact mx_c1_int rfl | exact mx_c1_ref rfl | exact mx_c1_none rfl | exact mx_c1_rf rfl | exact mx_c1_null rfl) (by decide) (lo' := [_, _, _, _]) rfl ?_
    refine mx_iinc C dX1_formOfLong_24 (pc' := 27) rfl rfl (mx_inc _) (by first | exact mx_c1_0 | exact mx_c1_int rfl | exact mx_c1_ref rfl | exact mx_c1_none rfl | exact mx_c1_rf rfl | exact mx_c1_null rfl) (by decide) (lo' := [_, _, _, _]) rfl ?_
    refine mx_goto C dX1_formOfLong_27 (tgt := 4) (by decide) ?_
    exact ih _ (by omega) (i + 1) rfl (by omega)
  refine mx_lconst C (v := lN 0) (by decide) dX1_formOfLong_0 (pc' := 1) rfl ?_
  refine mx_lstore_n C dX1_formOfLong_1 (pc' := 2) rfl (by first | exact mx_c1_0 | exact mx_c1_int rfl | exact mx_c1_ref rfl | exact mx_c1_none rfl | exact mx_c1_rf rfl | exact mx_c1_null rfl) (by decide) (lo' := [_, _, _, _]) rfl ?_
  refine mx_iconst C (v := nI 0) (by decide) dX1_formOfLong_2 (pc' := 3) rfl ?_
  refine mx_istore_n C dX1_formOfLong_3 (pc' := 4) rfl (by first | exact mx_c1_0 | exact mx_c1_int rfl | exact mx_c1_ref rfl | exact mx_c1_none rfl | exact mx_c1_rf rfl | exact mx_c1_null rfl) (by decide) (lo' := [_, _, _, _]) rfl ?_
  exact loop _ 0 rfl (by omega)
theorem c_X1_formOfShort (h : mx_H) {b va : Nat} {V : Nat → Int32} {c : Int32} {x : Bool} {U : Nat → Nat} (hb : bo_at G h b va V c x) (hV : ∀ k, k < 9 → V k = nI (U k) ∧ U k ≤ 10) :
    mx_M l G base yX1_formOfShort cX1_formOfShort 5 (some .long) 0 0 0 0 [.ref b] h (fun v h' => v = some (.long (lN (dF U 978 9 * 10 + (10 - sS U 9 % 10) % 10))) ∧ h = h') := by
  obtain ⟨hD, hb1, hb2⟩ := hb
  refine mx_enter (lo := [some (.ref b), none, none, none, none]) (by decide) (mx_in wd_code_yX1_formOfShort rfl) (Nat.le_of_ble_eq_true rfl) rfl ?_
  intro p ev s mt args below meth cd C hr hnm
  have C : mx_C p s mt args meth cd cX1_formOfShort 5 RX1 G base := C
  have loop : ∀ (d i : Nat), 9 - i = d → i ≤ 9 → mx_V p l ev { frames := 0, cells := 0, slots := 0, locals := 0 } s mt args below meth cd G base 5 (MQ below (mx_Qc G base (fun v h' => v = some (.long (lN (dF U 978 9 * 10 + (10 - sS U 9 % 10) % 10))) ∧ h = h')) args s 0 0 (mx_A base)) h 0 0 10 [some (.ref b), some (.long (lN (dF U 978 i))), none, some (.int (nI (sS U i))), some (.int (nI i))] [] := by
    intro d
    induction d using Nat.strongRecOn with
    | ind d ih =>
    intro i hd hi
    have hs := sS_le (V := U) (k := i) (fun j hj => (hV j (by omega)).2)
    refine mx_iload C dX1_formOfShort_10 (pc' := 12) rfl rfl ?_
    refine mx_bipush C (v := nI 9) (by decide) dX1_formOfShort_12 (pc' := 14) rfl ?_
    refine mx_N_ge C dX1_formOfShort_14 (tgt := 67) (by decide) (pc' := 17) rfl (by omega) (by omega) (fun h14 => ?_) (fun h14 => ?_)
    · have e1 : i = 9 := by omega
      subst e1
      refine mx_lload_n C dX1_formOfShort_67 (pc' := 68) rfl rfl ?_
      refine kX1_67 C dX1_formOfShort_68 (pc' := 71) rfl ?_
      refine mx_lmul C dX1_formOfShort_71 (pc' := 72) rfl ?_
      rw [lN_mul]
      refine mx_bipush C (v := nI 10) (by decide) dX1_formOfShort_72 (pc' := 74) rfl ?_
      refine mx_iload_n C dX1_formOfShort_74 (pc' := 75) rfl rfl ?_
      refine mx_bipush C (v := nI 10) (by decide) dX1_formOfShort_75 (pc' := 77) rfl ?_
      refine mx_irem C (by decide) dX1_formOfShort_77 (pc' := 78) rfl ?_
      rw [pk_rem (by omega) (by decide) (by decide)]
      refine mx_isub C dX1_formOfShort_78 (pc' := 79) rfl ?_
      rw [pk_sub (show sS U 9 % 10 ≤ 10 by omega)]
      refine mx_bipush C (v := nI 10) (by decide) dX1_formOfShort_79 (pc' := 81) rfl ?_
      refine mx_irem C (by decide) dX1_formOfShort_81 (pc' := 82) rfl ?_
      rw [pk_rem (by omega) (by decide) (by decide)]
      refine mx_i2l C (nI_l (show (10 - sS U 9 % 10) % 10 < 2 ^ 31 by omega)) dX1_formOfShort_82 (pc' := 83) rfl ?_
      refine mx_ladd C dX1_formOfShort_83 (pc' := 84) rfl ?_
      rw [lN_add]
      exact mx_lret C hr dX1_formOfShort_84 (by omega) (by omega) (⟨rfl, rfl⟩)
    obtain ⟨hVi, hUi⟩ := hV i h14
    have key := ih _ (by omega) (i + 1) rfl (by omega)
    refine mx_lload_n C dX1_formOfShort_17 (pc' := 18) rfl rfl ?_
    refine kX1_67 C dX1_formOfShort_18 (pc' := 21) rfl ?_
    refine mx_lmul C dX1_formOfShort_21 (pc' := 22) rfl ?_
    rw [lN_mul]
    first | refine mx_aload_n C dX1_formOfShort_22 (pc' := 23) rfl rfl ?_ | refine mx_aload_nq C dX1_formOfShort_22 (pc' := 23) rfl rfl ?_
    refine gX1_11 C dX1_formOfShort_23 (pc' := 26) rfl (hb1) rfl ?_
    refine mx_iload C dX1_formOfShort_26 (pc' := 28) rfl rfl ?_
    refine mx_iald C dX1_formOfShort_28 (pc' := 29) rfl (hb2) (rfl) (show i < 13 by omega) (by decide) ?_
    rw [hVi]
    refine mx_i2l C (nI_l (show U i < 2 ^ 31 by omega)) dX1_formOfShort_29 (pc' := 30) rfl ?_
    refine mx_ladd C dX1_formOfShort_30 (pc' := 31) rfl ?_
    rw [lN_add]
    refine mx_lstore_n C dX1_formOfShort_31 (pc' := 32) rfl (by first | exact mx_c1_0 | exact mx_c1_int rfl | exact mx_c1_ref rfl | exact mx_c1_none rfl | exact mx_c1_rf rfl | exact mx_c1_null rfl) (by decide) (lo' := [_, _, _, _, _]) rfl ?_
    refine mx_iload_n C dX1_formOfShort_32 (pc' := 33) rfl rfl ?_
    refine mx_iload C dX1_formOfShort_33 (pc' := 35) rfl rfl ?_
    refine mx_iconst C (v := nI 2) (by decide) dX1_formOfShort_35 (pc' := 36) rfl ?_
    refine mx_irem C (by decide) dX1_formOfShort_36 (pc' := 37) rfl ?_
    rw [pk_rem (by omega) (by decide) (by decide)]
    refine mx_N0_ne C dX1_formOfShort_37 (tgt := 52) (by decide) (pc' := 40) rfl (by omega) (fun h37 => ?_) (fun h37 => ?_)
    · have e2 : sS U (i + 1) = sS U i + U i := by simp only [sS]; rw [if_neg h37]
      rw [e2] at key
      first | refine mx_aload_n C dX1_formOfShort_52 (pc' := 53) rfl rfl ?_ | refine mx_aload_nq C dX1_formOfShort_52 (pc' := 53) rfl rfl ?_
      refine gX1_11 C dX1_formOfShort_53 (pc' := 56) rfl (hb1) rfl ?_
      refine mx_iload C dX1_formOfShort_56 (pc' := 58) rfl rfl ?_
      refine mx_iald C dX1_formOfShort_58 (pc' := 59) rfl (hb2) (rfl) (show i < 13 by omega) (by decide) ?_
      rw [hVi]
      refine mx_iadd C dX1_formOfShort_59 (pc' := 60) rfl ?_
      rw [nI_add]
      refine mx_istore_n C dX1_formOfShort_60 (pc' := 61) rfl (by first | exact mx_c1_0 | exact mx_c1_int rfl | exact mx_c1_ref rfl | exact mx_c1_none rfl | exact mx_c1_rf rfl | exact mx_c1_null rfl) (by decide) (lo' := [_, _, _, _, _]) rfl ?_
      refine mx_iinc C dX1_formOfShort_61 (pc' := 64) rfl rfl (mx_inc _) (by first | exact mx_c1_0 | exact mx_c1_int rfl | exact mx_c1_ref rfl | exact mx_c1_none rfl | exact mx_c1_rf rfl | exact mx_c1_null rfl) (by decide) (lo' := [_, _, _, _, _]) rfl ?_
      refine mx_goto C dX1_formOfShort_64 (tgt := 10) (by decide) ?_
      exact key
    · have e2 : sS U (i + 1) = sS U i + 3 * U i := by simp only [sS]; rw [if_pos h37]
      rw [e2] at key
      refine mx_iconst C (v := nI 3) (by decide) dX1_formOfShort_40 (pc' := 41) rfl ?_
      first | refine mx_aload_n C dX1_formOfShort_41 (pc' := 42) rfl rfl ?_ | refine mx_aload_nq C dX1_formOfShort_41 (pc' := 42) rfl rfl ?_
      refine gX1_11 C dX1_formOfShort_42 (pc' := 45) rfl (hb1) rfl ?_
      refine mx_iload C dX1_formOfShort_45 (pc' := 47) rfl rfl ?_
      refine mx_iald C dX1_formOfShort_47 (pc' := 48) rfl (hb2) (rfl) (show i < 13 by omega) (by decide) ?_
      rw [hVi]
      refine mx_imul C dX1_formOfShort_48 (pc' := 49) rfl ?_
      rw [pk_mul]
      refine mx_goto C dX1_formOfShort_49 (tgt := 59) (by decide) ?_
      refine mx_iadd C dX1_formOfShort_59 (pc' := 60) rfl ?_
      rw [nI_add]
      refine mx_istore_n C dX1_formOfShort_60 (pc' := 61) rfl (by first | exact mx_c1_0 | exact mx_c1_int rfl | exact mx_c1_ref rfl | exact mx_c1_none rfl | exact mx_c1_rf rfl | exact mx_c1_null rfl) (by decide) (lo' := [_, _, _, _, _]) rfl ?_
      refine mx_iinc C dX1_formOfShort_61 (pc' := 64) rfl rfl (mx_inc _) (by first | exact mx_c1_0 | exact mx_c1_int rfl | exact mx_c1_ref rfl | exact mx_c1_none rfl | exact mx_c1_rf rfl | exact mx_c1_null rfl) (by decide) (lo' := [_, _, _, _, _]) rfl ?_
      refine mx_goto C dX1_formOfShort_64 (tgt := 10) (by decide) ?_
      exact key
  refine kX1_65 C dX1_formOfShort_0 (pc' := 3) rfl ?_
  refine mx_lstore_n C dX1_formOfShort_3 (pc' := 4) rfl (by first | exact mx_c1_0 | exact mx_c1_int rfl | exact mx_c1_ref rfl | exact mx_c1_none rfl | exact mx_c1_rf rfl | exact mx_c1_null rfl) (by decide) (lo' := [_, _, _, _, _]) rfl ?_
  refine mx_bipush C (v := nI 38) (by decide) dX1_formOfShort_4 (pc' := 6) rfl ?_
  refine mx_istore_n C dX1_formOfShort_6 (pc' := 7) rfl (by first | exact mx_c1_0 | exact mx_c1_int rfl | exact mx_c1_ref rfl | exact mx_c1_none rfl | exact mx_c1_rf rfl | exact mx_c1_null rfl) (by decide) (lo' := [_, _, _, _, _]) rfl ?_
  refine mx_iconst C (v := nI 0) (by decide) dX1_formOfShort_7 (pc' := 8) rfl ?_
  refine mx_istore C dX1_formOfShort_8 (pc' := 10) rfl (by first | exact mx_c1_0 | exact mx_c1_int rfl | exact mx_c1_ref rfl | exact mx_c1_none rfl | exact mx_c1_rf rfl | exact mx_c1_null rfl) (by decide) (lo' := [_, _, _, _, _]) rfl ?_
  exact loop _ 0 rfl (by omega)
theorem c_X1_formOf (h : mx_H) {b va x ow ch n : Nat} {nu tg c0 : Int32} {nx : Value} {t : Nat → Nat} {V0 : Nat → Int32} {x0 : Bool} (hb : bo_at G h b va V0 c0 x0) (hx : tx_at G h x nu tg ow ch nx n t) :
    mx_M l G base yX1_formOf cX1_formOf 2 (some .long) 3 64 0 0 [.ref b, .ref x] h (fun v h' => v = some (.long (bfL (bform t n))) ∧ ∃ V c y, h' = bo_up G h b va V c y) := by
  have hD := hb.1
  have hn := hx.1
  have hbl := bn_le t n
  obtain ⟨w1, w2, w3⟩ := bv_in t n
  refine mx_enter (lo := [some (.ref b), some (.ref x)]) (by decide) (mx_in wd_code_yX1_formOf rfl) (Nat.le_of_ble_eq_true rfl) rfl ?_
  intro p ev s mt args below meth cd C hr hnm
  have C : mx_C p s mt args meth cd cX1_formOf 2 RX1 G base := C
  first | refine mx_aload_n C dX1_formOf_0 (pc' := 1) rfl rfl ?_ | refine mx_aload_nq C dX1_formOf_0 (pc' := 1) rfl rfl ?_
  first | refine mx_aload_n C dX1_formOf_1 (pc' := 2) rfl rfl ?_ | refine mx_aload_nq C dX1_formOf_1 (pc' := 2) rfl rfl ?_
  refine cX1_15 C dX1_formOf_2 (pc' := 5) rfl (hb.2.1) (c_X1_read l G base h hb hx) ⟨by decide, by decide, by decide, by decide, Nat.le_of_ble_eq_true rfl⟩ ?_
  rintro _ _ ⟨rfl, V, rfl, hV⟩
  have hb' := bo_at_up (G := G) (h := h) (V := V) (c := nI (bn t n)) (x := bx t n) hD
  have A1 := hb'.2.1
  have long : ¬ (bn t n = 10 ∧ s10 (bv t n) 10 % 11 = 0) → mx_V p l ev { frames := 3, cells := 0, slots := 0, locals := 64 } s mt args below meth cd G base 2 (MQ below (mx_Qc G base (fun v h' => v = some (.long (bfL (bform t n))) ∧ ∃ V c y, h' = bo_up G h b va V c y)) args s 0 0 (mx_A base)) (bo_up G h b va V (nI (bn t n)) (bx t n)) 0 0 26 [some (.ref b), some (.ref x)] [] := by
    intro hno
    first | refine mx_aload_n C dX1_formOf_26 (pc' := 27) rfl rfl ?_ | refine mx_aload_nq C dX1_formOf_26 (pc' := 27) rfl rfl ?_
    refine gX1_19 C dX1_formOf_27 (pc' := 30) rfl (A1) rfl ?_
    refine mx_bipush C (v := nI 13) (by decide) dX1_formOf_30 (pc' := 32) rfl ?_
    refine mx_N_ne C dX1_formOf_32 (tgt := 56) (by decide) (pc' := 35) rfl (by omega) (by omega) (fun h32 => ?_) (fun h32 => ?_)
    · skip
      refine kX1_41 C dX1_formOf_56 (pc' := 59) rfl ?_
      exact mx_lret C hr dX1_formOf_59 (by omega) (by omega) (⟨by unfold bform; rw [if_neg hno, if_neg (fun z => h32 z.1)]; rfl, V, _, _, rfl⟩)
    first | refine mx_aload_n C dX1_formOf_35 (pc' := 36) rfl rfl ?_ | refine mx_aload_nq C dX1_formOf_35 (pc' := 36) rfl rfl ?_
    refine gX1_31 C dX1_formOf_36 (pc' := 39) rfl (A1) rfl ?_
    refine mx_B_ne C dX1_formOf_39 (tgt := 56) (by decide) (pc' := 42) rfl (fun h39 => ?_) (fun h39 => ?_)
    · skip
      refine kX1_41 C dX1_formOf_56 (pc' := 59) rfl ?_
      exact mx_lret C hr dX1_formOf_59 (by omega) (by omega) (⟨by unfold bform; rw [if_neg hno, if_neg (fun z => by rw [h39] at z; exact absurd z.2.1 (by decide))]; rfl, V, _, _, rfl⟩)
    first | refine mx_aload_n C dX1_formOf_42 (pc' := 43) rfl rfl ?_ | refine mx_aload_nq C dX1_formOf_42 (pc' := 43) rfl rfl ?_
    refine cX1_35 C dX1_formOf_43 (pc' := 46) rfl (A1) (c_X1_isLongRight l G base _ hb' (U := bv t n) (fun k hk => ⟨hV k (by omega) hk, (w1 k (by omega)).1⟩)) ⟨by decide, by decide, by decide, by decide, Nat.le_of_ble_eq_true rfl⟩ ?_
    rintro _ _ ⟨rfl, rfl⟩
    refine mx_B_eq C dX1_formOf_46 (tgt := 56) (by decide) (pc' := 49) rfl (fun h46 => ?_) (fun h46 => ?_)
    · skip
      refine kX1_41 C dX1_formOf_56 (pc' := 59) rfl ?_
      exact mx_lret C hr dX1_formOf_59 (by omega) (by omega) (⟨by unfold bform; rw [if_neg hno, if_neg (fun z => of_decide_eq_false h46 z.2.2)]; rfl, V, _, _, rfl⟩)
    first | refine mx_aload_n C dX1_formOf_49 (pc' := 50) rfl rfl ?_ | refine mx_aload_nq C dX1_formOf_49 (pc' := 50) rfl rfl ?_
    refine cX1_38 C dX1_formOf_50 (pc' := 53) rfl (A1) (c_X1_formOfLong l G base _ hb' (U := bv t n) (fun k hk => ⟨hV k (by omega) hk, (w1 k (by omega)).1⟩)) ⟨by decide, by decide, by decide, by decide, Nat.le_of_ble_eq_true rfl⟩ ?_
    rintro _ _ ⟨rfl, rfl⟩
    refine mx_goto C dX1_formOf_53 (tgt := 59) (by decide) ?_
    exact mx_lret C hr dX1_formOf_59 (by omega) (by omega) (⟨by unfold bform; rw [if_neg hno, if_pos ⟨h32, h39, of_decide_eq_true h46⟩]; rfl, V, _, _, rfl⟩)
  first | refine mx_aload_n C dX1_formOf_5 (pc' := 6) rfl rfl ?_ | refine mx_aload_nq C dX1_formOf_5 (pc' := 6) rfl rfl ?_
  refine gX1_19 C dX1_formOf_6 (pc' := 9) rfl (A1) rfl ?_
  refine mx_bipush C (v := nI 10) (by decide) dX1_formOf_9 (pc' := 11) rfl ?_
  refine mx_N_ne C dX1_formOf_11 (tgt := 26) (by decide) (pc' := 14) rfl (by omega) (by omega) (fun h11 => ?_) (fun h11 => ?_)
  · exact long (fun z => h11 z.1)
  first | refine mx_aload_n C dX1_formOf_14 (pc' := 15) rfl rfl ?_ | refine mx_aload_nq C dX1_formOf_14 (pc' := 15) rfl rfl ?_
  refine cX1_23 C dX1_formOf_15 (pc' := 18) rfl (A1) (c_X1_isShortRight l G base _ hb' (U := bv t n) (fun k hk => ⟨hV k (by omega) (by omega), (w1 k (by omega)).1⟩)) ⟨by decide, by decide, by decide, by decide, Nat.le_of_ble_eq_true rfl⟩ ?_
  rintro _ _ ⟨rfl, rfl⟩
  refine mx_B_eq C dX1_formOf_18 (tgt := 26) (by decide) (pc' := 21) rfl (fun h18 => ?_) (fun h18 => ?_)
  · exact long (fun z => of_decide_eq_false h18 z.2)
  first | refine mx_aload_n C dX1_formOf_21 (pc' := 22) rfl rfl ?_ | refine mx_aload_nq C dX1_formOf_21 (pc' := 22) rfl rfl ?_
  refine cX1_27 C dX1_formOf_22 (pc' := 25) rfl (A1) (c_X1_formOfShort l G base _ hb' (U := bv t n) (fun k hk => ⟨hV k (by omega) (by omega), (w1 k (by omega)).1⟩)) ⟨by decide, by decide, by decide, by decide, Nat.le_of_ble_eq_true rfl⟩ ?_
  rintro _ _ ⟨rfl, rfl⟩
  exact mx_lret C hr dX1_formOf_25 (by omega) (by omega) (⟨by unfold bform; rw [if_pos ⟨h11, of_decide_eq_true h18⟩]; rfl, V, _, _, rfl⟩)
end BO
