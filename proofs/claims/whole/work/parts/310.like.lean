/-! likeness -/
def tI (t : Nat → Nat) (n : Nat) (t2 : Nat → Nat) (n2 : Nat) : Nat := cntB (cdi t n t2 n2) (wcn t n)
def tO (t : Nat → Nat) (n : Nat) (t2 : Nat → Nat) (n2 : Nat) : Nat := cntB (cdf t n) (wcn t n) + cntB (cdf t2 n2) (wcn t2 n2) - tI t n t2 n2
def sRow (t : Nat → Nat) (n : Nat) (t2 : Nat → Nat) (n2 : Nat) : Bool := decide (wcn t n = wcn t2 n2) && allB (fun k => sw t n k t2 n2 k) (wcn t n)
/-- a part's likeness, as the class has it: above, below -/
def pfC (p : Nat) (t : Nat → Nat) (n : Nat) (t2 : Nat → Nat) (n2 : Nat) : Nat × Nat :=
  if p = 0 then (if tO t n t2 n2 = 0 then (0, 1) else (tI t n t2 n2, tO t n t2 n2))
  else if p = 1 then ((if nm t n = nm t2 n2 then 2 else if nm t n = nm t2 n2 + 1 ∨ nm t2 n2 = nm t n + 1 then 1 else 0), 2)
  else if p = 2 then ((if bform t n ≠ none ∧ bform t n = bform t2 n2 then 1 else 0), 1)
  else if p = 3 then ((if sRow t n t2 n2 then 1 else 0), 1)
  else (if nm t n = nm t2 n2 then (1, 1) else (min (nm t n) (nm t2 n2), max (nm t n) (nm t2 n2)))
theorem cntB_mono {f g : Nat → Bool} {n : Nat} (h : ∀ i, i < n → f i = true → g i = true) : cntB f n ≤ cntB g n := by
  induction n with
  | zero => simp [cntB]
  | succ n ih =>
    have h1 := ih (fun i hi => h i (by omega))
    simp only [cntB]
    by_cases e : f n = true
    · rw [if_pos e, if_pos (h n (by omega) e)]; omega
    · rw [if_neg e]; split <;> omega
theorem tI_le (t : Nat → Nat) (n : Nat) (t2 : Nat → Nat) (n2 : Nat) : tI t n t2 n2 ≤ cntB (cdf t n) (wcn t n) := cntB_mono (fun i _ h => by unfold cdi at h; simp at h; exact h.1)
theorem wcn30 {t : Nat → Nat} {n : Nat} (h : n ≤ 60) : wcn t n ≤ 30 := by
  have := wcn_le t n
  split at this <;> omega
theorem pfC_le {p : Nat} {t t2 : Nat → Nat} {n n2 : Nat} (h : n ≤ 60) (h2 : n2 ≤ 60) : (pfC p t n t2 n2).1 ≤ (if p = 0 then 30 else if p ≤ 3 then 2 else 9999) ∧ 1 ≤ (pfC p t n t2 n2).2 ∧ (pfC p t n t2 n2).2 ≤ (if p = 0 then 60 else if p ≤ 3 then 2 else 9999) := by
  have a1 := wcn30 (t := t) h
  have a2 := wcn30 (t := t2) h2
  have b1 := cntB_le (cdf t n) (wcn t n)
  have b2 := cntB_le (cdf t2 n2) (wcn t2 n2)
  have b3 := tI_le t n t2 n2
  have n1 := nm_lt t n
  have n2' := nm_lt t2 n2
  unfold pfC
  by_cases e0 : p = 0
  · simp only [if_pos e0]
    by_cases e : tO t n t2 n2 = 0
    · simp [e]
    · simp only [if_neg e]
      have : tO t n t2 n2 ≤ 60 := by unfold tO; omega
      omega
  · simp only [if_neg e0]
    by_cases e1 : p = 1
    · simp only [if_pos e1, if_pos (show p ≤ 3 by omega)]
      refine ⟨?_, by omega, by omega⟩
      split
      · omega
      · split <;> omega
    · simp only [if_neg e1]
      by_cases e2 : p = 2
      · simp only [if_pos e2, if_pos (show p ≤ 3 by omega)]
        refine ⟨?_, by omega, by omega⟩
        split <;> omega
      · simp only [if_neg e2]
        by_cases e3 : p = 3
        · simp only [if_pos e3, if_pos (show p ≤ 3 by omega)]
          refine ⟨?_, by omega, by omega⟩
          split <;> omega
        · simp only [if_neg e3, if_neg (show ¬ p ≤ 3 by omega)]
          split
          · simp
          · simp only; omega
def LK (h : mx_H) (K : Nat → Nat) (x : Nat × Nat × Nat) : Prop := h (K 11) = some (.inr (4, [.ref (K 12), .ref (K 13), .ref (K 17), .ref (K 21), .long (lN x.1), .long (lN x.2.1), .long (lN x.2.2)]))
def lad (x : Nat × Nat × Nat) (f : Nat × Nat) (w : Nat) : Nat × Nat × Nat := (x.1 * f.2 + x.2.1 * f.1 * w, x.2.1 * f.2, x.2.2 + w)
/-- only cells of the Likeness have changed -/
theorem CI.lk {G : mx_G} {A : mxA} {h h' : mx_H} {σ σ' : mxS} {la ea : Nat → Nat} {mk : Nat → Bool} (c : CI G A h σ la ea mk) (hf : ∀ a, (∀ i, 11 ≤ i → i ≤ 22 → a ≠ aK A i) → h' a = h a) (hk : lk_wf G h' (aK A) σ') (hs : si σ') (e1 : σ'.1 = σ.1) (e2 : σ'.2.1 = σ.2.1) (e3 : σ'.2.2.1 = σ.2.2.1) (e4 : σ'.2.2.2.2.2 = σ.2.2.2.2.2) : CI G A h' σ' la ea mk := by
  obtain ⟨c1, c2, c3, ⟨F, c4, c4b⟩, c5, ⟨R, n, k1, k2, k3, k4⟩, c7, c8, c9, c10⟩ := id c
  have eK : ∀ i, i < 11 → h' (aK A i) = h (aK A i) := fun i hi => hf _ (fun j h3 h4 => c2.1.ne (by omega) (by omega) (by omega))
  obtain ⟨s1, s2, s3, s4, s5, s6⟩ := σ'
  obtain ⟨r1, r2, r3, r4, r5, r6⟩ := σ
  dsimp only at e1 e2 e3 e4
  subst e1; subst e2; subst e3; subst e4
  refine ⟨hs, c2, (eK 0 (by decide)).trans c3, ⟨F, (eK 1 (by decide)).trans c4, c4b⟩, c5.kept (fun i _ _ => eK i (by omega)), ⟨R, n, k1, k2, (eK 9 (by decide)).trans k3, (eK 10 (by decide)).trans k4⟩, hk, fun r r1 r2 => ?_, fun f f1 f2 => ?_, c10⟩
  · rw [hf _ (fun i h3 h4 => c.bK r1 r2 (by omega))]; exact c8 r r1 r2
  · exact (c9 f f1 f2).kept (hf _ (fun i h3 h4 => c.tK f1 f2 (by omega))) (hf _ (fun i h3 h4 => c2.2.1 f f1 f2 i (by omega)))
/-- the sums are set -/
theorem CI.sums {G : mx_G} {A : mxA} {h : mx_H} {σ : mxS} {la ea : Nat → Nat} {mk : Nat → Bool} (c : CI G A h σ la ea mk) (x : Nat × Nat × Nat) : CI G A (va_up h (aK A 11) (some (.inr (4, [.ref (aK A 12), .ref (aK A 13), .ref (aK A 17), .ref (aK A 21), .long (lN x.1), .long (lN x.2.1), .long (lN x.2.2)])))) σ la ea mk ∧ LK (va_up h (aK A 11) (some (.inr (4, [.ref (aK A 12), .ref (aK A 13), .ref (aK A 17), .ref (aK A 21), .long (lN x.1), .long (lN x.2.1), .long (lN x.2.2)])))) (aK A) x := by
  refine ⟨c.lk (fun a ha => va_up_ne _ _ (ha 11 (by decide) (by decide))) ?_ c.1 rfl rfl rfl rfl, va_up_self _ _ _⟩
  obtain ⟨-, ⟨W, b, b2⟩, ⟨F, S, N, n, d⟩, ⟨F', S', N', n', d'⟩, V, n2, y, f⟩ := c.2.2.2.2.2.2.1
  have e : ∀ i, i < 23 → i ≠ 11 → ∀ z, va_up h (aK A 11) z (aK A i) = h (aK A i) := fun i hi hn z => va_up_ne _ _ (c.2.1.1.ne hi (by decide) hn)
  exact ⟨⟨_, _, _, va_up_self _ _ _⟩, ⟨W, (e 12 (by decide) (by decide) _).trans b, b2⟩, ⟨F, S, N, n, d.kept (e 13 (by decide) (by decide) _) (e 14 (by decide) (by decide) _) (e 15 (by decide) (by decide) _) (e 16 (by decide) (by decide) _)⟩, ⟨F', S', N', n', d'.kept (e 17 (by decide) (by decide) _) (e 18 (by decide) (by decide) _) (e 19 (by decide) (by decide) _) (e 20 (by decide) (by decide) _)⟩, V, n2, y, f.kept (e 21 (by decide) (by decide) _) (e 22 (by decide) (by decide) _)⟩
theorem CI.lkw {G : mx_G} {A : mxA} {h : mx_H} {σ : mxS} {la ea : Nat → Nat} {mk : Nat → Bool} (c : CI G A h σ la ea mk) {b : Nat} (hb : b = 13 ∨ b = 17) {F S N : Nat → Int32} {n0 : Int32} : CI G A (wo_up G h (aK A b) (aK A (b + 1)) (aK A (b + 2)) (aK A (b + 3)) F S N n0) σ la ea mk := by
  obtain ⟨⟨sa, sb, sw, a0⟩, ⟨W, b0, b2⟩, ⟨F1, S1, N1, n1, d⟩, ⟨F2, S2, N2, n2, d'⟩, V, n3, y, f⟩ := c.2.2.2.2.2.2.1
  have hK := c.2.1.1
  have e : ∀ i, i < 23 → (i < b ∨ b + 3 < i) → wo_up G h (aK A b) (aK A (b + 1)) (aK A (b + 2)) (aK A (b + 3)) F S N n0 (aK A i) = h (aK A i) := fun i hi hn => wo_up_ne (hK.ne hi (by omega) (by omega)) (hK.ne hi (by omega) (by omega)) (hK.ne hi (by omega) (by omega)) (hK.ne hi (by omega) (by omega))
  refine c.lk (fun a ha => wo_up_ne (ha _ (by omega) (by omega)) (ha _ (by omega) (by omega)) (ha _ (by omega) (by omega)) (ha _ (by omega) (by omega))) ?_ c.1 rfl rfl rfl rfl
  refine ⟨⟨sa, sb, sw, (e 11 (by decide) (by omega)).trans a0⟩, ⟨W, (e 12 (by decide) (by omega)).trans b0, b2⟩, ?_, ?_, V, n3, y, f.kept (e 21 (by decide) (by omega)) (e 22 (by decide) (by omega))⟩
  · rcases hb with rfl | rfl
    · exact ⟨F, S, N, n0, wo_at_up d.1⟩
    · exact ⟨F1, S1, N1, n1, d.kept (e 13 (by decide) (by omega)) (e 14 (by decide) (by omega)) (e 15 (by decide) (by omega)) (e 16 (by decide) (by omega))⟩
  · rcases hb with rfl | rfl
    · exact ⟨F2, S2, N2, n2, d'.kept (e 17 (by decide) (by omega)) (e 18 (by decide) (by omega)) (e 19 (by decide) (by omega)) (e 20 (by decide) (by omega))⟩
    · exact ⟨F, S, N, n0, wo_at_up d'.1⟩
theorem CI.lkb {G : mx_G} {A : mxA} {h : mx_H} {σ : mxS} {la ea : Nat → Nat} {mk : Nat → Bool} (c : CI G A h σ la ea mk) {V0 : Nat → Int32} {n0 : Int32} {x0 : Bool} : CI G A (bo_up G h (aK A 21) (aK A 22) V0 n0 x0) σ la ea mk := by
  obtain ⟨⟨sa, sb, sw, a0⟩, ⟨W, b0, b2⟩, ⟨F1, S1, N1, n1, d⟩, ⟨F2, S2, N2, n2, d'⟩, V, n3, y, f⟩ := c.2.2.2.2.2.2.1
  have hK := c.2.1.1
  have e : ∀ i, i < 21 → bo_up G h (aK A 21) (aK A 22) V0 n0 x0 (aK A i) = h (aK A i) := fun i hi => bo_up_ne (hK.ne (by omega) (by omega) (by omega)) (hK.ne (by omega) (by omega) (by omega))
  refine c.lk (fun a ha => bo_up_ne (ha _ (by omega) (by omega)) (ha _ (by omega) (by omega))) ?_ c.1 rfl rfl rfl rfl
  exact ⟨⟨sa, sb, sw, (e 11 (by decide)).trans a0⟩, ⟨W, (e 12 (by decide)).trans b0, b2⟩, ⟨F1, S1, N1, n1, d.kept (e 13 (by decide)) (e 14 (by decide)) (e 15 (by decide)) (e 16 (by decide))⟩, ⟨F2, S2, N2, n2, d'.kept (e 17 (by decide)) (e 18 (by decide)) (e 19 (by decide)) (e 20 (by decide))⟩, V0, n0, x0, bo_at_up f.1⟩
theorem OUT.K {A : mxA} {σ : mxS} {h h1 : mx_H} (hf : ∀ a, (∀ i, i < 23 → a ≠ aK A i) → h1 a = h a) : OUT A σ h h1 := fun a a1 _ _ => hf a a1
def su_wt (σ : mxS) (p u d : Nat) : mxS := (σ.1, σ.2.1, σ.2.2.1, (up1 σ.2.2.2.1 p u, up1 σ.2.2.2.2.1 p d, σ.2.2.2.2.2))
theorem si_wt {σ : mxS} (h : si σ) {p u d : Nat} (hu : u ≤ 100) (h1 : 1 ≤ d) (h2 : d ≤ 10) : si (su_wt σ p u d) := by
  obtain ⟨a1, a2, a3, a4, a5, a6, a7, a8⟩ := h
  refine ⟨a1, a2, a3, a4, a5, a6, fun q hq => ?_, a8⟩
  show up1 (st_up σ) p u q ≤ 100 ∧ 1 ≤ up1 (st_dn σ) p d q ∧ up1 (st_dn σ) p d q ≤ 10
  by_cases e : q = p
  · subst e; rw [up1_s, up1_s]; exact ⟨hu, h1, h2⟩
  · rw [up1_n e, up1_n e]; exact a7 q hq
theorem wgt_le {σ : mxS} (h : si σ) {p : Nat} (hp : p < 5) : wgt σ p ≤ 252000 := by
  obtain ⟨a, b, c⟩ := h.2.2.2.2.2.2.1 p hp
  unfold wgt
  have h1 : 2520 / st_dn σ p ≤ 2520 := Nat.div_le_self _ _
  have h2 : st_up σ p * (2520 / st_dn σ p) ≤ 100 * 2520 := Nat.mul_le_mul a h1
  omega
section LI
variable (l : Launch) (G : mx_G) (base : Nat)
set_option maxRecDepth 20000
theorem c_X4_clear (h : mx_H) {A : mxA} {σ : mxS} {la ea : Nat → Nat} {mk : Nat → Bool} (c : CI G A h σ la ea mk) :
    mx_M l G base yX4_clear cX4_clear 1 none 0 0 0 0 [.ref (aK A 11)] h (fun v h' => v = none ∧ CI G A h' σ la ea mk ∧ OUT A σ h h' ∧ LK h' (aK A) (0, 1, 0)) := by
  obtain ⟨⟨sa, sb, sw, a0⟩, -⟩ := c.2.2.2.2.2.2.1
  refine mx_enter (lo := [some (.ref (aK A 11))]) (by decide) (mx_in wd_code_yX4_clear rfl) (Nat.le_of_ble_eq_true rfl) rfl ?_
  intro p ev s mt args below meth cd C hr hnm
  have C : mx_C p s mt args meth cd cX4_clear 1 RX4 G base := C
  first | refine mx_aload_n C dX4_clear_0 (pc' := 1) rfl rfl ?_ | refine mx_aload_nq C dX4_clear_0 (pc' := 1) rfl rfl ?_
  refine mx_lconst C (v := lN 0) (by decide) dX4_clear_1 (pc' := 2) rfl ?_
  refine pX4_34 C dX4_clear_2 (pc' := 5) rfl (a0) (Nat.le_of_ble_eq_true rfl) rfl rfl (fs' := [_, _, _, _, _, _, _]) rfl ?_
  first | refine mx_aload_n C dX4_clear_5 (pc' := 6) rfl rfl ?_ | refine mx_aload_nq C dX4_clear_5 (pc' := 6) rfl rfl ?_
  refine mx_lconst C (v := lN 1) (by decide) dX4_clear_6 (pc' := 7) rfl ?_
  refine pX4_38 C dX4_clear_7 (pc' := 10) rfl (va_up_self _ _ _) (Nat.le_of_ble_eq_true rfl) rfl rfl (fs' := [_, _, _, _, _, _, _]) rfl ?_
  refine mx_heap (bx_uu _ _ _ _) ?_
  first | refine mx_aload_n C dX4_clear_10 (pc' := 11) rfl rfl ?_ | refine mx_aload_nq C dX4_clear_10 (pc' := 11) rfl rfl ?_
  refine mx_lconst C (v := lN 0) (by decide) dX4_clear_11 (pc' := 12) rfl ?_
  refine pX4_41 C dX4_clear_12 (pc' := 15) rfl (va_up_self _ _ _) (Nat.le_of_ble_eq_true rfl) rfl rfl (fs' := [_, _, _, _, _, _, _]) rfl ?_
  refine mx_heap (bx_uu _ _ _ _) ?_
  have cc := c.sums (0, 1, 0)
  exact mx_vret C hr dX4_clear_15 (by omega) (by omega) (⟨rfl, cc.1, OUT.K (fun a ha => va_up_ne _ _ (ha 11 (by decide))), cc.2⟩)
theorem c_X4_hasWeight (h : mx_H) {K : Nat → Nat} {x : Nat × Nat × Nat} (hx : LK h K x) (hb : x.2.2 < 2 ^ 63) :
    mx_M l G base yX4_hasWeight cX4_hasWeight 1 (some .boolean) 0 0 0 0 [.ref (K 11)] h (fun v h' => v = some (.int (mx_b (decide (0 < x.2.2)))) ∧ h = h') := by
  refine mx_enter (lo := [some (.ref (K 11))]) (by decide) (mx_in wd_code_yX4_hasWeight rfl) (Nat.le_of_ble_eq_true rfl) rfl ?_
  intro p ev s mt args below meth cd C hr hnm
  have C : mx_C p s mt args meth cd cX4_hasWeight 1 RX4 G base := C
  first | refine mx_aload_n C dX4_hasWeight_0 (pc' := 1) rfl rfl ?_ | refine mx_aload_nq C dX4_hasWeight_0 (pc' := 1) rfl rfl ?_
  refine gX4_41 C dX4_hasWeight_1 (pc' := 4) rfl (hx) rfl ?_
  refine mx_lconst C (v := lN 0) (by decide) dX4_hasWeight_4 (pc' := 5) rfl ?_
  refine mx_lcmp C dX4_hasWeight_5 (pc' := 6) rfl ?_
  refine mx_LN_le C dX4_hasWeight_6 (tgt := 13) (by decide) (pc' := 9) rfl (by omega) (by omega) (fun h6 => ?_) (fun h6 => ?_)
  · skip
    refine mx_iconst C (v := nI 0) (by decide) dX4_hasWeight_13 (pc' := 14) rfl ?_
    first | exact mx_zret C hr (mx_b_nz _) dX4_hasWeight_14 (by omega) (by omega) (⟨mx_ok0 (decide_eq_false (by omega)), rfl⟩) | exact mx_zret C hr rfl dX4_hasWeight_14 (by omega) (by omega) (⟨mx_ok0 (decide_eq_false (by omega)), rfl⟩)
  · skip
    refine mx_iconst C (v := nI 1) (by decide) dX4_hasWeight_9 (pc' := 10) rfl ?_
    refine mx_goto C dX4_hasWeight_10 (tgt := 14) (by decide) ?_
    first | exact mx_zret C hr (mx_b_nz _) dX4_hasWeight_14 (by omega) (by omega) (⟨mx_ok1 (decide_eq_true (by omega)), rfl⟩) | exact mx_zret C hr rfl dX4_hasWeight_14 (by omega) (by omega) (⟨mx_ok1 (decide_eq_true (by omega)), rfl⟩)
theorem c_X4_add (h : mx_H) {A : mxA} {σ : mxS} {la ea : Nat → Nat} {mk : Nat → Bool} (c : CI G A h σ la ea mk) {x : Nat × Nat × Nat} (hx : LK h (aK A) x) {p0 u d : Nat} (hp : p0 < 5) (hu : u < 2 ^ 31) (hd : d < 2 ^ 31) :
    mx_M l G base yX4_add cX4_add 4 none 0 0 0 0 [.ref (aK A 11), .int (nI p0), .int (nI u), .int (nI d)] h (fun v h' => v = none ∧ CI G A h' σ la ea mk ∧ OUT A σ h h' ∧ LK h' (aK A) (lad x (u, d) (wgt σ p0))) := by
  obtain ⟨-, ⟨W, b, b2⟩, -⟩ := c.2.2.2.2.2.2.1
  have n12 : aK A 12 ≠ aK A 11 := c.2.1.1.ne (by decide) (by decide) (by decide)
  have eW := b2 p0 hp
  refine mx_enter (lo := [some (.ref (aK A 11)), some (.int (nI p0)), some (.int (nI u)), some (.int (nI d))]) (by decide) (mx_in wd_code_yX4_add rfl) (Nat.le_of_ble_eq_true rfl) rfl ?_
  intro p ev s mt args below meth cd C hr hnm
  have C : mx_C p s mt args meth cd cX4_add 4 RX4 G base := C
  first | refine mx_aload_n C dX4_add_0 (pc' := 1) rfl rfl ?_ | refine mx_aload_nq C dX4_add_0 (pc' := 1) rfl rfl ?_
  first | refine mx_aload_n C dX4_add_1 (pc' := 2) rfl rfl ?_ | refine mx_aload_nq C dX4_add_1 (pc' := 2) rfl rfl ?_
  refine gX4_34 C dX4_add_2 (pc' := 5) rfl (hx) rfl ?_
  refine mx_iload_n C dX4_add_5 (pc' := 6) rfl rfl ?_
  refine mx_i2l C (nI_l hd) dX4_add_6 (pc' := 7) rfl ?_
  refine mx_lmul C dX4_add_7 (pc' := 8) rfl ?_
  rw [lN_mul]
  first | refine mx_aload_n C dX4_add_8 (pc' := 9) rfl rfl ?_ | refine mx_aload_nq C dX4_add_8 (pc' := 9) rfl rfl ?_
  refine gX4_38 C dX4_add_9 (pc' := 12) rfl (hx) rfl ?_
  refine mx_iload_n C dX4_add_12 (pc' := 13) rfl rfl ?_
  refine mx_i2l C (nI_l hu) dX4_add_13 (pc' := 14) rfl ?_
  refine mx_lmul C dX4_add_14 (pc' := 15) rfl ?_
  rw [lN_mul]
  first | refine mx_aload_n C dX4_add_15 (pc' := 16) rfl rfl ?_ | refine mx_aload_nq C dX4_add_15 (pc' := 16) rfl rfl ?_
  refine gX4_9 C dX4_add_16 (pc' := 19) rfl (hx) rfl ?_
  refine mx_iload_n C dX4_add_19 (pc' := 20) rfl rfl ?_
  refine mx_lald C dX4_add_20 (pc' := 21) rfl (b) (rfl) (hp) (by decide) ?_
  rw [eW]
  refine mx_lmul C dX4_add_21 (pc' := 22) rfl ?_
  rw [lN_mul]
  refine mx_ladd C dX4_add_22 (pc' := 23) rfl ?_
  rw [lN_add]
  refine pX4_34 C dX4_add_23 (pc' := 26) rfl (hx) (Nat.le_of_ble_eq_true rfl) rfl rfl (fs' := [_, _, _, _, _, _, _]) rfl ?_
  first | refine mx_aload_n C dX4_add_26 (pc' := 27) rfl rfl ?_ | refine mx_aload_nq C dX4_add_26 (pc' := 27) rfl rfl ?_
  refine mx_dup C rfl dX4_add_27 (pc' := 28) rfl ?_
  refine gX4_38 C dX4_add_28 (pc' := 31) rfl (va_up_self _ _ _) rfl ?_
  refine mx_iload_n C dX4_add_31 (pc' := 32) rfl rfl ?_
  refine mx_i2l C (nI_l hd) dX4_add_32 (pc' := 33) rfl ?_
  refine mx_lmul C dX4_add_33 (pc' := 34) rfl ?_
  rw [lN_mul]
  refine pX4_38 C dX4_add_34 (pc' := 37) rfl (va_up_self _ _ _) (Nat.le_of_ble_eq_true rfl) rfl rfl (fs' := [_, _, _, _, _, _, _]) rfl ?_
  refine mx_heap (bx_uu _ _ _ _) ?_
  first | refine mx_aload_n C dX4_add_37 (pc' := 38) rfl rfl ?_ | refine mx_aload_nq C dX4_add_37 (pc' := 38) rfl rfl ?_
  refine mx_dup C rfl dX4_add_38 (pc' := 39) rfl ?_
  refine gX4_41 C dX4_add_39 (pc' := 42) rfl (va_up_self _ _ _) rfl ?_
  first | refine mx_aload_n C dX4_add_42 (pc' := 43) rfl rfl ?_ | refine mx_aload_nq C dX4_add_42 (pc' := 43) rfl rfl ?_
  refine gX4_9 C dX4_add_43 (pc' := 46) rfl (va_up_self _ _ _) rfl ?_
  refine mx_iload_n C dX4_add_46 (pc' := 47) rfl rfl ?_
  refine mx_lald C dX4_add_47 (pc' := 48) rfl (by rw [va_up_ne _ _ n12]; exact b) (rfl) (hp) (by decide) ?_
  rw [eW]
  refine mx_ladd C dX4_add_48 (pc' := 49) rfl ?_
  rw [lN_add]
  refine pX4_41 C dX4_add_49 (pc' := 52) rfl (va_up_self _ _ _) (Nat.le_of_ble_eq_true rfl) rfl rfl (fs' := [_, _, _, _, _, _, _]) rfl ?_
  refine mx_heap (bx_uu _ _ _ _) ?_
  have cc := c.sums (lad x (u, d) (wgt σ p0))
  exact mx_vret C hr dX4_add_52 (by omega) (by omega) (⟨rfl, cc.1, OUT.K (fun a ha => va_up_ne _ _ (ha 11 (by decide))), cc.2⟩)
theorem LK.kept {h h' : mx_H} {K : Nat → Nat} {x : Nat × Nat × Nat} (hx : LK h K x) (e : h' (K 11) = h (K 11)) : LK h' K x := e.trans hx
theorem c_X4_compareTitles (h : mx_H) {A : mxA} {σ : mxS} {la ea : Nat → Nat} {mk : Nat → Bool} (c : CI G A h σ la ea mk) {x : Nat × Nat × Nat} (hx : LK h (aK A) x) {f g : Nat} (f1 : 1 ≤ f) (f2 : f ≤ st_k σ) (g1 : 1 ≤ g) (g2 : g ≤ st_k σ) :
    mx_M l G base yX4_compareTitles cX4_compareTitles 5 none 3 71 0 0 [.ref (aK A 11), .ref (aT A f), .ref (aT A g)] h (fun v h' => v = none ∧ CI G A h' σ la ea mk ∧ OUT A σ h h' ∧ LK h' (aK A) (lad x (pfC 0 (st_sg σ f) (st_sz σ f) (st_sg σ g) (st_sz σ g)) (wgt σ 0))) := by
  have hK := c.2.1.1
  have sf := (c.1.2.2.2.2.2.1.1 f f1 f2).2.2.2
  have sg := (c.1.2.2.2.2.2.1.1 g g1 g2).2.2.2
  have Bf := c.2.2.2.2.2.2.2.2.1 f f1 f2
  obtain ⟨-, -, ⟨F1, S1, N1, n1, d⟩, -⟩ := c.2.2.2.2.2.2.1
  have k11 : ∀ b, b = 13 ∨ b = 17 → ∀ (hh : mx_H) (F S N : Nat → Int32) (n0 : Int32), wo_up G hh (aK A b) (aK A (b + 1)) (aK A (b + 2)) (aK A (b + 3)) F S N n0 (aK A 11) = hh (aK A 11) := fun b hb hh F S N n0 => wo_up_ne (hK.ne (by decide) (by omega) (by omega)) (hK.ne (by decide) (by omega) (by omega)) (hK.ne (by decide) (by omega) (by omega)) (hK.ne (by decide) (by omega) (by omega))
  refine mx_enter (lo := [some (.ref (aK A 11)), some (.ref (aT A f)), some (.ref (aT A g)), none, none]) (by decide) (mx_in wd_code_yX4_compareTitles rfl) (Nat.le_of_ble_eq_true rfl) rfl ?_
  intro p ev s mt args below meth cd C hr hnm
  have C : mx_C p s mt args meth cd cX4_compareTitles 5 RX4 G base := C
  first | refine mx_aload_n C dX4_compareTitles_0 (pc' := 1) rfl rfl ?_ | refine mx_aload_nq C dX4_compareTitles_0 (pc' := 1) rfl rfl ?_
  refine gX4_20 C dX4_compareTitles_1 (pc' := 4) rfl (hx) rfl ?_
  first | refine mx_aload_n C dX4_compareTitles_4 (pc' := 5) rfl rfl ?_ | refine mx_aload_nq C dX4_compareTitles_4 (pc' := 5) rfl rfl ?_
  refine cX4_71 C dX4_compareTitles_5 (pc' := 8) rfl (d.2.1) (c_X7_read l G base h d Bf (c.2.1.2.1 f f1 f2 14 (by decide))) ⟨by decide, by decide, by decide, by decide, Nat.le_of_ble_eq_true rfl⟩ ?_
  rintro _ _ ⟨rfl, F, S, N, rfl, hok⟩
  have c1 := c.lkw (b := 13) (Or.inl rfl) (F := F) (S := S) (N := N) (n0 := nI (wcn (st_sg σ f) (st_sz σ f)))
  have hx1 := hx.kept (k11 13 (Or.inl rfl) h F S N (nI (wcn (st_sg σ f) (st_sz σ f))))
  have Bg := c1.2.2.2.2.2.2.2.2.1 g g1 g2
  obtain ⟨-, -, -, ⟨F2, S2, N2, n2, d2⟩, -⟩ := c1.2.2.2.2.2.2.1
  first | refine mx_aload_n C dX4_compareTitles_8 (pc' := 9) rfl rfl ?_ | refine mx_aload_nq C dX4_compareTitles_8 (pc' := 9) rfl rfl ?_
  refine gX4_24 C dX4_compareTitles_9 (pc' := 12) rfl (hx1) rfl ?_
  first | refine mx_aload_n C dX4_compareTitles_12 (pc' := 13) rfl rfl ?_ | refine mx_aload_nq C dX4_compareTitles_12 (pc' := 13) rfl rfl ?_
  refine cX4_71 C dX4_compareTitles_13 (pc' := 16) rfl (d2.2.1) (c_X7_read l G base _ d2 Bg (c.2.1.2.1 g g1 g2 18 (by decide))) ⟨by decide, by decide, by decide, by decide, Nat.le_of_ble_eq_true rfl⟩ ?_
  rintro _ _ ⟨rfl, F', S', N', rfl, hok'⟩
  have c2 := c1.lkw (b := 17) (Or.inr rfl) (F := F') (S := S') (N := N') (n0 := nI (wcn (st_sg σ g) (st_sz σ g)))
  have hx2 := hx1.kept (k11 17 (Or.inr rfl) _ F' S' N' (nI (wcn (st_sg σ g) (st_sz σ g))))
  have at1 := wo_at_up (G := G) (h := h) (F := F) (S := S) (N := N) (c := nI (wcn (st_sg σ f) (st_sz σ f))) d.1
  have ne17 : ∀ i, 13 ≤ i → i ≤ 16 → wo_up G (wo_up G h (aK A 13) (aK A 14) (aK A 15) (aK A 16) F S N (nI (wcn (st_sg σ f) (st_sz σ f)))) (aK A 17) (aK A 18) (aK A 19) (aK A 20) F' S' N' (nI (wcn (st_sg σ g) (st_sz σ g))) (aK A i) = wo_up G h (aK A 13) (aK A 14) (aK A 15) (aK A 16) F S N (nI (wcn (st_sg σ f) (st_sz σ f))) (aK A i) := fun i i1 i2 => wo_up_ne (hK.ne (by omega) (by omega) (by omega)) (hK.ne (by omega) (by omega) (by omega)) (hK.ne (by omega) (by omega) (by omega)) (hK.ne (by omega) (by omega) (by omega))
  have is1 : wo_is G (wo_up G (wo_up G h (aK A 13) (aK A 14) (aK A 15) (aK A 16) F S N (nI (wcn (st_sg σ f) (st_sz σ f)))) (aK A 17) (aK A 18) (aK A 19) (aK A 20) F' S' N' (nI (wcn (st_sg σ g) (st_sz σ g)))) (aK A 13) (aK A 14) (aK A 15) (aK A 16) (st_sg σ f) (st_sz σ f) := ⟨sf.1, sf.2, F, S, N, at1.kept (ne17 13 (by decide) (by decide)) (ne17 14 (by decide) (by decide)) (ne17 15 (by decide) (by decide)) (ne17 16 (by decide) (by decide)), hok⟩
  have is2 : wo_is G (wo_up G (wo_up G h (aK A 13) (aK A 14) (aK A 15) (aK A 16) F S N (nI (wcn (st_sg σ f) (st_sz σ f)))) (aK A 17) (aK A 18) (aK A 19) (aK A 20) F' S' N' (nI (wcn (st_sg σ g) (st_sz σ g)))) (aK A 17) (aK A 18) (aK A 19) (aK A 20) (st_sg σ g) (st_sz σ g) := ⟨sg.1, sg.2, F', S', N', wo_at_up d2.1, hok'⟩
  have b1 := cntB_le (cdf (st_sg σ f) (st_sz σ f)) (wcn (st_sg σ f) (st_sz σ f))
  have b2 := cntB_le (cdf (st_sg σ g) (st_sz σ g)) (wcn (st_sg σ g) (st_sz σ g))
  have b3 := tI_le (st_sg σ f) (st_sz σ f) (st_sg σ g) (st_sz σ g)
  have a1 := wcn30 (t := st_sg σ f) sf.1
  have a2 := wcn30 (t := st_sg σ g) sg.1
  have eI : cntB (cdi (st_sg σ f) (st_sz σ f) (st_sg σ g) (st_sz σ g)) (wcn (st_sg σ f) (st_sz σ f)) = tI (st_sg σ f) (st_sz σ f) (st_sg σ g) (st_sz σ g) := rfl
  have oo : OUT A σ h (wo_up G (wo_up G h (aK A 13) (aK A 14) (aK A 15) (aK A 16) F S N (nI (wcn (st_sg σ f) (st_sz σ f)))) (aK A 17) (aK A 18) (aK A 19) (aK A 20) F' S' N' (nI (wcn (st_sg σ g) (st_sz σ g)))) := OUT.K (fun a ha => by rw [wo_up_ne (ha _ (by decide)) (ha _ (by decide)) (ha _ (by decide)) (ha _ (by decide)), wo_up_ne (ha _ (by decide)) (ha _ (by decide)) (ha _ (by decide)) (ha _ (by decide))])
  first | refine mx_aload_n C dX4_compareTitles_16 (pc' := 17) rfl rfl ?_ | refine mx_aload_nq C dX4_compareTitles_16 (pc' := 17) rfl rfl ?_
  refine gX4_20 C dX4_compareTitles_17 (pc' := 20) rfl (hx2) rfl ?_
  first | refine mx_aload_n C dX4_compareTitles_20 (pc' := 21) rfl rfl ?_ | refine mx_aload_nq C dX4_compareTitles_20 (pc' := 21) rfl rfl ?_
  refine gX4_24 C dX4_compareTitles_21 (pc' := 24) rfl (hx2) rfl ?_
  refine cX4_75 C dX4_compareTitles_24 (pc' := 27) rfl (is1.2.2.choose_spec.choose_spec.choose_spec.1.2.1) (c_X7_countDifferentIn l G base _ is1 is2) ⟨by decide, by decide, by decide, by decide, Nat.le_of_ble_eq_true rfl⟩ ?_
  rintro _ _ ⟨rfl, rfl⟩
  rw [eI]
  refine mx_istore_n C dX4_compareTitles_27 (pc' := 28) rfl (by first | exact mx_c1_0 | exact mx_c1_int rfl | exact mx_c1_ref rfl | exact mx_c1_none rfl | exact mx_c1_rf rfl | exact mx_c1_null rfl) (by decide) (lo' := [_, _, _, _, _]) rfl ?_
  first | refine mx_aload_n C dX4_compareTitles_28 (pc' := 29) rfl rfl ?_ | refine mx_aload_nq C dX4_compareTitles_28 (pc' := 29) rfl rfl ?_
  refine gX4_20 C dX4_compareTitles_29 (pc' := 32) rfl (hx2) rfl ?_
  refine cX4_79 C dX4_compareTitles_32 (pc' := 35) rfl (is1.2.2.choose_spec.choose_spec.choose_spec.1.2.1) (c_X7_countDifferent l G base _ is1) ⟨by decide, by decide, by decide, by decide, Nat.le_of_ble_eq_true rfl⟩ ?_
  rintro _ _ ⟨rfl, rfl⟩
  first | refine mx_aload_n C dX4_compareTitles_35 (pc' := 36) rfl rfl ?_ | refine mx_aload_nq C dX4_compareTitles_35 (pc' := 36) rfl rfl ?_
  refine gX4_24 C dX4_compareTitles_36 (pc' := 39) rfl (hx2) rfl ?_
  refine cX4_79 C dX4_compareTitles_39 (pc' := 42) rfl (is2.2.2.choose_spec.choose_spec.choose_spec.1.2.1) (c_X7_countDifferent l G base _ is2) ⟨by decide, by decide, by decide, by decide, Nat.le_of_ble_eq_true rfl⟩ ?_
  rintro _ _ ⟨rfl, rfl⟩
  refine mx_iadd C dX4_compareTitles_42 (pc' := 43) rfl ?_
  refine mx_top (nI_add _ _) ?_
  refine mx_iload_n C dX4_compareTitles_43 (pc' := 44) rfl rfl ?_
  refine mx_isub C dX4_compareTitles_44 (pc' := 45) rfl ?_
  refine mx_top (y := nI (tO (st_sg σ f) (st_sz σ f) (st_sg σ g) (st_sz σ g))) (by rw [pk_sub (show tI (st_sg σ f) (st_sz σ f) (st_sg σ g) (st_sz σ g) ≤ _ by omega)]; rfl) ?_
  have hO : tO (st_sg σ f) (st_sz σ f) (st_sg σ g) (st_sz σ g) ≤ 60 := by unfold tO; omega
  refine mx_istore C dX4_compareTitles_45 (pc' := 47) rfl (by first | exact mx_c1_0 | exact mx_c1_int rfl | exact mx_c1_ref rfl | exact mx_c1_none rfl | exact mx_c1_rf rfl | exact mx_c1_null rfl) (by decide) (lo' := [_, _, _, _, _]) rfl ?_
  refine mx_iload C dX4_compareTitles_47 (pc' := 49) rfl rfl ?_
  refine mx_N0_ne C dX4_compareTitles_49 (tgt := 62) (by decide) (pc' := 52) rfl (by omega) (fun h49 => ?_) (fun h49 => ?_)
  · have e1 : pfC 0 (st_sg σ f) (st_sz σ f) (st_sg σ g) (st_sz σ g) = (tI (st_sg σ f) (st_sz σ f) (st_sg σ g) (st_sz σ g), tO (st_sg σ f) (st_sz σ f) (st_sg σ g) (st_sz σ g)) := by unfold pfC; rw [if_pos rfl, if_neg h49]
    first | refine mx_aload_n C dX4_compareTitles_62 (pc' := 63) rfl rfl ?_ | refine mx_aload_nq C dX4_compareTitles_62 (pc' := 63) rfl rfl ?_
    refine mx_iconst C (v := nI 0) (by decide) dX4_compareTitles_63 (pc' := 64) rfl ?_
    refine mx_iload_n C dX4_compareTitles_64 (pc' := 65) rfl rfl ?_
    refine mx_iload C dX4_compareTitles_65 (pc' := 67) rfl rfl ?_
    refine cX4_82 C dX4_compareTitles_67 (pc' := 70) rfl (hx2) (c_X4_add l G base _ c2 hx2 (show 0 < 5 by decide) (show tI (st_sg σ f) (st_sz σ f) (st_sg σ g) (st_sz σ g) < 2 ^ 31 by omega) (show tO (st_sg σ f) (st_sz σ f) (st_sg σ g) (st_sz σ g) < 2 ^ 31 by omega)) ⟨by decide, by decide, by decide, by decide, Nat.le_of_ble_eq_true rfl⟩ ?_
    rintro _ h9 ⟨rfl, c9, o9, l9⟩
    exact mx_vret C hr dX4_compareTitles_70 (by omega) (by omega) (⟨rfl, c9, oo.tr o9, by rw [e1]; exact l9⟩)
  · have e1 : pfC 0 (st_sg σ f) (st_sz σ f) (st_sg σ g) (st_sz σ g) = (0, 1) := by unfold pfC; rw [if_pos rfl, if_pos h49]
    first | refine mx_aload_n C dX4_compareTitles_52 (pc' := 53) rfl rfl ?_ | refine mx_aload_nq C dX4_compareTitles_52 (pc' := 53) rfl rfl ?_
    refine mx_iconst C (v := nI 0) (by decide) dX4_compareTitles_53 (pc' := 54) rfl ?_
    refine mx_iconst C (v := nI 0) (by decide) dX4_compareTitles_54 (pc' := 55) rfl ?_
    refine mx_iconst C (v := nI 1) (by decide) dX4_compareTitles_55 (pc' := 56) rfl ?_
    refine cX4_82 C dX4_compareTitles_56 (pc' := 59) rfl (hx2) (c_X4_add l G base _ c2 hx2 (show 0 < 5 by decide) (show 0 < 2 ^ 31 by decide) (show 1 < 2 ^ 31 by decide)) ⟨by decide, by decide, by decide, by decide, Nat.le_of_ble_eq_true rfl⟩ ?_
    rintro _ h9 ⟨rfl, c9, o9, l9⟩
    refine mx_goto C dX4_compareTitles_59 (tgt := 70) (by decide) ?_
    exact mx_vret C hr dX4_compareTitles_70 (by omega) (by omega) (⟨rfl, c9, oo.tr o9, by rw [e1]; exact l9⟩)
theorem c_X4_comparePublishers (h : mx_H) {A : mxA} {σ : mxS} {la ea : Nat → Nat} {mk : Nat → Bool} (c : CI G A h σ la ea mk) {x : Nat × Nat × Nat} (hx : LK h (aK A) x) {f g : Nat} (f1 : 1 ≤ f) (f2 : f ≤ st_k σ) (g1 : 1 ≤ g) (g2 : g ≤ st_k σ) :
    mx_M l G base yX4_comparePublishers cX4_comparePublishers 3 none 3 63 0 0 [.ref (aK A 11), .ref (aT A f), .ref (aT A g)] h (fun v h' => v = none ∧ CI G A h' σ la ea mk ∧ OUT A σ h h' ∧ LK h' (aK A) (lad x (pfC 3 (st_sg σ f) (st_sz σ f) (st_sg σ g) (st_sz σ g)) (wgt σ 3))) := by
  have hK := c.2.1.1
  have sf := (c.1.2.2.2.2.2.1.1 f f1 f2).2.2.2
  have sg := (c.1.2.2.2.2.2.1.1 g g1 g2).2.2.2
  have Bf := c.2.2.2.2.2.2.2.2.1 f f1 f2
  obtain ⟨-, -, ⟨F1, S1, N1, n1, d⟩, -⟩ := c.2.2.2.2.2.2.1
  have k11 : ∀ b, b = 13 ∨ b = 17 → ∀ (hh : mx_H) (F S N : Nat → Int32) (n0 : Int32), wo_up G hh (aK A b) (aK A (b + 1)) (aK A (b + 2)) (aK A (b + 3)) F S N n0 (aK A 11) = hh (aK A 11) := fun b hb hh F S N n0 => wo_up_ne (hK.ne (by decide) (by omega) (by omega)) (hK.ne (by decide) (by omega) (by omega)) (hK.ne (by decide) (by omega) (by omega)) (hK.ne (by decide) (by omega) (by omega))
  refine mx_enter (lo := [some (.ref (aK A 11)), some (.ref (aT A f)), some (.ref (aT A g))]) (by decide) (mx_in wd_code_yX4_comparePublishers rfl) (Nat.le_of_ble_eq_true rfl) rfl ?_
  intro p ev s mt args below meth cd C hr hnm
  have C : mx_C p s mt args meth cd cX4_comparePublishers 3 RX4 G base := C
  first | refine mx_aload_n C dX4_comparePublishers_0 (pc' := 1) rfl rfl ?_ | refine mx_aload_nq C dX4_comparePublishers_0 (pc' := 1) rfl rfl ?_
  refine gX4_20 C dX4_comparePublishers_1 (pc' := 4) rfl (hx) rfl ?_
  first | refine mx_aload_n C dX4_comparePublishers_4 (pc' := 5) rfl rfl ?_ | refine mx_aload_nq C dX4_comparePublishers_4 (pc' := 5) rfl rfl ?_
  refine cX4_71 C dX4_comparePublishers_5 (pc' := 8) rfl (d.2.1) (c_X7_read l G base h d Bf (c.2.1.2.1 f f1 f2 14 (by decide))) ⟨by decide, by decide, by decide, by decide, Nat.le_of_ble_eq_true rfl⟩ ?_
  rintro _ _ ⟨rfl, F, S, N, rfl, hok⟩
  have c1 := c.lkw (b := 13) (Or.inl rfl) (F := F) (S := S) (N := N) (n0 := nI (wcn (st_sg σ f) (st_sz σ f)))
  have hx1 := hx.kept (k11 13 (Or.inl rfl) h F S N (nI (wcn (st_sg σ f) (st_sz σ f))))
  have Bg := c1.2.2.2.2.2.2.2.2.1 g g1 g2
  obtain ⟨-, -, -, ⟨F2, S2, N2, n2, d2⟩, -⟩ := c1.2.2.2.2.2.2.1
  first | refine mx_aload_n C dX4_comparePublishers_8 (pc' := 9) rfl rfl ?_ | refine mx_aload_nq C dX4_comparePublishers_8 (pc' := 9) rfl rfl ?_
  refine gX4_24 C dX4_comparePublishers_9 (pc' := 12) rfl (hx1) rfl ?_
  first | refine mx_aload_n C dX4_comparePublishers_12 (pc' := 13) rfl rfl ?_ | refine mx_aload_nq C dX4_comparePublishers_12 (pc' := 13) rfl rfl ?_
  refine cX4_71 C dX4_comparePublishers_13 (pc' := 16) rfl (d2.2.1) (c_X7_read l G base _ d2 Bg (c.2.1.2.1 g g1 g2 18 (by decide))) ⟨by decide, by decide, by decide, by decide, Nat.le_of_ble_eq_true rfl⟩ ?_
  rintro _ _ ⟨rfl, F', S', N', rfl, hok'⟩
  have c2 := c1.lkw (b := 17) (Or.inr rfl) (F := F') (S := S') (N := N') (n0 := nI (wcn (st_sg σ g) (st_sz σ g)))
  have hx2 := hx1.kept (k11 17 (Or.inr rfl) _ F' S' N' (nI (wcn (st_sg σ g) (st_sz σ g))))
  have at1 := wo_at_up (G := G) (h := h) (F := F) (S := S) (N := N) (c := nI (wcn (st_sg σ f) (st_sz σ f))) d.1
  have ne17 : ∀ i, 13 ≤ i → i ≤ 16 → wo_up G (wo_up G h (aK A 13) (aK A 14) (aK A 15) (aK A 16) F S N (nI (wcn (st_sg σ f) (st_sz σ f)))) (aK A 17) (aK A 18) (aK A 19) (aK A 20) F' S' N' (nI (wcn (st_sg σ g) (st_sz σ g))) (aK A i) = wo_up G h (aK A 13) (aK A 14) (aK A 15) (aK A 16) F S N (nI (wcn (st_sg σ f) (st_sz σ f))) (aK A i) := fun i i1 i2 => wo_up_ne (hK.ne (by omega) (by omega) (by omega)) (hK.ne (by omega) (by omega) (by omega)) (hK.ne (by omega) (by omega) (by omega)) (hK.ne (by omega) (by omega) (by omega))
  have is1 : wo_is G (wo_up G (wo_up G h (aK A 13) (aK A 14) (aK A 15) (aK A 16) F S N (nI (wcn (st_sg σ f) (st_sz σ f)))) (aK A 17) (aK A 18) (aK A 19) (aK A 20) F' S' N' (nI (wcn (st_sg σ g) (st_sz σ g)))) (aK A 13) (aK A 14) (aK A 15) (aK A 16) (st_sg σ f) (st_sz σ f) := ⟨sf.1, sf.2, F, S, N, at1.kept (ne17 13 (by decide) (by decide)) (ne17 14 (by decide) (by decide)) (ne17 15 (by decide) (by decide)) (ne17 16 (by decide) (by decide)), hok⟩
  have is2 : wo_is G (wo_up G (wo_up G h (aK A 13) (aK A 14) (aK A 15) (aK A 16) F S N (nI (wcn (st_sg σ f) (st_sz σ f)))) (aK A 17) (aK A 18) (aK A 19) (aK A 20) F' S' N' (nI (wcn (st_sg σ g) (st_sz σ g)))) (aK A 17) (aK A 18) (aK A 19) (aK A 20) (st_sg σ g) (st_sz σ g) := ⟨sg.1, sg.2, F', S', N', wo_at_up d2.1, hok'⟩
  have oo : OUT A σ h (wo_up G (wo_up G h (aK A 13) (aK A 14) (aK A 15) (aK A 16) F S N (nI (wcn (st_sg σ f) (st_sz σ f)))) (aK A 17) (aK A 18) (aK A 19) (aK A 20) F' S' N' (nI (wcn (st_sg σ g) (st_sz σ g)))) := OUT.K (fun a ha => by rw [wo_up_ne (ha _ (by decide)) (ha _ (by decide)) (ha _ (by decide)) (ha _ (by decide)), wo_up_ne (ha _ (by decide)) (ha _ (by decide)) (ha _ (by decide)) (ha _ (by decide))])
  first | refine mx_aload_n C dX4_comparePublishers_16 (pc' := 17) rfl rfl ?_ | refine mx_aload_nq C dX4_comparePublishers_16 (pc' := 17) rfl rfl ?_
  refine mx_iconst C (v := nI 3) (by decide) dX4_comparePublishers_17 (pc' := 18) rfl ?_
  first | refine mx_aload_n C dX4_comparePublishers_18 (pc' := 19) rfl rfl ?_ | refine mx_aload_nq C dX4_comparePublishers_18 (pc' := 19) rfl rfl ?_
  refine gX4_20 C dX4_comparePublishers_19 (pc' := 22) rfl (hx2) rfl ?_
  first | refine mx_aload_n C dX4_comparePublishers_22 (pc' := 23) rfl rfl ?_ | refine mx_aload_nq C dX4_comparePublishers_22 (pc' := 23) rfl rfl ?_
  refine gX4_24 C dX4_comparePublishers_23 (pc' := 26) rfl (hx2) rfl ?_
  refine cX4_102 C dX4_comparePublishers_26 (pc' := 29) rfl (is1.2.2.choose_spec.choose_spec.choose_spec.1.2.1) (c_X7_sameRow l G base _ is1 is2) ⟨by decide, by decide, by decide, by decide, Nat.le_of_ble_eq_true rfl⟩ ?_
  rintro _ _ ⟨rfl, rfl⟩
  refine mx_B_eq C dX4_comparePublishers_29 (tgt := 36) (by decide) (pc' := 32) rfl (fun h29 => ?_) (fun h29 => ?_)
  · have e1 : pfC 3 (st_sg σ f) (st_sz σ f) (st_sg σ g) (st_sz σ g) = (0, 1) := by
      have z : sRow (st_sg σ f) (st_sz σ f) (st_sg σ g) (st_sz σ g) = false := h29
      unfold pfC; rw [z]; rfl
    refine mx_iconst C (v := nI 0) (by decide) dX4_comparePublishers_36 (pc' := 37) rfl ?_
    refine mx_iconst C (v := nI 1) (by decide) dX4_comparePublishers_37 (pc' := 38) rfl ?_
    refine cX4_82 C dX4_comparePublishers_38 (pc' := 41) rfl (hx2) (c_X4_add l G base _ c2 hx2 (show 3 < 5 by decide) (show 0 < 2 ^ 31 by decide) (show 1 < 2 ^ 31 by decide)) ⟨by decide, by decide, by decide, by decide, Nat.le_of_ble_eq_true rfl⟩ ?_
    rintro _ h9 ⟨rfl, c9, o9, l9⟩
    exact mx_vret C hr dX4_comparePublishers_41 (by omega) (by omega) (⟨rfl, c9, oo.tr o9, by rw [e1]; exact l9⟩)
  · have e1 : pfC 3 (st_sg σ f) (st_sz σ f) (st_sg σ g) (st_sz σ g) = (1, 1) := by
      have z : sRow (st_sg σ f) (st_sz σ f) (st_sg σ g) (st_sz σ g) = true := h29
      unfold pfC; rw [z]; rfl
    refine mx_iconst C (v := nI 1) (by decide) dX4_comparePublishers_32 (pc' := 33) rfl ?_
    refine mx_goto C dX4_comparePublishers_33 (tgt := 37) (by decide) ?_
    refine mx_iconst C (v := nI 1) (by decide) dX4_comparePublishers_37 (pc' := 38) rfl ?_
    refine cX4_82 C dX4_comparePublishers_38 (pc' := 41) rfl (hx2) (c_X4_add l G base _ c2 hx2 (show 3 < 5 by decide) (show 1 < 2 ^ 31 by decide) (show 1 < 2 ^ 31 by decide)) ⟨by decide, by decide, by decide, by decide, Nat.le_of_ble_eq_true rfl⟩ ?_
    rintro _ h9 ⟨rfl, c9, o9, l9⟩
    exact mx_vret C hr dX4_comparePublishers_41 (by omega) (by omega) (⟨rfl, c9, oo.tr o9, by rw [e1]; exact l9⟩)
theorem c_X4_compareBookNumbers (h : mx_H) {A : mxA} {σ : mxS} {la ea : Nat → Nat} {mk : Nat → Bool} (c : CI G A h σ la ea mk) {x : Nat × Nat × Nat} (hx : LK h (aK A) x) {f g : Nat} (f1 : 1 ≤ f) (f2 : f ≤ st_k σ) (g1 : 1 ≤ g) (g2 : g ≤ st_k σ) :
    mx_M l G base yX4_compareBookNumbers cX4_compareBookNumbers 6 none 4 85 0 0 [.ref (aK A 11), .ref (aT A f), .ref (aT A g)] h (fun v h' => v = none ∧ CI G A h' σ la ea mk ∧ OUT A σ h h' ∧ LK h' (aK A) (lad x (pfC 2 (st_sg σ f) (st_sz σ f) (st_sg σ g) (st_sz σ g)) (wgt σ 2))) := by
  have hK := c.2.1.1
  have Bf := c.2.2.2.2.2.2.2.2.1 f f1 f2
  obtain ⟨-, -, -, -, V, n0, y, d⟩ := c.2.2.2.2.2.2.1
  have k11 : ∀ (hh : mx_H) (V : Nat → Int32) (n0 : Int32) (y : Bool), bo_up G hh (aK A 21) (aK A 22) V n0 y (aK A 11) = hh (aK A 11) := fun hh V n0 y => bo_up_ne (hK.ne (by decide) (by omega) (by omega)) (hK.ne (by decide) (by omega) (by omega))
  have kO : ∀ (hh : mx_H) (V : Nat → Int32) (n0 : Int32) (y : Bool), OUT A σ hh (bo_up G hh (aK A 21) (aK A 22) V n0 y) := fun hh V n0 y => OUT.K (fun a ha => bo_up_ne (ha _ (by decide)) (ha _ (by decide)))
  refine mx_enter (lo := [some (.ref (aK A 11)), some (.ref (aT A f)), some (.ref (aT A g)), none, none, none]) (by decide) (mx_in wd_code_yX4_compareBookNumbers rfl) (Nat.le_of_ble_eq_true rfl) rfl ?_
  intro p ev s mt args below meth cd C hr hnm
  have C : mx_C p s mt args meth cd cX4_compareBookNumbers 6 RX4 G base := C
  have done : ∀ (hh : mx_H) (b : Bool) (o3 : Option Value) (o4 : Option Value), CI G A hh σ la ea mk → LK hh (aK A) x → OUT A σ h hh → pfC 2 (st_sg σ f) (st_sz σ f) (st_sg σ g) (st_sz σ g) = ((if b then 1 else 0), 1) → mx_V p l ev { frames := 4, cells := 0, slots := 0, locals := 85 } s mt args below meth cd G base 6 (MQ below (mx_Qc G base (fun v h' => v = none ∧ CI G A h' σ la ea mk ∧ OUT A σ h h' ∧ LK h' (aK A) (lad x (pfC 2 (st_sg σ f) (st_sz σ f) (st_sg σ g) (st_sz σ g)) (wgt σ 2)))) args s 0 0 (mx_A base)) hh 0 0 37 [some (.ref (aK A 11)), some (.ref (aT A f)), some (.ref (aT A g)), o3, o4, some (.int (mx_b b))] [] := by
    intro hh b o3 o4 cc hl ho e1
    first | refine mx_aload_n C dX4_compareBookNumbers_37 (pc' := 38) rfl rfl ?_ | refine mx_aload_nq C dX4_compareBookNumbers_37 (pc' := 38) rfl rfl ?_
    refine mx_iconst C (v := nI 2) (by decide) dX4_compareBookNumbers_38 (pc' := 39) rfl ?_
    refine mx_iload C dX4_compareBookNumbers_39 (pc' := 41) rfl rfl ?_
    refine mx_B_eq C dX4_compareBookNumbers_41 (tgt := 48) (by decide) (pc' := 44) rfl (fun h41 => ?_) (fun h41 => ?_)
    · subst h41
      refine mx_iconst C (v := nI 0) (by decide) dX4_compareBookNumbers_48 (pc' := 49) rfl ?_
      refine mx_iconst C (v := nI 1) (by decide) dX4_compareBookNumbers_49 (pc' := 50) rfl ?_
      refine cX4_82 C dX4_compareBookNumbers_50 (pc' := 53) rfl (hl) (c_X4_add l G base _ cc hl (show 2 < 5 by decide) (show 0 < 2 ^ 31 by decide) (show 1 < 2 ^ 31 by decide)) ⟨by decide, by decide, by decide, by decide, Nat.le_of_ble_eq_true rfl⟩ ?_
      rintro _ h9 ⟨rfl, c9, o9, l9⟩
      exact mx_vret C hr dX4_compareBookNumbers_53 (by omega) (by omega) (⟨rfl, c9, ho.tr o9, by rw [e1]; exact l9⟩)
    · subst h41
      refine mx_iconst C (v := nI 1) (by decide) dX4_compareBookNumbers_44 (pc' := 45) rfl ?_
      refine mx_goto C dX4_compareBookNumbers_45 (tgt := 49) (by decide) ?_
      refine mx_iconst C (v := nI 1) (by decide) dX4_compareBookNumbers_49 (pc' := 50) rfl ?_
      refine cX4_82 C dX4_compareBookNumbers_50 (pc' := 53) rfl (hl) (c_X4_add l G base _ cc hl (show 2 < 5 by decide) (show 1 < 2 ^ 31 by decide) (show 1 < 2 ^ 31 by decide)) ⟨by decide, by decide, by decide, by decide, Nat.le_of_ble_eq_true rfl⟩ ?_
      rintro _ h9 ⟨rfl, c9, o9, l9⟩
      exact mx_vret C hr dX4_compareBookNumbers_53 (by omega) (by omega) (⟨rfl, c9, ho.tr o9, by rw [e1]; exact l9⟩)
  first | refine mx_aload_n C dX4_compareBookNumbers_0 (pc' := 1) rfl rfl ?_ | refine mx_aload_nq C dX4_compareBookNumbers_0 (pc' := 1) rfl rfl ?_
  refine gX4_30 C dX4_compareBookNumbers_1 (pc' := 4) rfl (hx) rfl ?_
  first | refine mx_aload_n C dX4_compareBookNumbers_4 (pc' := 5) rfl rfl ?_ | refine mx_aload_nq C dX4_compareBookNumbers_4 (pc' := 5) rfl rfl ?_
  refine cX4_96 C dX4_compareBookNumbers_5 (pc' := 8) rfl (d.2.1) (c_X1_formOf l G base h d Bf) ⟨by decide, by decide, by decide, by decide, Nat.le_of_ble_eq_true rfl⟩ ?_
  rintro _ _ ⟨rfl, V', n', y', rfl⟩
  refine mx_lstore_n C dX4_compareBookNumbers_8 (pc' := 9) rfl (by first | exact mx_c1_0 | exact mx_c1_int rfl | exact mx_c1_ref rfl | exact mx_c1_none rfl | exact mx_c1_rf rfl | exact mx_c1_null rfl) (by decide) (lo' := [_, _, _, _, _, _]) rfl ?_
  refine mx_lload_n C dX4_compareBookNumbers_9 (pc' := 10) rfl rfl ?_
  refine kX4_100 C dX4_compareBookNumbers_10 (pc' := 13) rfl ?_
  refine mx_lcmp C dX4_compareBookNumbers_13 (pc' := 14) rfl ?_
  have c1 := c.lkb (V0 := V') (n0 := n') (x0 := y')
  have hx1 := hx.kept (k11 h V' n' y')
  have e2 : pfC 2 (st_sg σ f) (st_sz σ f) (st_sg σ g) (st_sz σ g) = ((if bform (st_sg σ f) (st_sz σ f) ≠ none ∧ bform (st_sg σ f) (st_sz σ f) = bform (st_sg σ g) (st_sz σ g) then 1 else 0), 1) := rfl
  refine mx_L_eq C dX4_compareBookNumbers_14 (tgt := 34) (by decide) (pc' := 17) rfl (fun h14 => ?_) (fun h14 => ?_)
  · have h14 := bfL_none.mp h14
    refine mx_iconst C (v := nI 0) (by decide) dX4_compareBookNumbers_34 (pc' := 35) rfl ?_
    refine mx_istore C dX4_compareBookNumbers_35 (pc' := 37) rfl (by first | exact mx_c1_0 | exact mx_c1_int rfl | exact mx_c1_ref rfl | exact mx_c1_none rfl | exact mx_c1_rf rfl | exact mx_c1_null rfl) (by decide) (lo' := [_, _, _, _, _, _]) rfl ?_
    exact done _ false _ _ c1 hx1 (kO _ _ _ _) (by rw [e2, if_neg (fun z => z.1 h14)]; rfl)
  have h14 : bform (st_sg σ f) (st_sz σ f) ≠ none := fun z => h14 (bfL_none.mpr z)
  have Bg := c1.2.2.2.2.2.2.2.2.1 g g1 g2
  refine mx_lload_n C dX4_compareBookNumbers_17 (pc' := 18) rfl rfl ?_
  first | refine mx_aload_n C dX4_compareBookNumbers_18 (pc' := 19) rfl rfl ?_ | refine mx_aload_nq C dX4_compareBookNumbers_18 (pc' := 19) rfl rfl ?_
  refine gX4_30 C dX4_compareBookNumbers_19 (pc' := 22) rfl (hx1) rfl ?_
  first | refine mx_aload_n C dX4_compareBookNumbers_22 (pc' := 23) rfl rfl ?_ | refine mx_aload_nq C dX4_compareBookNumbers_22 (pc' := 23) rfl rfl ?_
  refine cX4_96 C dX4_compareBookNumbers_23 (pc' := 26) rfl ((bo_at_up d.1).2.1) (c_X1_formOf l G base _ (bo_at_up d.1) Bg) ⟨by decide, by decide, by decide, by decide, Nat.le_of_ble_eq_true rfl⟩ ?_
  rintro _ _ ⟨rfl, V2, n2, y2, rfl⟩
  refine mx_lcmp C dX4_compareBookNumbers_26 (pc' := 27) rfl ?_
  have c2 := c1.lkb (V0 := V2) (n0 := n2) (x0 := y2)
  have hx2 := hx1.kept (k11 _ V2 n2 y2)
  have hinj : bfL (bform (st_sg σ f) (st_sz σ f)) = bfL (bform (st_sg σ g) (st_sz σ g)) ↔ bform (st_sg σ f) (st_sz σ f) = bform (st_sg σ g) (st_sz σ g) := by
    constructor
    · intro z
      cases hf : bform (st_sg σ f) (st_sz σ f) with
      | none => exact absurd hf h14
      | some u =>
        cases hg : bform (st_sg σ g) (st_sz σ g) with
        | none =>
          rw [bfL_none.mpr hg] at z
          exact absurd (bfL_none.mp z) h14
        | some w =>
          rw [hf, hg] at z
          have q1 := bform_le hf
          have q2 := bform_le hg
          rw [(pk_lEQ (a := u) (b := w) (by omega) (by omega)).mp z]
    · intro z; rw [z]
  refine mx_L_ne C dX4_compareBookNumbers_27 (tgt := 34) (by decide) (pc' := 30) rfl (fun h27 => ?_) (fun h27 => ?_)
  · skip
    refine mx_iconst C (v := nI 0) (by decide) dX4_compareBookNumbers_34 (pc' := 35) rfl ?_
    refine mx_istore C dX4_compareBookNumbers_35 (pc' := 37) rfl (by first | exact mx_c1_0 | exact mx_c1_int rfl | exact mx_c1_ref rfl | exact mx_c1_none rfl | exact mx_c1_rf rfl | exact mx_c1_null rfl) (by decide) (lo' := [_, _, _, _, _, _]) rfl ?_
    exact done _ false _ _ c2 hx2 ((kO _ _ _ _).tr (kO _ _ _ _)) (by rw [e2, if_neg (fun z => h27 (hinj.mpr z.2))]; rfl)
  · skip
    refine mx_iconst C (v := nI 1) (by decide) dX4_compareBookNumbers_30 (pc' := 31) rfl ?_
    refine mx_goto C dX4_compareBookNumbers_31 (tgt := 35) (by decide) ?_
    refine mx_istore C dX4_compareBookNumbers_35 (pc' := 37) rfl (by first | exact mx_c1_0 | exact mx_c1_int rfl | exact mx_c1_ref rfl | exact mx_c1_none rfl | exact mx_c1_rf rfl | exact mx_c1_null rfl) (by decide) (lo' := [_, _, _, _, _, _]) rfl ?_
    exact done _ true _ _ c2 hx2 ((kO _ _ _ _).tr (kO _ _ _ _)) (by rw [e2, if_pos ⟨h14, hinj.mp h27⟩]; rfl)
theorem c_X4_comparePages (h : mx_H) {A : mxA} {σ : mxS} {la ea : Nat → Nat} {mk : Nat → Bool} (c : CI G A h σ la ea mk) {x : Nat × Nat × Nat} (hx : LK h (aK A) x) {a b : Nat} (ha : a < 10000) (hb : b < 10000) :
    mx_M l G base yX4_comparePages cX4_comparePages 3 none 1 24 0 0 [.ref (aK A 11), .int (nI a), .int (nI b)] h (fun v h' => v = none ∧ CI G A h' σ la ea mk ∧ OUT A σ h h' ∧ LK h' (aK A) (lad x (if a = b then (1, 1) else (min a b, max a b)) (wgt σ 4))) := by
  refine mx_enter (lo := [some (.ref (aK A 11)), some (.int (nI a)), some (.int (nI b))]) (by decide) (mx_in wd_code_yX4_comparePages rfl) (Nat.le_of_ble_eq_true rfl) rfl ?_
  intro p ev s mt args below meth cd C hr hnm
  have C : mx_C p s mt args meth cd cX4_comparePages 3 RX4 G base := C
  refine mx_iload_n C dX4_comparePages_0 (pc' := 1) rfl rfl ?_
  refine mx_iload_n C dX4_comparePages_1 (pc' := 2) rfl rfl ?_
  refine mx_N_ne C dX4_comparePages_2 (tgt := 15) (by decide) (pc' := 5) rfl (by omega) (by omega) (fun h2 => ?_) (fun h2 => ?_)
  · have e1 : (if nI b < nI a then nI b else nI a) = nI (min a b) := by
      by_cases e : b < a
      · rw [if_pos (nI_lt e (by omega)), Nat.min_eq_right (by omega)]
      · rw [if_neg (nI_nlt (by omega) (by omega)), Nat.min_eq_left (by omega)]
    have e2 : (if nI a < nI b then nI b else nI a) = nI (max a b) := by
      by_cases e : a < b
      · rw [if_pos (nI_lt e (by omega)), Nat.max_eq_right (by omega)]
      · rw [if_neg (nI_nlt (by omega) (by omega)), Nat.max_eq_left (by omega)]
    first | refine mx_aload_n C dX4_comparePages_15 (pc' := 16) rfl rfl ?_ | refine mx_aload_nq C dX4_comparePages_15 (pc' := 16) rfl rfl ?_
    refine mx_iconst C (v := nI 4) (by decide) dX4_comparePages_16 (pc' := 17) rfl ?_
    refine mx_iload_n C dX4_comparePages_17 (pc' := 18) rfl rfl ?_
    refine mx_iload_n C dX4_comparePages_18 (pc' := 19) rfl rfl ?_
    refine mx_mmin C (mx_in wd_m_RX4_106 rfl) dX4_comparePages_19 (pc' := 22) rfl ⟨by decide, Nat.le_of_ble_eq_true rfl, by decide, by decide⟩ ?_
    refine mx_top e1 ?_
    refine mx_iload_n C dX4_comparePages_22 (pc' := 23) rfl rfl ?_
    refine mx_iload_n C dX4_comparePages_23 (pc' := 24) rfl rfl ?_
    refine mx_mmax C (mx_in wd_m_RX4_92 rfl) dX4_comparePages_24 (pc' := 27) rfl ⟨by decide, Nat.le_of_ble_eq_true rfl, by decide, by decide⟩ ?_
    refine mx_top e2 ?_
    refine cX4_82 C dX4_comparePages_27 (pc' := 30) rfl (hx) (c_X4_add l G base _ c hx (show 4 < 5 by decide) (show min a b < 2 ^ 31 by omega) (show max a b < 2 ^ 31 by omega)) ⟨by decide, by decide, by decide, by decide, Nat.le_of_ble_eq_true rfl⟩ ?_
    rintro _ h9 ⟨rfl, c9, o9, l9⟩
    exact mx_vret C hr dX4_comparePages_30 (by omega) (by omega) (⟨rfl, c9, o9, by rw [if_neg h2]; exact l9⟩)
  · skip
    first | refine mx_aload_n C dX4_comparePages_5 (pc' := 6) rfl rfl ?_ | refine mx_aload_nq C dX4_comparePages_5 (pc' := 6) rfl rfl ?_
    refine mx_iconst C (v := nI 4) (by decide) dX4_comparePages_6 (pc' := 7) rfl ?_
    refine mx_iconst C (v := nI 1) (by decide) dX4_comparePages_7 (pc' := 8) rfl ?_
    refine mx_iconst C (v := nI 1) (by decide) dX4_comparePages_8 (pc' := 9) rfl ?_
    refine cX4_82 C dX4_comparePages_9 (pc' := 12) rfl (hx) (c_X4_add l G base _ c hx (show 4 < 5 by decide) (show 1 < 2 ^ 31 by omega) (show 1 < 2 ^ 31 by omega)) ⟨by decide, by decide, by decide, by decide, Nat.le_of_ble_eq_true rfl⟩ ?_
    rintro _ h9 ⟨rfl, c9, o9, l9⟩
    refine mx_goto C dX4_comparePages_12 (tgt := 30) (by decide) ?_
    exact mx_vret C hr dX4_comparePages_30 (by omega) (by omega) (⟨rfl, c9, o9, by rw [if_pos h2]; exact l9⟩)
theorem c_X4_compareYears (h : mx_H) {A : mxA} {σ : mxS} {la ea : Nat → Nat} {mk : Nat → Bool} (c : CI G A h σ la ea mk) {x : Nat × Nat × Nat} (hx : LK h (aK A) x) {a b : Nat} (ha : a < 10000) (hb : b < 10000) :
    mx_M l G base yX4_compareYears cX4_compareYears 4 none 1 24 0 0 [.ref (aK A 11), .int (nI a), .int (nI b)] h (fun v h' => v = none ∧ CI G A h' σ la ea mk ∧ OUT A σ h h' ∧ LK h' (aK A) (lad x ((if a = b then 2 else if a = b + 1 ∨ b = a + 1 then 1 else 0), 2) (wgt σ 1))) := by
  refine mx_enter (lo := [some (.ref (aK A 11)), some (.int (nI a)), some (.int (nI b)), none]) (by decide) (mx_in wd_code_yX4_compareYears rfl) (Nat.le_of_ble_eq_true rfl) rfl ?_
  intro p ev s mt args below meth cd C hr hnm
  have C : mx_C p s mt args meth cd cX4_compareYears 4 RX4 G base := C
  have e1 : (if 0 ≤ nI a - nI b then nI a - nI b else 0 - (nI a - nI b)) = nI (if a ≤ b then b - a else a - b) := by
    by_cases e : b ≤ a
    · rw [pk_sub e, if_pos (nI_pos' (by omega))]
      by_cases e2 : a ≤ b
      · rw [if_pos e2]; exact congrArg nI (by omega)
      · rw [if_neg e2]
    · rw [if_neg (fun z => absurd (pk_sneg (a := a) (b := b) (by omega) (by omega)) (Int32.not_lt.mpr z)), if_pos (show a ≤ b by omega), ← pk_sub (show a ≤ b by omega)]
      apply Int32.toBitVec_inj.mp
      simp [Int32.toBitVec_sub]
  have e2 : (if nI 0 < nI 2 - nI (if a ≤ b then b - a else a - b) then nI 2 - nI (if a ≤ b then b - a else a - b) else nI 0) = nI (if a = b then 2 else if a = b + 1 ∨ b = a + 1 then 1 else 0) := by
    obtain ⟨d, ed⟩ : ∃ d, d = (if a ≤ b then b - a else a - b) := ⟨_, rfl⟩
    rw [← ed]
    by_cases e : a = b
    · have : d = 0 := by rw [ed]; split <;> omega
      rw [if_pos e, this]; decide
    · rw [if_neg e]
      by_cases e3 : a = b + 1 ∨ b = a + 1
      · have : d = 1 := by rw [ed]; split <;> omega
        rw [if_pos e3, this]; decide
      · rw [if_neg e3]
        have hd : 2 ≤ d := by rw [ed]; split <;> omega
        have hd2 : d < 10000 := by rw [ed]; split <;> omega
        refine if_neg (fun z => ?_)
        rw [Int32.lt_iff_toInt_lt, pk_sub_toInt (by omega) (by omega), nI_toInt (by omega)] at z
        omega
  refine mx_iload_n C dX4_compareYears_0 (pc' := 1) rfl rfl ?_
  refine mx_iload_n C dX4_compareYears_1 (pc' := 2) rfl rfl ?_
  refine mx_isub C dX4_compareYears_2 (pc' := 3) rfl ?_
  refine mx_mabs C (mx_in wd_m_RX4_86 rfl) dX4_compareYears_3 (pc' := 6) rfl ⟨by decide, Nat.le_of_ble_eq_true rfl, by decide, by decide⟩ ?_
  refine mx_top e1 ?_
  refine mx_istore_n C dX4_compareYears_6 (pc' := 7) rfl (by first | exact mx_c1_0 | exact mx_c1_int rfl | exact mx_c1_ref rfl | exact mx_c1_none rfl | exact mx_c1_rf rfl | exact mx_c1_null rfl) (by decide) (lo' := [_, _, _, _]) rfl ?_
  have hu : (if a = b then 2 else if a = b + 1 ∨ b = a + 1 then 1 else 0) < 2 ^ 31 := by split; omega; split <;> omega
  first | refine mx_aload_n C dX4_compareYears_7 (pc' := 8) rfl rfl ?_ | refine mx_aload_nq C dX4_compareYears_7 (pc' := 8) rfl rfl ?_
  refine mx_iconst C (v := nI 1) (by decide) dX4_compareYears_8 (pc' := 9) rfl ?_
  refine mx_iconst C (v := nI 0) (by decide) dX4_compareYears_9 (pc' := 10) rfl ?_
  refine mx_iconst C (v := nI 2) (by decide) dX4_compareYears_10 (pc' := 11) rfl ?_
  refine mx_iload_n C dX4_compareYears_11 (pc' := 12) rfl rfl ?_
  refine mx_isub C dX4_compareYears_12 (pc' := 13) rfl ?_
  refine mx_mmax C (mx_in wd_m_RX4_92 rfl) dX4_compareYears_13 (pc' := 16) rfl ⟨by decide, Nat.le_of_ble_eq_true rfl, by decide, by decide⟩ ?_
  refine mx_top e2 ?_
  refine mx_iconst C (v := nI 2) (by decide) dX4_compareYears_16 (pc' := 17) rfl ?_
  refine cX4_82 C dX4_compareYears_17 (pc' := 20) rfl (hx) (c_X4_add l G base _ c hx (show 1 < 5 by decide) hu (show 2 < 2 ^ 31 by decide)) ⟨by decide, by decide, by decide, by decide, Nat.le_of_ble_eq_true rfl⟩ ?_
  rintro _ h9 ⟨rfl, c9, o9, l9⟩
  exact mx_vret C hr dX4_compareYears_20 (by omega) (by omega) (⟨rfl, c9, o9, l9⟩)
end LI
