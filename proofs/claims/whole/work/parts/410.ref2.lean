/-! the reference: forms of book numbers -/
theorem s10_cg {V U : Nat → Nat} {k : Nat} (h : ∀ i, i < k → V i = U i) : s10 V k = s10 U k := by
  induction k with
  | zero => rfl
  | succ k ih => simp only [s10]; rw [ih (fun i hi => h i (by omega)), h k (by omega)]
theorem s13_cg {V U : Nat → Nat} {k : Nat} (h : ∀ i, i < k → V i = U i) : s13 V k = s13 U k := by
  induction k with
  | zero => rfl
  | succ k ih => simp only [s13]; rw [ih (fun i hi => h i (by omega)), h k (by omega)]
theorem dF_cg {V U : Nat → Nat} {a k : Nat} (h : ∀ i, i < k → V i = U i) : dF V a k = dF U a k := by
  induction k with
  | zero => rfl
  | succ k ih => simp only [dF]; rw [ih (fun i hi => h i (by omega)), h k (by omega)]
theorem dF_lt {V : Nat → Nat} {a k : Nat} (h : ∀ i, i < k → V i ≤ 9) : dF V a k + 1 ≤ (a + 1) * 10 ^ k := by
  induction k with
  | zero => simp [dF]
  | succ k ih =>
    have h1 := ih (fun i hi => h i (by omega))
    have h2 := h k (by omega)
    simp only [dF, Nat.pow_succ, ← Nat.mul_assoc]; omega
theorem dF_a {V : Nat → Nat} {a k : Nat} : dF V a k = a * 10 ^ k + dF V 0 k := by
  induction k with
  | zero => simp [dF]
  | succ k ih => simp only [dF, Nat.pow_succ, ← Nat.mul_assoc]; rw [ih]; omega
theorem bform_lt {t : Nat → Nat} {n f : Nat} (h : bform t n = some f) : f < 10000000000000 := by
  obtain ⟨w1, w2, -⟩ := bv_in t n
  unfold bform at h
  split at h
  · rename_i hc
    have := dF_lt (V := bv t n) (a := 978) (k := 9) (fun i hi => (w1 i (by omega)).2 (by omega))
    cases h
    omega
  · split at h
    · rename_i hc
      have := dF_lt (V := bv t n) (a := 0) (k := 13) (fun i hi => w2 hc.2.1 i (by omega))
      cases h
      omega
    · cases h
/-- what the reference sums up: the number of the signs kept so far (an X as 0), that of the first nine -/
def rv (t : Nat → Nat) : Nat → Nat
  | 0 => 0
  | i + 1 => if bkp (t i) (bn t i) then (if bn t i < 13 then 10 * rv t i + (if bcr (t i) (bn t i) then 0 else bvl (t i)) else rv t i) else rv t i
def rq (t : Nat → Nat) : Nat → Nat
  | 0 => 0
  | i + 1 => if bkp (t i) (bn t i) then (if bn t i < 9 then rv t (i + 1) else rq t i) else rq t i
theorem bv_keep {t : Nat → Nat} {i k : Nat} (h : k < bn t i) : bv t (i + 1) k = bv t i k := by
  rw [bv_s]
  have : ¬ k = bn t i := by omega
  simp [this]
theorem bv_new {t : Nat → Nat} {i : Nat} (h : bkp (t i) (bn t i) = true) : bv t (i + 1) (bn t i) = bvl (t i) := by
  rw [bv_s, h]; simp
theorem bcr_9 {c n : Nat} (h : bcr c n = true) : n = 9 := by
  unfold bcr at h
  simp at h
  exact h.2.2
theorem bvl_9 {c n : Nat} (h : bkp c n = true) (h2 : bcr c n = false) : bvl c ≤ 9 := by
  unfold bkp at h
  unfold bcr at h2
  unfold bvl
  cases hd : dg c with
  | true => have := dg_i hd; simp; omega
  | false =>
    rw [hd] at h h2
    simp at h h2
    exact absurd h.2 (h2 h.1)
theorem rv_in (t : Nat → Nat) (i : Nat) : rv t i + 1 ≤ 10 ^ (min (bn t i) 13) ∧ (bx t i = false → rv t i = dF (bv t i) 0 (min (bn t i) 13)) ∧ rq t i = dF (bv t i) 0 (min (bn t i) 9) := by
  induction i with
  | zero => simp [rv, rq, bn, dF]
  | succ i ih =>
    obtain ⟨h1, h2, h3⟩ := ih
    have hw := (bv_in t i).2.2
    by_cases hk : bkp (t i) (bn t i) = true
    · have e1 : bn t (i + 1) = bn t i + 1 := by rw [bn_s, if_pos hk]
      have e2 : rv t (i + 1) = if bn t i < 13 then 10 * rv t i + (if bcr (t i) (bn t i) then 0 else bvl (t i)) else rv t i := by simp only [rv]; rw [if_pos hk]
      have e3 : rq t (i + 1) = if bn t i < 9 then rv t (i + 1) else rq t i := by
        show (if bkp (t i) (bn t i) then _ else _) = _
        rw [if_pos hk]
      have e4 : bx t (i + 1) = (bx t i || bcr (t i) (bn t i)) := bx_s t i
      have a1 : rv t (i + 1) + 1 ≤ 10 ^ (min (bn t i + 1) 13) := by
        rw [e2]
        by_cases e : bn t i < 13
        · rw [if_pos e, Nat.min_eq_left (by omega), Nat.pow_succ]
          rw [Nat.min_eq_left (by omega)] at h1
          by_cases e5 : bcr (t i) (bn t i) = true
          · rw [if_pos e5]; omega
          · have := bvl_9 hk (by simpa using e5)
            rw [if_neg e5]; omega
        · rw [if_neg e, Nat.min_eq_right (by omega)]
          rw [Nat.min_eq_right (by omega)] at h1
          exact h1
      have a2 : bx t (i + 1) = false → rv t (i + 1) = dF (bv t (i + 1)) 0 (min (bn t i + 1) 13) := by
        intro z
        rw [e4] at z
        simp at z
        rw [e2]
        by_cases e : bn t i < 13
        · rw [if_pos e, Nat.min_eq_left (by omega), z.2, h2 z.1, Nat.min_eq_left (by omega)]
          simp only [dF]
          rw [bv_new hk, dF_cg (V := bv t (i + 1)) (U := bv t i) (fun j hj => bv_keep hj), Nat.mul_comm]
          simp
        · rw [if_neg e, Nat.min_eq_right (by omega), h2 z.1, Nat.min_eq_right (by omega)]
          exact (dF_cg (fun j hj => bv_keep (by omega))).symm
      refine ⟨by rw [e1]; exact a1, by rw [e1]; exact a2, ?_⟩
      rw [e3, e1]
      by_cases e : bn t i < 9
      · have z : bx t (i + 1) = false := by
          rw [e4]
          cases hb : bx t i with
          | true => have := hw hb; omega
          | false =>
            cases hc : bcr (t i) (bn t i) with
            | true => have := bcr_9 hc; omega
            | false => rfl
        rw [if_pos e, a2 z, Nat.min_eq_left (by omega), Nat.min_eq_left (by omega)]
      · rw [if_neg e, h3, Nat.min_eq_right (by omega), Nat.min_eq_right (by omega)]
        exact (dF_cg (fun j hj => bv_keep (by omega))).symm
    · have hk' : bkp (t i) (bn t i) = false := by simpa using hk
      have e1 : bn t (i + 1) = bn t i := by rw [bn_s, if_neg hk]
      have e2 : rv t (i + 1) = rv t i := by simp only [rv]; rw [if_neg hk]
      have e3 : rq t (i + 1) = rq t i := by
        show (if bkp (t i) (bn t i) then _ else _) = _
        rw [if_neg hk]
      have e5 : bv t (i + 1) = bv t i := by
        funext k
        rw [bv_s, hk']
        simp
      rw [e1, e2, e3, e5]
      refine ⟨h1, fun z => h2 ?_, h3⟩
      rw [bx_s] at z
      simp at z
      exact z.1
/-- 9, 7, 8, then the signs -/
def ud (V : Nat → Nat) (j : Nat) : Nat := if j = 0 then 9 else if j = 1 then 7 else if j = 2 then 8 else V (j - 3)
theorem ud_s (V : Nat → Nat) (k : Nat) : ud V (k + 3) = V k := by
  unfold ud
  rw [if_neg (by omega), if_neg (by omega), if_neg (by omega), Nat.add_sub_cancel]
theorem ud_d (V : Nat → Nat) (k : Nat) : dF (ud V) 0 (k + 3) = dF V 978 k := by
  induction k with
  | zero => simp [dF, ud]
  | succ k ih =>
    show dF (ud V) 0 (k + 3) * 10 + ud V (k + 3) = dF V 978 k * 10 + V k
    rw [ih, ud_s]
theorem ud_13 (V : Nat → Nat) (k : Nat) : s13 (ud V) (k + 3) = sS V k := by
  induction k with
  | zero => simp [s13, sS, ud]
  | succ k ih =>
    show s13 (ud V) (k + 3) + (if (k + 3) % 2 = 0 then ud V (k + 3) else 3 * ud V (k + 3)) = sS V k + (if k % 2 = 0 then 3 * V k else V k)
    rw [ih, ud_s]
    by_cases e : k % 2 = 0
    · rw [if_pos e, if_neg (by omega)]
    · rw [if_neg e, if_pos (by omega)]
theorem ud_9 {V : Nat → Nat} (h : ∀ j, j < 9 → V j ≤ 9) {j : Nat} (hj : j < 12) : ud V j ≤ 9 := by
  unfold ud
  split
  · omega
  · split
    · omega
    · split
      · omega
      · exact h _ (by omega)
theorem crX {c : Nat} (hc : c < 256) : sb_b (lw c) = nI 120 ↔ isX c = true := by
  rw [← sg_small 120 (by decide), sg_inj (lw_lt hc) (by decide)]
  exact lwX c hc
theorem m1i (q : Nat) : nI (q + 1) + Int32.ofInt (-1) = nI q := by
  rw [show Int32.ofInt (-1) = (-1 : Int32) by decide]
  exact pk_m1 q
section R2
variable (l : Launch) (G : mx_G) (base : Nat)
set_option maxRecDepth 20000
theorem c_X9_form (h : mx_H) {P : Nat → Nat} {σ : mxS} {th kc : Int32} {pu pd : Int64} (m : MI G P h σ th kc pu pd) {f : Nat} (f1 : 1 ≤ f) (f2 : f ≤ st_k σ) {t : Nat → Nat} {n : Nat} (et : st_sg σ f = t) (en : st_sz σ f = n) : mx_M l G base yX9_form cX9_form 16 (some .long) 1 22 0 0 [.ref (P 0), .int (nI f)] h (fun v h' => v = some (.long (bfL (bform t n))) ∧ h = h') := by
  have m3 := m.2.2.1
  have hk := m.1.2.1
  obtain ⟨-, -, -, h60, h256⟩ := m.1.2.2.2.2.2.1.1 f f1 f2
  obtain ⟨O, T, S, Z, -, -, -, hZ, -, hz, -⟩ := m.2.2.2.2.1
  have ez := hz f f1 (by omega)
  have hat : ∀ i, i < st_sz σ f → _ := fun i hi => c_X9_at l G base h m (f := f) (j := i) f1 f2 hi
  rw [et, en] at *
  refine mx_enter (lo := [some (.ref (P 0)), some (.int (nI f)), none, none, none, none, none, none, none, none, none, none, none, none, none, none]) (by decide) (mx_in wd_code_yX9_form rfl) (Nat.le_of_ble_eq_true rfl) rfl ?_
  intro p ev s mt args below meth cd C hr hnm
  have C : mx_C p s mt args meth cd cX9_form 16 RX9 G base := C
  have fin : ∀ (o11 o12 o13 : Option Value), mx_V p l ev { frames := 1, cells := 0, slots := 0, locals := 22 } s mt args below meth cd G base 16 (MQ below (mx_Qc G base (fun v h' => v = some (.long (bfL (bform t n))) ∧ h = h')) args s 0 0 (mx_A base)) h 0 0 211 [some (.ref (P 0)), some (.int (nI f)), some (.int (nI (bn t n))), some (.int (nI (s10 (bv t n) (bn t n)))), some (.int (nI (s13 (bv t n) (bn t n)))), some (.long (lN (rv t n))), none, some (.long (lN (rq t n))), none, some (.int (mx_b (bx t n))), none, none, none, none, none, none] [] := by
    intro _ _ _
    obtain ⟨w1, w2, w3⟩ := bv_in t n
    obtain ⟨v1, v2, v3⟩ := rv_in t n
    have hbl := bn_le t n
    have b10 := s10_le (V := bv t n) (k := bn t n) (fun i hi => (w1 i hi).1)
    have b13 := s13_le (V := bv t n) (k := bn t n) (fun i hi => (w1 i hi).1)
    have long : ¬ (bn t n = 10 ∧ s10 (bv t n) 10 % 11 = 0) → mx_V p l ev { frames := 1, cells := 0, slots := 0, locals := 22 } s mt args below meth cd G base 16 (MQ below (mx_Qc G base (fun v h' => v = some (.long (bfL (bform t n))) ∧ h = h')) args s 0 0 (mx_A base)) h 0 0 307 [some (.ref (P 0)), some (.int (nI f)), some (.int (nI (bn t n))), some (.int (nI (s10 (bv t n) (bn t n)))), some (.int (nI (s13 (bv t n) (bn t n)))), some (.long (lN (rv t n))), none, some (.long (lN (rq t n))), none, some (.int (mx_b (bx t n))), none, none, none, none, none, none] [] := by
      intro hno
      refine mx_iload_n C dX9_form_307 (pc' := 308) rfl rfl ?_
      refine mx_bipush C (v := nI 13) (by decide) dX9_form_308 (pc' := 310) rfl ?_
      refine mx_N_ne C dX9_form_310 (tgt := 331) (by decide) (pc' := 313) rfl (by omega) (by omega) (fun g1 => ?_) (fun g1 => ?_)
      · skip
        refine kX9_99 C dX9_form_331 (pc' := 334) rfl ?_
        exact mx_lret C hr dX9_form_334 (by omega) (by omega) (⟨by unfold bform; rw [if_neg hno, if_neg (fun z => g1 z.1)]; rfl, rfl⟩)
      refine mx_iload C dX9_form_313 (pc' := 315) rfl rfl ?_
      refine mx_B_ne C dX9_form_315 (tgt := 331) (by decide) (pc' := 318) rfl (fun g2 => ?_) (fun g2 => ?_)
      · skip
        refine kX9_99 C dX9_form_331 (pc' := 334) rfl ?_
        exact mx_lret C hr dX9_form_334 (by omega) (by omega) (⟨by unfold bform; rw [if_neg hno, if_neg (fun z => by rw [g2] at z; exact absurd z.2.1 (by decide))]; rfl, rfl⟩)
      refine mx_iload C dX9_form_318 (pc' := 320) rfl rfl ?_
      refine mx_bipush C (v := nI 10) (by decide) dX9_form_320 (pc' := 322) rfl ?_
      refine mx_irem C (by decide) dX9_form_322 (pc' := 323) rfl ?_
      rw [pk_rem (by omega) (by decide) (by decide)]
      refine mx_N0_ne C dX9_form_323 (tgt := 331) (by decide) (pc' := 326) rfl (by omega) (fun g3 => ?_) (fun g3 => ?_)
      · skip
        refine kX9_99 C dX9_form_331 (pc' := 334) rfl ?_
        exact mx_lret C hr dX9_form_334 (by omega) (by omega) (⟨by unfold bform; rw [if_neg hno, if_neg (fun z => g3 (by rw [g1]; exact z.2.2))]; rfl, rfl⟩)
      refine mx_lload C dX9_form_326 (pc' := 328) rfl rfl ?_
      refine mx_goto C dX9_form_328 (tgt := 334) (by decide) ?_
      exact mx_lret C hr dX9_form_334 (by omega) (by omega) (⟨by unfold bform; rw [if_neg hno, if_pos ⟨g1, g2, by rw [g1] at g3; exact g3⟩, v2 g2, g1]; rfl, rfl⟩)
    refine mx_iload_n C dX9_form_211 (pc' := 212) rfl rfl ?_
    refine mx_bipush C (v := nI 10) (by decide) dX9_form_212 (pc' := 214) rfl ?_
    refine mx_N_ne C dX9_form_214 (tgt := 307) (by decide) (pc' := 217) rfl (by omega) (by omega) (fun g1 => ?_) (fun g1 => ?_)
    · exact long (fun z => g1 z.1)
    refine mx_iload_n C dX9_form_217 (pc' := 218) rfl rfl ?_
    refine mx_bipush C (v := nI 11) (by decide) dX9_form_218 (pc' := 220) rfl ?_
    refine mx_irem C (by decide) dX9_form_220 (pc' := 221) rfl ?_
    rw [pk_rem (by omega) (by decide) (by decide)]
    refine mx_N0_ne C dX9_form_221 (tgt := 307) (by decide) (pc' := 224) rfl (by omega) (fun g2 => ?_) (fun g2 => ?_)
    · exact long (fun z => g2 (by rw [g1]; exact z.2))
    rw [g1] at g2
    have e9 : rq t n = dF (bv t n) 0 9 := by rw [v3, g1]; rfl
    have hd9 : ∀ j, j < 9 → bv t n j ≤ 9 := fun j hj => (w1 j (by omega)).2 (by omega)
    have ew : 978000000000 + rq t n = dF (ud (bv t n)) 0 12 := by rw [show 12 = 9 + 3 from rfl, ud_d, dF_a, e9]
    have es : s13 (ud (bv t n)) 12 = sS (bv t n) 9 := ud_13 _ 9
    have hU : ∀ j, j < 12 → ud (bv t n) j ≤ 9 := fun j hj => ud_9 hd9 hj
    generalize hV : ud (bv t n) = U at *
    have hw12 := dF_lt (V := U) (a := 0) (k := 12) hU
    have loop2 : ∀ (q sm : Nat), q ≤ 12 → sm + s13 U q = s13 U 12 → mx_V p l ev { frames := 1, cells := 0, slots := 0, locals := 22 } s mt args below meth cd G base 16 (MQ below (mx_Qc G base (fun v h' => v = some (.long (bfL (bform t n))) ∧ h = h')) args s 0 0 (mx_A base)) h 0 0 243 [some (.ref (P 0)), some (.int (nI f)), some (.int (nI (bn t n))), some (.int (nI (s10 (bv t n) (bn t n)))), some (.int (nI (s13 (bv t n) (bn t n)))), some (.long (lN (rv t n))), none, some (.long (lN (rq t n))), none, some (.int (mx_b (bx t n))), some (.long (lN (978000000000 + rq t n))), none, some (.int (nI sm)), some (.long (lN (dF U 0 q))), none, some (.int (nI q))] [] := by
      intro q
      induction q with
      | zero =>
        intro sm hq hsm
        have hs12 := s13_le (V := U) (k := 12) (fun j hj => by have := hU j hj; omega)
        have e1 : sm = sS (bv t n) 9 := by rw [← es]; exact hsm
        refine mx_iload C dX9_form_243 (pc' := 245) rfl rfl ?_
        refine mx_N0_le C dX9_form_245 (tgt := 287) (by decide) (pc' := 248) rfl (by omega) (fun g3 => ?_) (fun g3 => ?_)
        · skip
          refine kX9_95 C dX9_form_287 (pc' := 290) rfl ?_
          refine mx_lload C dX9_form_290 (pc' := 292) rfl rfl ?_
          refine mx_lmul C dX9_form_292 (pc' := 293) rfl ?_
          rw [lN_mul]
          refine mx_bipush C (v := nI 10) (by decide) dX9_form_293 (pc' := 295) rfl ?_
          refine mx_iload C dX9_form_295 (pc' := 297) rfl rfl ?_
          refine mx_bipush C (v := nI 10) (by decide) dX9_form_297 (pc' := 299) rfl ?_
          refine mx_irem C (by decide) dX9_form_299 (pc' := 300) rfl ?_
          rw [pk_rem (by omega) (by decide) (by decide)]
          refine mx_isub C dX9_form_300 (pc' := 301) rfl ?_
          rw [pk_sub (show sm % 10 ≤ 10 by omega)]
          refine mx_bipush C (v := nI 10) (by decide) dX9_form_301 (pc' := 303) rfl ?_
          refine mx_irem C (by decide) dX9_form_303 (pc' := 304) rfl ?_
          rw [pk_rem (by omega) (by decide) (by decide)]
          refine mx_i2l C (nI_l (show (10 - sm % 10) % 10 < 2 ^ 31 by omega)) dX9_form_304 (pc' := 305) rfl ?_
          refine mx_ladd C dX9_form_305 (pc' := 306) rfl ?_
          rw [lN_add]
          exact mx_lret C hr dX9_form_306 (by omega) (by omega) (⟨by unfold bform; rw [if_pos ⟨g1, g2⟩, e1, dF_a, ← e9, Nat.mul_comm 10]; rfl, rfl⟩)
        · exact absurd g3 (by omega)
      | succ q ih =>
        intro sm hq hsm
        have hUq := hU q (by omega)
        have hq2 := dF_lt (V := U) (a := 0) (k := q) (fun j hj => hU j (by omega))
        have hp : 10 ^ q ≤ 10 ^ 12 := Nat.pow_le_pow_right (by decide) (by omega)
        have e1 : dF U 0 (q + 1) = dF U 0 q * 10 + U q := rfl
        have e2 : s13 U (q + 1) = s13 U q + (if q % 2 = 0 then U q else 3 * U q) := rfl
        refine mx_iload C dX9_form_243 (pc' := 245) rfl rfl ?_
        refine mx_N0_le C dX9_form_245 (tgt := 287) (by decide) (pc' := 248) rfl (by omega) (fun g3 => ?_) (fun g3 => ?_)
        · exact absurd g3 (by omega)
        have k269 : ∀ z : Nat, z = (if q % 2 = 0 then 1 else 3) → mx_V p l ev { frames := 1, cells := 0, slots := 0, locals := 22 } s mt args below meth cd G base 16 (MQ below (mx_Qc G base (fun v h' => v = some (.long (bfL (bform t n))) ∧ h = h')) args s 0 0 (mx_A base)) h 0 0 269 [some (.ref (P 0)), some (.int (nI f)), some (.int (nI (bn t n))), some (.int (nI (s10 (bv t n) (bn t n)))), some (.int (nI (s13 (bv t n) (bn t n)))), some (.long (lN (rv t n))), none, some (.long (lN (rq t n))), none, some (.int (mx_b (bx t n))), some (.long (lN (978000000000 + rq t n))), none, some (.int (nI sm)), some (.long (lN (dF U 0 (q + 1)))), none, some (.int (nI (q + 1)))] [.int (nI z), .int (nI (U q)), .int (nI sm)] := by
          intro z hz
          have e3 : sm + U q * z + s13 U q = s13 U 12 := by
            rw [← hsm, e2, hz]
            split <;> omega
          refine mx_imul C dX9_form_269 (pc' := 270) rfl ?_
          rw [pk_mul]
          refine mx_iadd C dX9_form_270 (pc' := 271) rfl ?_
          rw [nI_add]
          refine mx_istore C dX9_form_271 (pc' := 273) rfl (by first | exact mx_c1_0 | exact mx_c1_int rfl | exact mx_c1_ref rfl | exact mx_c1_none rfl | exact mx_c1_rf rfl | exact mx_c1_null rfl) (by decide) (lo' := [_, _, _, _, _, _, _, _, _, _, _, _, _, _, _, _]) rfl ?_
          refine mx_lload C dX9_form_273 (pc' := 275) rfl rfl ?_
          refine kX9_95 C dX9_form_275 (pc' := 278) rfl ?_
          refine mx_ldiv C (by decide) dX9_form_278 (pc' := 279) rfl ?_
          rw [pk_lDiv (by omega) (by decide) (by decide), show dF U 0 (q + 1) / 10 = dF U 0 q by omega]
          refine mx_lstore C dX9_form_279 (pc' := 281) rfl (by first | exact mx_c1_0 | exact mx_c1_int rfl | exact mx_c1_ref rfl | exact mx_c1_none rfl | exact mx_c1_rf rfl | exact mx_c1_null rfl) (by decide) (lo' := [_, _, _, _, _, _, _, _, _, _, _, _, _, _, _, _]) rfl ?_
          refine mx_iinc C dX9_form_281 (pc' := 284) rfl rfl (m1i q) (by first | exact mx_c1_0 | exact mx_c1_int rfl | exact mx_c1_ref rfl | exact mx_c1_none rfl | exact mx_c1_rf rfl | exact mx_c1_null rfl) (by decide) (lo' := [_, _, _, _, _, _, _, _, _, _, _, _, _, _, _, _]) rfl ?_
          refine mx_goto C dX9_form_284 (tgt := 243) (by decide) ?_
          exact ih _ (by omega) e3
        refine mx_iload C dX9_form_248 (pc' := 250) rfl rfl ?_
        refine mx_lload C dX9_form_250 (pc' := 252) rfl rfl ?_
        refine kX9_95 C dX9_form_252 (pc' := 255) rfl ?_
        refine mx_lrem C (by decide) dX9_form_255 (pc' := 256) rfl ?_
        rw [pk_lRem (by omega) (by decide) (by decide), show dF U 0 (q + 1) % 10 = U q by omega]
        refine mx_l2i C (lN_i (U q)) dX9_form_256 (pc' := 257) rfl ?_
        refine mx_iload C dX9_form_257 (pc' := 259) rfl rfl ?_
        refine mx_iconst C (v := nI 2) (by decide) dX9_form_259 (pc' := 260) rfl ?_
        refine mx_irem C (by decide) dX9_form_260 (pc' := 261) rfl ?_
        rw [pk_rem (by omega) (by decide) (by decide)]
        refine mx_N0_ne C dX9_form_261 (tgt := 268) (by decide) (pc' := 264) rfl (by omega) (fun g4 => ?_) (fun g4 => ?_)
        · skip
          refine mx_iconst C (v := nI 1) (by decide) dX9_form_268 (pc' := 269) rfl ?_
          exact k269 1 (by rw [if_pos (by omega)])
        · skip
          refine mx_iconst C (v := nI 3) (by decide) dX9_form_264 (pc' := 265) rfl ?_
          refine mx_goto C dX9_form_265 (tgt := 269) (by decide) ?_
          exact k269 3 (by rw [if_neg (by omega)])
    refine kX9_97 C dX9_form_224 (pc' := 227) rfl ?_
    refine mx_lload C dX9_form_227 (pc' := 229) rfl rfl ?_
    refine mx_ladd C dX9_form_229 (pc' := 230) rfl ?_
    rw [lN_add]
    refine mx_lstore C dX9_form_230 (pc' := 232) rfl (by first | exact mx_c1_0 | exact mx_c1_int rfl | exact mx_c1_ref rfl | exact mx_c1_none rfl | exact mx_c1_rf rfl | exact mx_c1_null rfl) (by decide) (lo' := [_, _, _, _, _, _, _, _, _, _, _, _, _, _, _, _]) rfl ?_
    refine mx_iconst C (v := nI 0) (by decide) dX9_form_232 (pc' := 233) rfl ?_
    refine mx_istore C dX9_form_233 (pc' := 235) rfl (by first | exact mx_c1_0 | exact mx_c1_int rfl | exact mx_c1_ref rfl | exact mx_c1_none rfl | exact mx_c1_rf rfl | exact mx_c1_null rfl) (by decide) (lo' := [_, _, _, _, _, _, _, _, _, _, _, _, _, _, _, _]) rfl ?_
    refine mx_lload C dX9_form_235 (pc' := 237) rfl rfl ?_
    refine mx_lstore C dX9_form_237 (pc' := 239) rfl (by first | exact mx_c1_0 | exact mx_c1_int rfl | exact mx_c1_ref rfl | exact mx_c1_none rfl | exact mx_c1_rf rfl | exact mx_c1_null rfl) (by decide) (lo' := [_, _, _, _, _, _, _, _, _, _, _, _, _, _, _, _]) rfl ?_
    refine mx_bipush C (v := nI 12) (by decide) dX9_form_239 (pc' := 241) rfl ?_
    refine mx_istore C dX9_form_241 (pc' := 243) rfl (by first | exact mx_c1_0 | exact mx_c1_int rfl | exact mx_c1_ref rfl | exact mx_c1_none rfl | exact mx_c1_rf rfl | exact mx_c1_null rfl) (by decide) (lo' := [_, _, _, _, _, _, _, _, _, _, _, _, _, _, _, _]) rfl ?_
    refine mx_weak ?_ (loop2 12 0 (by omega) (by omega))
    rw [← ew]
    exact fun _ _ z => z
  have loop : ∀ (d i : Nat) (o11 o12 o13 : Option Value), n - i = d → i ≤ n → mx_V p l ev { frames := 1, cells := 0, slots := 0, locals := 22 } s mt args below meth cd G base 16 (MQ below (mx_Qc G base (fun v h' => v = some (.long (bfL (bform t n))) ∧ h = h')) args s 0 0 (mx_A base)) h 0 0 19 [some (.ref (P 0)), some (.int (nI f)), some (.int (nI (bn t i))), some (.int (nI (s10 (bv t i) (bn t i)))), some (.int (nI (s13 (bv t i) (bn t i)))), some (.long (lN (rv t i))), none, some (.long (lN (rq t i))), none, some (.int (mx_b (bx t i))), some (.int (nI i)), o11, o12, o13, none, none] [] := by
    intro d
    induction d using Nat.strongRecOn with
    | ind d ih =>
    intro i o11 o12 o13 hd hi
    have hbl := bn_le t i
    obtain ⟨w1, w2, w3⟩ := bv_in t i
    refine mx_iload C dX9_form_19 (pc' := 21) rfl rfl ?_
    first | refine mx_aload_n C dX9_form_21 (pc' := 22) rfl rfl ?_ | refine mx_aload_nq C dX9_form_21 (pc' := 22) rfl rfl ?_
    refine gX9_33 C dX9_form_22 (pc' := 25) rfl (m3) rfl ?_
    refine mx_iload_n C dX9_form_25 (pc' := 26) rfl rfl ?_
    refine mx_iald C dX9_form_26 (pc' := 27) rfl (hZ) (rfl) (show f < 201 by omega) (by decide) ?_
    rw [ez]
    refine mx_N_ge C dX9_form_27 (tgt := 211) (by decide) (pc' := 30) rfl (by omega) (by omega) (fun g1 => ?_) (fun g1 => ?_)
    · have e1 : i = n := by omega
      subst e1
      exact mx_weak (mx_le_keep (mx_le_keep (mx_le_keep (mx_le_keep (mx_le_keep (mx_le_keep (mx_le_keep (mx_le_keep (mx_le_keep (mx_le_keep (mx_le_drop (mx_le_drop (mx_le_drop (mx_le_drop (mx_le_keep (mx_le_keep mx_le_nil)))))))))))))))) (fin none none none)
    have hti := h256 i g1
    have k205 : ∀ (o11 o12 o13 : Option Value), mx_V p l ev { frames := 1, cells := 0, slots := 0, locals := 22 } s mt args below meth cd G base 16 (MQ below (mx_Qc G base (fun v h' => v = some (.long (bfL (bform t n))) ∧ h = h')) args s 0 0 (mx_A base)) h 0 0 205 [some (.ref (P 0)), some (.int (nI f)), some (.int (nI (bn t (i + 1)))), some (.int (nI (s10 (bv t (i + 1)) (bn t (i + 1))))), some (.int (nI (s13 (bv t (i + 1)) (bn t (i + 1))))), some (.long (lN (rv t (i + 1)))), none, some (.long (lN (rq t (i + 1)))), none, some (.int (mx_b (bx t (i + 1)))), some (.int (nI i)), o11, o12, o13, none, none] [] := by
      intro o11 o12 o13
      refine mx_iinc C dX9_form_205 (pc' := 208) rfl rfl (mx_inc _) (by first | exact mx_c1_0 | exact mx_c1_int rfl | exact mx_c1_ref rfl | exact mx_c1_none rfl | exact mx_c1_rf rfl | exact mx_c1_null rfl) (by decide) (lo' := [_, _, _, _, _, _, _, _, _, _, _, _, _, _, _, _]) rfl ?_
      refine mx_goto C dX9_form_208 (tgt := 19) (by decide) ?_
      exact ih _ (by omega) (i + 1) _ _ _ rfl (by omega)
    have k95 : bkp (t i) (bn t i) = true → mx_V p l ev { frames := 1, cells := 0, slots := 0, locals := 22 } s mt args below meth cd G base 16 (MQ below (mx_Qc G base (fun v h' => v = some (.long (bfL (bform t n))) ∧ h = h')) args s 0 0 (mx_A base)) h 0 0 95 [some (.ref (P 0)), some (.int (nI f)), some (.int (nI (bn t i))), some (.int (nI (s10 (bv t i) (bn t i)))), some (.int (nI (s13 (bv t i) (bn t i)))), some (.long (lN (rv t i))), none, some (.long (lN (rq t i))), none, some (.int (mx_b (bx t i))), some (.int (nI i)), some (.int (sb_b (t i))), some (.int (mx_b (bcr (t i) (bn t i)))), o13, none, none] [.int (nI (bvl (t i)))] := by
      intro hk
      have hvl := @bvl_le (t i)
      have e1 : bn t (i + 1) = bn t i + 1 := by rw [bn_s, if_pos hk]
      have e10 : s10 (bv t (i + 1)) (bn t (i + 1)) = s10 (bv t i) (bn t i) + bvl (t i) * (10 - bn t i) := by
        rw [e1]
        simp only [s10]
        rw [bv_new hk, s10_cg (V := bv t (i + 1)) (U := bv t i) (fun j hj => bv_keep hj)]
      have e13 : s13 (bv t (i + 1)) (bn t (i + 1)) = s13 (bv t i) (bn t i) + (if bn t i % 2 = 0 then bvl (t i) else 3 * bvl (t i)) := by
        rw [e1]
        simp only [s13]
        rw [bv_new hk, s13_cg (V := bv t (i + 1)) (U := bv t i) (fun j hj => bv_keep hj)]
      have erv : rv t (i + 1) = if bn t i < 13 then 10 * rv t i + (if bcr (t i) (bn t i) then 0 else bvl (t i)) else rv t i := by simp only [rv]; rw [if_pos hk]
      have eq : rq t (i + 1) = if bn t i < 9 then rv t (i + 1) else rq t i := by
        show (if bkp (t i) (bn t i) then _ else _) = _
        rw [if_pos hk]
      have k188 : mx_V p l ev { frames := 1, cells := 0, slots := 0, locals := 22 } s mt args below meth cd G base 16 (MQ below (mx_Qc G base (fun v h' => v = some (.long (bfL (bform t n))) ∧ h = h')) args s 0 0 (mx_A base)) h 0 0 188 [some (.ref (P 0)), some (.int (nI f)), some (.int (nI (bn t i + 1))), some (.int (nI (s10 (bv t (i + 1)) (bn t (i + 1))))), some (.int (nI (s13 (bv t (i + 1)) (bn t (i + 1))))), some (.long (lN (rv t i))), none, some (.long (lN (rq t i))), none, some (.int (mx_b (bx t (i + 1)))), some (.int (nI i)), some (.int (sb_b (t i))), some (.int (mx_b (bcr (t i) (bn t i)))), some (.int (nI (bvl (t i)))), none, none] [.long (lN (rv t (i + 1)))] := by
        refine mx_lstore C dX9_form_188 (pc' := 190) rfl (by first | exact mx_c1_0 | exact mx_c1_int rfl | exact mx_c1_ref rfl | exact mx_c1_none rfl | exact mx_c1_rf rfl | exact mx_c1_null rfl) (by decide) (lo' := [_, _, _, _, _, _, _, _, _, _, _, _, _, _, _, _]) rfl ?_
        refine mx_iload_n C dX9_form_190 (pc' := 191) rfl rfl ?_
        refine mx_bipush C (v := nI 9) (by decide) dX9_form_191 (pc' := 193) rfl ?_
        have k205 := k205 (some (.int (sb_b (t i)))) (some (.int (mx_b (bcr (t i) (bn t i))))) (some (.int (nI (bvl (t i)))))
        rw [eq, e1] at k205
        rw [e1]
        refine mx_N_gt C dX9_form_193 (tgt := 201) (by decide) (pc' := 196) rfl (by omega) (by omega) (fun g2 => ?_) (fun g2 => ?_)
        · rw [if_neg (by omega)] at k205
          refine mx_lload C dX9_form_201 (pc' := 203) rfl rfl ?_
          refine mx_lstore C dX9_form_203 (pc' := 205) rfl (by first | exact mx_c1_0 | exact mx_c1_int rfl | exact mx_c1_ref rfl | exact mx_c1_none rfl | exact mx_c1_rf rfl | exact mx_c1_null rfl) (by decide) (lo' := [_, _, _, _, _, _, _, _, _, _, _, _, _, _, _, _]) rfl ?_
          exact k205
        · rw [if_pos (by omega)] at k205
          refine mx_lload C dX9_form_196 (pc' := 198) rfl rfl ?_
          refine mx_goto C dX9_form_198 (tgt := 203) (by decide) ?_
          refine mx_lstore C dX9_form_203 (pc' := 205) rfl (by first | exact mx_c1_0 | exact mx_c1_int rfl | exact mx_c1_ref rfl | exact mx_c1_none rfl | exact mx_c1_rf rfl | exact mx_c1_null rfl) (by decide) (lo' := [_, _, _, _, _, _, _, _, _, _, _, _, _, _, _, _]) rfl ?_
          exact k205
      have k155 : mx_V p l ev { frames := 1, cells := 0, slots := 0, locals := 22 } s mt args below meth cd G base 16 (MQ below (mx_Qc G base (fun v h' => v = some (.long (bfL (bform t n))) ∧ h = h')) args s 0 0 (mx_A base)) h 0 0 155 [some (.ref (P 0)), some (.int (nI f)), some (.int (nI (bn t i + 1))), some (.int (nI (s10 (bv t (i + 1)) (bn t (i + 1))))), some (.int (nI (s13 (bv t i) (bn t i)))), some (.long (lN (rv t i))), none, some (.long (lN (rq t i))), none, some (.int (mx_b (bx t (i + 1)))), some (.int (nI i)), some (.int (sb_b (t i))), some (.int (mx_b (bcr (t i) (bn t i)))), some (.int (nI (bvl (t i)))), none, none] [.int (nI (if bn t i % 2 = 0 then bvl (t i) else 3 * bvl (t i))), .int (nI (s13 (bv t i) (bn t i)))] := by
        rw [erv] at k188
        refine mx_iadd C dX9_form_155 (pc' := 156) rfl ?_
        rw [nI_add, ← e13]
        refine mx_istore C dX9_form_156 (pc' := 158) rfl (by first | exact mx_c1_0 | exact mx_c1_int rfl | exact mx_c1_ref rfl | exact mx_c1_none rfl | exact mx_c1_rf rfl | exact mx_c1_null rfl) (by decide) (lo' := [_, _, _, _, _, _, _, _, _, _, _, _, _, _, _, _]) rfl ?_
        refine mx_iload_n C dX9_form_158 (pc' := 159) rfl rfl ?_
        refine mx_bipush C (v := nI 13) (by decide) dX9_form_159 (pc' := 161) rfl ?_
        refine mx_N_gt C dX9_form_161 (tgt := 186) (by decide) (pc' := 164) rfl (by omega) (by omega) (fun g2 => ?_) (fun g2 => ?_)
        · rw [if_neg (by omega)] at k188
          refine mx_lload C dX9_form_186 (pc' := 188) rfl rfl ?_
          exact k188
        · rw [if_pos (by omega)] at k188
          refine kX9_95 C dX9_form_164 (pc' := 167) rfl ?_
          refine mx_lload C dX9_form_167 (pc' := 169) rfl rfl ?_
          refine mx_lmul C dX9_form_169 (pc' := 170) rfl ?_
          rw [lN_mul]
          refine mx_iload C dX9_form_170 (pc' := 172) rfl rfl ?_
          refine mx_B_eq C dX9_form_172 (tgt := 179) (by decide) (pc' := 175) rfl (fun g3 => ?_) (fun g3 => ?_)
          · rw [g3, if_neg (by decide)] at k188
            rw [g3]
            refine mx_iload C dX9_form_179 (pc' := 181) rfl rfl ?_
            refine mx_i2l C (nI_l (show bvl (t i) < 2 ^ 31 by omega)) dX9_form_181 (pc' := 182) rfl ?_
            refine mx_ladd C dX9_form_182 (pc' := 183) rfl ?_
            rw [lN_add]
            refine mx_goto C dX9_form_183 (tgt := 188) (by decide) ?_
            exact k188
          · rw [g3, if_pos rfl] at k188
            rw [g3]
            refine mx_iconst C (v := nI 0) (by decide) dX9_form_175 (pc' := 176) rfl ?_
            refine mx_goto C dX9_form_176 (tgt := 181) (by decide) ?_
            refine mx_i2l C (nI_l (show 0 < 2 ^ 31 by omega)) dX9_form_181 (pc' := 182) rfl ?_
            refine mx_ladd C dX9_form_182 (pc' := 183) rfl ?_
            rw [lN_add]
            refine mx_goto C dX9_form_183 (tgt := 188) (by decide) ?_
            exact k188
      have k135 : mx_V p l ev { frames := 1, cells := 0, slots := 0, locals := 22 } s mt args below meth cd G base 16 (MQ below (mx_Qc G base (fun v h' => v = some (.long (bfL (bform t n))) ∧ h = h')) args s 0 0 (mx_A base)) h 0 0 135 [some (.ref (P 0)), some (.int (nI f)), some (.int (nI (bn t i + 1))), some (.int (nI (s10 (bv t i) (bn t i)))), some (.int (nI (s13 (bv t i) (bn t i)))), some (.long (lN (rv t i))), none, some (.long (lN (rq t i))), none, some (.int (mx_b (bx t (i + 1)))), some (.int (nI i)), some (.int (sb_b (t i))), some (.int (mx_b (bcr (t i) (bn t i)))), some (.int (nI (bvl (t i)))), none, none] [.int (nI (bvl (t i) * (10 - bn t i))), .int (nI (s10 (bv t i) (bn t i)))] := by
        refine mx_iadd C dX9_form_135 (pc' := 136) rfl ?_
        rw [nI_add, ← e10]
        refine mx_istore_n C dX9_form_136 (pc' := 137) rfl (by first | exact mx_c1_0 | exact mx_c1_int rfl | exact mx_c1_ref rfl | exact mx_c1_none rfl | exact mx_c1_rf rfl | exact mx_c1_null rfl) (by decide) (lo' := [_, _, _, _, _, _, _, _, _, _, _, _, _, _, _, _]) rfl ?_
        refine mx_iload C dX9_form_137 (pc' := 139) rfl rfl ?_
        refine mx_iload_n C dX9_form_139 (pc' := 140) rfl rfl ?_
        refine mx_iconst C (v := nI 2) (by decide) dX9_form_140 (pc' := 141) rfl ?_
        refine mx_irem C (by decide) dX9_form_141 (pc' := 142) rfl ?_
        rw [pk_rem (by omega) (by decide) (by decide)]
        refine mx_iconst C (v := nI 1) (by decide) dX9_form_142 (pc' := 143) rfl ?_
        refine mx_N_ne C dX9_form_143 (tgt := 151) (by decide) (pc' := 146) rfl (by omega) (by omega) (fun g2 => ?_) (fun g2 => ?_)
        · rw [if_neg (by omega)] at k155
          refine mx_iconst C (v := nI 3) (by decide) dX9_form_151 (pc' := 152) rfl ?_
          refine mx_iload C dX9_form_152 (pc' := 154) rfl rfl ?_
          refine mx_imul C dX9_form_154 (pc' := 155) rfl ?_
          rw [pk_mul]
          exact k155
        · rw [if_pos (by omega)] at k155
          refine mx_iload C dX9_form_146 (pc' := 148) rfl rfl ?_
          refine mx_goto C dX9_form_148 (tgt := 155) (by decide) ?_
          exact k155
      have k112 : mx_V p l ev { frames := 1, cells := 0, slots := 0, locals := 22 } s mt args below meth cd G base 16 (MQ below (mx_Qc G base (fun v h' => v = some (.long (bfL (bform t n))) ∧ h = h')) args s 0 0 (mx_A base)) h 0 0 112 [some (.ref (P 0)), some (.int (nI f)), some (.int (nI (bn t i))), some (.int (nI (s10 (bv t i) (bn t i)))), some (.int (nI (s13 (bv t i) (bn t i)))), some (.long (lN (rv t i))), none, some (.long (lN (rq t i))), none, some (.int (mx_b (bx t i))), some (.int (nI i)), some (.int (sb_b (t i))), some (.int (mx_b (bcr (t i) (bn t i)))), some (.int (nI (bvl (t i)))), none, none] [.int (mx_b (bx t (i + 1)))] := by
        refine mx_istore C dX9_form_112 (pc' := 114) rfl (by first | exact mx_c1_0 | exact mx_c1_int rfl | exact mx_c1_ref rfl | exact mx_c1_none rfl | exact mx_c1_rf rfl | exact mx_c1_null rfl) (by decide) (lo' := [_, _, _, _, _, _, _, _, _, _, _, _, _, _, _, _]) rfl ?_
        refine mx_iinc C dX9_form_114 (pc' := 117) rfl rfl (mx_inc _) (by first | exact mx_c1_0 | exact mx_c1_int rfl | exact mx_c1_ref rfl | exact mx_c1_none rfl | exact mx_c1_rf rfl | exact mx_c1_null rfl) (by decide) (lo' := [_, _, _, _, _, _, _, _, _, _, _, _, _, _, _, _]) rfl ?_
        refine mx_iload_n C dX9_form_117 (pc' := 118) rfl rfl ?_
        refine mx_iload_n C dX9_form_118 (pc' := 119) rfl rfl ?_
        refine mx_bipush C (v := nI 10) (by decide) dX9_form_119 (pc' := 121) rfl ?_
        refine mx_N_gt C dX9_form_121 (tgt := 134) (by decide) (pc' := 124) rfl (by omega) (by omega) (fun g2 => ?_) (fun g2 => ?_)
        · rw [show 10 - bn t i = 0 by omega, Nat.mul_zero] at k135
          refine mx_iconst C (v := nI 0) (by decide) dX9_form_134 (pc' := 135) rfl ?_
          exact k135
        · skip
          refine mx_bipush C (v := nI 11) (by decide) dX9_form_124 (pc' := 126) rfl ?_
          refine mx_iload_n C dX9_form_126 (pc' := 127) rfl rfl ?_
          refine mx_isub C dX9_form_127 (pc' := 128) rfl ?_
          rw [pk_sub (show bn t i + 1 ≤ 11 by omega)]
          refine mx_iload C dX9_form_128 (pc' := 130) rfl rfl ?_
          refine mx_imul C dX9_form_130 (pc' := 131) rfl ?_
          rw [pk_mul, show (11 - (bn t i + 1)) * bvl (t i) = bvl (t i) * (10 - bn t i) by rw [show 11 - (bn t i + 1) = 10 - bn t i by omega, Nat.mul_comm]]
          refine mx_goto C dX9_form_131 (tgt := 135) (by decide) ?_
          exact k135
      rw [bx_s] at k112
      refine mx_istore C dX9_form_95 (pc' := 97) rfl (by first | exact mx_c1_0 | exact mx_c1_int rfl | exact mx_c1_ref rfl | exact mx_c1_none rfl | exact mx_c1_rf rfl | exact mx_c1_null rfl) (by decide) (lo' := [_, _, _, _, _, _, _, _, _, _, _, _, _, _, _, _]) rfl ?_
      refine mx_iload C dX9_form_97 (pc' := 99) rfl rfl ?_
      refine mx_B_ne C dX9_form_99 (tgt := 107) (by decide) (pc' := 102) rfl (fun g2 => ?_) (fun g2 => ?_)
      · rw [g2, Bool.true_or] at k112
        rw [g2]
        refine mx_iconst C (v := nI 1) (by decide) dX9_form_107 (pc' := 108) rfl ?_
        refine mx_goto C dX9_form_108 (tgt := 112) (by decide) ?_
        exact k112
      rw [g2, Bool.false_or] at k112
      rw [g2]
      refine mx_iload C dX9_form_102 (pc' := 104) rfl rfl ?_
      refine mx_B_eq C dX9_form_104 (tgt := 111) (by decide) (pc' := 107) rfl (fun g3 => ?_) (fun g3 => ?_)
      · rw [g3] at k112
        rw [g3]
        refine mx_iconst C (v := nI 0) (by decide) dX9_form_111 (pc' := 112) rfl ?_
        exact k112
      · rw [g3] at k112
        rw [g3]
        refine mx_iconst C (v := nI 1) (by decide) dX9_form_107 (pc' := 108) rfl ?_
        refine mx_goto C dX9_form_108 (tgt := 112) (by decide) ?_
        exact k112
    have k65 : ∀ X : Bool, X = (isX (t i) && bn t i == 9) → mx_V p l ev { frames := 1, cells := 0, slots := 0, locals := 22 } s mt args below meth cd G base 16 (MQ below (mx_Qc G base (fun v h' => v = some (.long (bfL (bform t n))) ∧ h = h')) args s 0 0 (mx_A base)) h 0 0 65 [some (.ref (P 0)), some (.int (nI f)), some (.int (nI (bn t i))), some (.int (nI (s10 (bv t i) (bn t i)))), some (.int (nI (s13 (bv t i) (bn t i)))), some (.long (lN (rv t i))), none, some (.long (lN (rq t i))), none, some (.int (mx_b (bx t i))), some (.int (nI i)), some (.int (sb_b (t i))), o12, o13, none, none] [.int (mx_b X)] := by
      intro X hX
      refine mx_istore C dX9_form_65 (pc' := 67) rfl (by first | exact mx_c1_0 | exact mx_c1_int rfl | exact mx_c1_ref rfl | exact mx_c1_none rfl | exact mx_c1_rf rfl | exact mx_c1_null rfl) (by decide) (lo' := [_, _, _, _, _, _, _, _, _, _, _, _, _, _, _, _]) rfl ?_
      refine mx_iload C dX9_form_67 (pc' := 69) rfl rfl ?_
      refine cX9_81 C dX9_form_69 (pc' := 72) rfl (c_X9_isDigit l G base h hti) ⟨by decide, by decide, by decide, by decide, Nat.le_of_ble_eq_true rfl⟩ ?_
      rintro _ _ ⟨rfl, rfl⟩
      refine mx_B_ne C dX9_form_72 (tgt := 80) (by decide) (pc' := 75) rfl (fun g2 => ?_) (fun g2 => ?_)
      rotate_left
      · skip
        refine mx_iload C dX9_form_75 (pc' := 77) rfl rfl ?_
        have ec : bcr (t i) (bn t i) = X := by unfold bcr; rw [g2, hX]; rfl
        refine mx_B_eq C dX9_form_77 (tgt := 205) (by decide) (pc' := 80) rfl (fun g3 => ?_) (fun g3 => ?_)
        · have hk : bkp (t i) (bn t i) = false := by unfold bkp; rw [g2, ← hX, g3]; rfl
          have e1 : bn t (i + 1) = bn t i := by rw [bn_s, if_neg (by rw [hk]; decide)]
          have e2 : rv t (i + 1) = rv t i := by simp only [rv]; rw [if_neg (by rw [hk]; decide)]
          have e3 : rq t (i + 1) = rq t i := by
            show (if bkp (t i) (bn t i) then _ else _) = _
            rw [if_neg (by rw [hk]; decide)]
          have e5 : bv t (i + 1) = bv t i := by
            funext k
            rw [bv_s, hk]
            simp
          have e6 : bx t (i + 1) = bx t i := by rw [bx_s, ec, g3, Bool.or_false]
          have := k205 (some (.int (sb_b (t i)))) (some (.int (mx_b X))) o13
          rw [e1, e2, e3, e5, e6] at this
          exact this
        · have hk : bkp (t i) (bn t i) = true := by unfold bkp; rw [g2, ← hX, g3]; rfl
          have k95 := k95 hk
          rw [ec, show bvl (t i) = 10 by unfold bvl; rw [g2]; rfl] at k95
          refine mx_iload C dX9_form_80 (pc' := 82) rfl rfl ?_
          refine mx_B_eq C dX9_form_82 (tgt := 90) (by decide) (pc' := 85) rfl (fun g4 => ?_) (fun g4 => ?_)
          · rw [g3] at g4; cases g4
          · skip
            refine mx_bipush C (v := nI 10) (by decide) dX9_form_85 (pc' := 87) rfl ?_
            refine mx_goto C dX9_form_87 (tgt := 95) (by decide) ?_
            exact k95
      · have hk : bkp (t i) (bn t i) = true := by unfold bkp; rw [g2]; rfl
        have ex : X = false := by rw [hX, dgX _ hti g2]; rfl
        have k95 := k95 hk
        have h48 := dg_i g2
        rw [show bcr (t i) (bn t i) = X by unfold bcr; rw [g2, ex]; rfl, show bvl (t i) = t i - 48 by unfold bvl; rw [g2]; rfl] at k95
        refine mx_iload C dX9_form_80 (pc' := 82) rfl rfl ?_
        refine mx_B_eq C dX9_form_82 (tgt := 90) (by decide) (pc' := 85) rfl (fun g4 => ?_) (fun g4 => ?_)
        · skip
          refine mx_iload C dX9_form_90 (pc' := 92) rfl rfl ?_
          rw [sg_small _ (show t i < 128 by omega)]
          refine mx_bipush C (v := nI 48) (by decide) dX9_form_92 (pc' := 94) rfl ?_
          refine mx_isub C dX9_form_94 (pc' := 95) rfl ?_
          rw [pk_sub h48.1]
          rw [sg_small _ (show t i < 128 by omega)] at k95
          exact k95
        · rw [ex] at g4; cases g4
    refine mx_weak (mx_le_keep (mx_le_keep (mx_le_keep (mx_le_keep (mx_le_keep (mx_le_keep (mx_le_keep (mx_le_keep (mx_le_keep (mx_le_keep (mx_le_keep (mx_le_keep (mx_le_keep (mx_le_keep (mx_le_keep (mx_le_keep mx_le_nil)))))))))))))))) ?_
    first | refine mx_aload_n C dX9_form_30 (pc' := 31) rfl rfl ?_ | refine mx_aload_nq C dX9_form_30 (pc' := 31) rfl rfl ?_
    refine mx_iload_n C dX9_form_31 (pc' := 32) rfl rfl ?_
    refine mx_iload C dX9_form_32 (pc' := 34) rfl rfl ?_
    refine cX9_88 C dX9_form_34 (pc' := 37) rfl (m3) (hat i g1) ⟨by decide, by decide, by decide, by decide, Nat.le_of_ble_eq_true rfl⟩ ?_
    rintro _ _ ⟨rfl, rfl⟩
    refine mx_istore C dX9_form_37 (pc' := 39) rfl (by first | exact mx_c1_0 | exact mx_c1_int rfl | exact mx_c1_ref rfl | exact mx_c1_none rfl | exact mx_c1_rf rfl | exact mx_c1_null rfl) (by decide) (lo' := [_, _, _, _, _, _, _, _, _, _, _, _, _, _, _, _]) rfl ?_
    refine mx_iload C dX9_form_39 (pc' := 41) rfl rfl ?_
    refine cX9_84 C dX9_form_41 (pc' := 44) rfl (c_X9_small l G base h hti) ⟨by decide, by decide, by decide, by decide, Nat.le_of_ble_eq_true rfl⟩ ?_
    rintro _ _ ⟨rfl, rfl⟩
    refine mx_bipush C (v := nI 120) (by decide) dX9_form_44 (pc' := 46) rfl ?_
    have hcr := crX hti
    refine mx_icmp_ne C dX9_form_46 (tgt := 64) (by decide) (pc' := 49) rfl (fun g2 => ?_) (fun g2 => ?_)
    · have e1 : isX (t i) = false := by
        cases hz : isX (t i) with
        | false => rfl
        | true => exact absurd (hcr.mpr hz) g2
      refine mx_iconst C (v := nI 0) (by decide) dX9_form_64 (pc' := 65) rfl ?_
      exact k65 false (by rw [e1]; rfl)
    have e1 := hcr.mp g2
    refine mx_iload_n C dX9_form_49 (pc' := 50) rfl rfl ?_
    refine mx_bipush C (v := nI 9) (by decide) dX9_form_50 (pc' := 52) rfl ?_
    refine mx_N_ne C dX9_form_52 (tgt := 64) (by decide) (pc' := 55) rfl (by omega) (by omega) (fun g3 => ?_) (fun g3 => ?_)
    · skip
      refine mx_iconst C (v := nI 0) (by decide) dX9_form_64 (pc' := 65) rfl ?_
      exact k65 false (by rw [e1]; simp [g3])
    refine mx_iload C dX9_form_55 (pc' := 57) rfl rfl ?_
    refine mx_B_ne C dX9_form_57 (tgt := 64) (by decide) (pc' := 60) rfl (fun g4 => ?_) (fun g4 => ?_)
    · exact absurd (w3 g4) (by omega)
    · skip
      refine mx_iconst C (v := nI 1) (by decide) dX9_form_60 (pc' := 61) rfl ?_
      refine mx_goto C dX9_form_61 (tgt := 65) (by decide) ?_
      exact k65 true (by rw [e1, g3]; rfl)
  refine mx_iconst C (v := nI 0) (by decide) dX9_form_0 (pc' := 1) rfl ?_
  refine mx_istore_n C dX9_form_1 (pc' := 2) rfl (by first | exact mx_c1_0 | exact mx_c1_int rfl | exact mx_c1_ref rfl | exact mx_c1_none rfl | exact mx_c1_rf rfl | exact mx_c1_null rfl) (by decide) (lo' := [_, _, _, _, _, _, _, _, _, _, _, _, _, _, _, _]) rfl ?_
  refine mx_iconst C (v := nI 0) (by decide) dX9_form_2 (pc' := 3) rfl ?_
  refine mx_istore_n C dX9_form_3 (pc' := 4) rfl (by first | exact mx_c1_0 | exact mx_c1_int rfl | exact mx_c1_ref rfl | exact mx_c1_none rfl | exact mx_c1_rf rfl | exact mx_c1_null rfl) (by decide) (lo' := [_, _, _, _, _, _, _, _, _, _, _, _, _, _, _, _]) rfl ?_
  refine mx_iconst C (v := nI 0) (by decide) dX9_form_4 (pc' := 5) rfl ?_
  refine mx_istore C dX9_form_5 (pc' := 7) rfl (by first | exact mx_c1_0 | exact mx_c1_int rfl | exact mx_c1_ref rfl | exact mx_c1_none rfl | exact mx_c1_rf rfl | exact mx_c1_null rfl) (by decide) (lo' := [_, _, _, _, _, _, _, _, _, _, _, _, _, _, _, _]) rfl ?_
  refine mx_lconst C (v := lN 0) (by decide) dX9_form_7 (pc' := 8) rfl ?_
  refine mx_lstore C dX9_form_8 (pc' := 10) rfl (by first | exact mx_c1_0 | exact mx_c1_int rfl | exact mx_c1_ref rfl | exact mx_c1_none rfl | exact mx_c1_rf rfl | exact mx_c1_null rfl) (by decide) (lo' := [_, _, _, _, _, _, _, _, _, _, _, _, _, _, _, _]) rfl ?_
  refine mx_lconst C (v := lN 0) (by decide) dX9_form_10 (pc' := 11) rfl ?_
  refine mx_lstore C dX9_form_11 (pc' := 13) rfl (by first | exact mx_c1_0 | exact mx_c1_int rfl | exact mx_c1_ref rfl | exact mx_c1_none rfl | exact mx_c1_rf rfl | exact mx_c1_null rfl) (by decide) (lo' := [_, _, _, _, _, _, _, _, _, _, _, _, _, _, _, _]) rfl ?_
  refine mx_iconst C (v := nI 0) (by decide) dX9_form_13 (pc' := 14) rfl ?_
  refine mx_istore C dX9_form_14 (pc' := 16) rfl (by first | exact mx_c1_0 | exact mx_c1_int rfl | exact mx_c1_ref rfl | exact mx_c1_none rfl | exact mx_c1_rf rfl | exact mx_c1_null rfl) (by decide) (lo' := [_, _, _, _, _, _, _, _, _, _, _, _, _, _, _, _]) rfl ?_
  refine mx_iconst C (v := nI 0) (by decide) dX9_form_16 (pc' := 17) rfl ?_
  refine mx_istore C dX9_form_17 (pc' := 19) rfl (by first | exact mx_c1_0 | exact mx_c1_int rfl | exact mx_c1_ref rfl | exact mx_c1_none rfl | exact mx_c1_rf rfl | exact mx_c1_null rfl) (by decide) (lo' := [_, _, _, _, _, _, _, _, _, _, _, _, _, _, _, _]) rfl ?_
  exact loop _ 0 none none none rfl (by omega)
end R2
