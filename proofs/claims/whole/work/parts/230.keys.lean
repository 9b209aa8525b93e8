/-! keys: the key of a field, as a kind and a number; the class's and the reference's longs for it -/
def w4 (t : Nat → Nat) (n k : Nat) : Bool := decide (4 ≤ wln t n k)
def fkey (g : Nat) (t : Nat → Nat) (n : Nat) : Option (Bool × Nat) :=
  if g = 0 then (fiB (w4 t n) (wcn t n)).map (fun k => (false, pv t (wst t n k) 4))
  else if g = 2 then (bform t n).map (fun f => (true, f)) else none
def encC (o : Option (Bool × Nat)) : Int64 := match o with
  | none => lN 0
  | some (false, p) => (-(nI p)).toInt64
  | some (true, f) => lN (f + 1)
theorem bform_le {t : Nat → Nat} {n f : Nat} (h : bform t n = some f) : f ≤ 98000000000000010 := by
  obtain ⟨w1, -, -⟩ := bv_in t n
  unfold bform at h
  split at h
  · rename_i hc
    have := dF_b (V := bv t n) (a := 978) (k := 9) (fun i hi => (w1 i (by omega)).1) (by omega) (by omega)
    cases h
    omega
  · split at h
    · rename_i hc
      have := dF_b (V := bv t n) (a := 0) (k := 13) (fun i hi => (w1 i (by omega)).1) (by omega) (by omega)
      cases h
      omega
    · cases h
theorem bfL_none {t : Nat → Nat} {n : Nat} : bfL (bform t n) = -1 ↔ bform t n = none := by
  cases h : bform t n with
  | none => exact ⟨fun _ => rfl, fun _ => rfl⟩
  | some f =>
    have h1 := bform_le h
    refine ⟨fun z => ?_, fun z => by cases z⟩
    exfalso
    have z2 := congrArg Int64.toInt (show lN f = -1 from z)
    rw [pk_lT (by omega)] at z2
    have z3 : (-1 : Int64).toInt = -1 := by decide
    omega
/-- a KeyRow object -/
def ko_at (G : mx_G) (h : mx_H) (q rw : Nat) (A : Nat → Int64) (c : Nat) : Prop := q ≠ rw ∧ c ≤ 200 ∧ h q = some (.inr (3, [.ref rw, .int (nI c)])) ∧ h rw = some (.inl (G.2 1, 200, .inr (.inl A)))
def ko_up (G : mx_G) (h : mx_H) (q rw : Nat) (A : Nat → Int64) (c : Nat) : mx_H := va_up (va_up h q (some (.inr (3, [.ref rw, .int (nI c)])))) rw (some (.inl (G.2 1, 200, .inr (.inl A))))
theorem ko_at_up {G : mx_G} {h : mx_H} {q rw c : Nat} {A : Nat → Int64} (hD : q ≠ rw) (hc : c ≤ 200) : ko_at G (ko_up G h q rw A c) q rw A c := by
  refine ⟨hD, hc, ?_, ?_⟩
  · unfold ko_up; rw [va_up_ne _ _ hD, va_up_self]
  · unfold ko_up; rw [va_up_self]
theorem ko_up_ne {G : mx_G} {h : mx_H} {q rw a c : Nat} {A : Nat → Int64} (h1 : a ≠ q) (h2 : a ≠ rw) : ko_up G h q rw A c a = h a := by
  unfold ko_up; rw [va_up_ne _ _ h2, va_up_ne _ _ h1]
theorem ko_self {G : mx_G} {h : mx_H} {q rw c : Nat} {A : Nat → Int64} (hA : ko_at G h q rw A c) : h = ko_up G h q rw A c := by
  obtain ⟨-, -, a1, a2⟩ := hA
  funext y
  unfold ko_up va_up
  by_cases e2 : y = rw
  · subst e2; simp [a2]
  · by_cases e1 : y = q
    · subst e1; simp [e2, a1]
    · simp [e2, e1]
theorem ko_setq {G : mx_G} {h : mx_H} {q rw c c' : Nat} {A : Nat → Int64} (hD : q ≠ rw) : va_up (ko_up G h q rw A c) q (some (.inr (3, [.ref rw, .int (nI c')]))) = ko_up G h q rw A c' := by
  funext y
  unfold ko_up va_up
  by_cases e : y = q
  · subst e; simp [hD]
  · simp [e]
theorem ko_setA {G : mx_G} {h : mx_H} {q rw c : Nat} {A A' : Nat → Int64} : va_up (ko_up G h q rw A c) rw (some (.inl (G.2 1, 200, .inr (.inl A')))) = ko_up G h q rw A' c := by
  funext y
  unfold ko_up va_up
  by_cases e : y = rw
  · subst e; simp
  · simp [e]
/-- a KeyReader's cells: K 2, its Words K 3 .. K 6, its BookNumber K 7, K 8 -/
def kr_wf (G : mx_G) (h : mx_H) (K : Nat → Nat) : Prop := h (K 2) = some (.inr (2, [.ref (K 3), .ref (K 7)])) ∧ (∃ F S N c, wo_at G h (K 3) (K 4) (K 5) (K 6) F S N c) ∧ ∃ V c x, bo_at G h (K 7) (K 8) V c x
def kr_fr (K : Nat → Nat) (h h' : mx_H) : Prop := ∀ a, a ≠ K 3 → a ≠ K 4 → a ≠ K 5 → a ≠ K 6 → a ≠ K 7 → a ≠ K 8 → h' a = h a
def inj (K : Nat → Nat) (n : Nat) : Prop := ∀ i j, i < n → j < n → K i = K j → i = j
theorem inj.ne {K : Nat → Nat} {n : Nat} (h : inj K n) {i j : Nat} (hi : i < n) (hj : j < n) (e : i ≠ j) : K i ≠ K j := fun z => e (h i j hi hj z)
theorem kr_w {G : mx_G} {h : mx_H} {K : Nat → Nat} (hK : inj K 23) (hw : kr_wf G h K) {F S N : Nat → Int32} {c : Int32} : kr_wf G (wo_up G h (K 3) (K 4) (K 5) (K 6) F S N c) K ∧ kr_fr K h (wo_up G h (K 3) (K 4) (K 5) (K 6) F S N c) := by
  obtain ⟨h1, ⟨F0, S0, N0, c0, h2⟩, V, c1, x, h3⟩ := hw
  refine ⟨⟨?_, ⟨F, S, N, c, wo_at_up h2.1⟩, V, c1, x, h3.1, ?_, ?_⟩, fun a a3 a4 a5 a6 _ _ => wo_up_ne a3 a4 a5 a6⟩
  · rw [wo_up_ne (hK.ne (by decide) (by decide) (by decide)) (hK.ne (by decide) (by decide) (by decide)) (hK.ne (by decide) (by decide) (by decide)) (hK.ne (by decide) (by decide) (by decide))]; exact h1
  · rw [wo_up_ne (hK.ne (by decide) (by decide) (by decide)) (hK.ne (by decide) (by decide) (by decide)) (hK.ne (by decide) (by decide) (by decide)) (hK.ne (by decide) (by decide) (by decide))]; exact h3.2.1
  · rw [wo_up_ne (hK.ne (by decide) (by decide) (by decide)) (hK.ne (by decide) (by decide) (by decide)) (hK.ne (by decide) (by decide) (by decide)) (hK.ne (by decide) (by decide) (by decide))]; exact h3.2.2
theorem kr_b {G : mx_G} {h : mx_H} {K : Nat → Nat} (hK : inj K 23) (hw : kr_wf G h K) {V : Nat → Int32} {c : Int32} {x : Bool} : kr_wf G (bo_up G h (K 7) (K 8) V c x) K ∧ kr_fr K h (bo_up G h (K 7) (K 8) V c x) := by
  obtain ⟨h1, ⟨F0, S0, N0, c0, h2⟩, V0, c1, x0, h3⟩ := hw
  have ne : ∀ i, i < 7 → bo_up G h (K 7) (K 8) V c x (K i) = h (K i) := fun i hi => bo_up_ne (hK.ne (by omega) (by decide) (by omega)) (hK.ne (by omega) (by decide) (by omega))
  refine ⟨⟨by rw [ne 2 (by decide)]; exact h1, ⟨F0, S0, N0, c0, h2.1, by rw [ne 3 (by decide)]; exact h2.2.1, by rw [ne 4 (by decide)]; exact h2.2.2.1, by rw [ne 5 (by decide)]; exact h2.2.2.2.1, by rw [ne 6 (by decide)]; exact h2.2.2.2.2⟩, V, c, x, bo_at_up h3.1⟩, fun a _ _ _ _ a7 a8 => bo_up_ne a7 a8⟩
section KE
variable (l : Launch) (G : mx_G) (base : Nat)
set_option maxRecDepth 20000
theorem c_X3_clear (h : mx_H) {q rw c : Nat} {A : Nat → Int64} (hk : ko_at G h q rw A c) : mx_M l G base yX3_clear cX3_clear 1 none 0 0 0 0 [.ref q] h (fun v h' => v = none ∧ h' = ko_up G h q rw A 0) := by
  have hself := ko_self hk
  obtain ⟨hD, hc, h1, h2⟩ := hk
  refine mx_enter (lo := [some (.ref q)]) (by decide) (mx_in wd_code_yX3_clear rfl) (Nat.le_of_ble_eq_true rfl) rfl ?_
  intro p ev s mt args below meth cd C hr hnm
  have C : mx_C p s mt args meth cd cX3_clear 1 RX3 G base := C
  refine mx_heap hself ?_
  first | refine mx_aload_n C dX3_clear_0 (pc' := 1) rfl rfl ?_ | refine mx_aload_nq C dX3_clear_0 (pc' := 1) rfl rfl ?_
  refine mx_iconst C (v := nI 0) (by decide) dX3_clear_1 (pc' := 2) rfl ?_
  refine pX3_15 C dX3_clear_2 (pc' := 5) rfl ((ko_at_up hD hc).2.2.1) (Nat.le_of_ble_eq_true rfl) rfl rfl (fs' := [_, _]) rfl ?_
  refine mx_heap (ko_setq hD) ?_
  exact mx_vret C hr dX3_clear_5 (by omega) (by omega) (⟨rfl, rfl⟩)
theorem c_X3_holds (h : mx_H) {q rw c : Nat} {A : Nat → Int64} {x : Int64} (hk : ko_at G h q rw A c) : mx_M l G base yX3_holds cX3_holds 4 (some .boolean) 0 0 0 0 [.ref q, .long x] h (fun v h' => v = some (.int (mx_b (anyB (fun i => decide (A i = x)) c))) ∧ h = h') := by
  obtain ⟨hD, hc, h1, h2⟩ := hk
  refine mx_enter (lo := [some (.ref q), some (.long x), none, none]) (by decide) (mx_in wd_code_yX3_holds rfl) (Nat.le_of_ble_eq_true rfl) rfl ?_
  intro p ev s mt args below meth cd C hr hnm
  have C : mx_C p s mt args meth cd cX3_holds 4 RX3 G base := C
  have loop : ∀ (d i : Nat), c - i = d → i ≤ c → anyB (fun i => decide (A i = x)) i = false → mx_V p l ev { frames := 0, cells := 0, slots := 0, locals := 0 } s mt args below meth cd G base 4 (MQ below (mx_Qc G base (fun v h' => v = some (.int (mx_b (anyB (fun i => decide (A i = x)) c))) ∧ h = h')) args s 0 0 (mx_A base)) h 0 0 2 [some (.ref q), some (.long x), none, some (.int (nI i))] [] := by
    intro d
    induction d using Nat.strongRecOn with
    | ind d ih =>
    intro i hd hi hall
    refine mx_iload_n C dX3_holds_2 (pc' := 3) rfl rfl ?_
    first | refine mx_aload_n C dX3_holds_3 (pc' := 4) rfl rfl ?_ | refine mx_aload_nq C dX3_holds_3 (pc' := 4) rfl rfl ?_
    refine gX3_15 C dX3_holds_4 (pc' := 7) rfl (h1) rfl ?_
    refine mx_N_ge C dX3_holds_7 (tgt := 29) (by decide) (pc' := 10) rfl (by omega) (by omega) (fun h7 => ?_) (fun h7 => ?_)
    · have e1 : i = c := by omega
      subst e1
      refine mx_iconst C (v := nI 0) (by decide) dX3_holds_29 (pc' := 30) rfl ?_
      first | exact mx_zret C hr (mx_b_nz _) dX3_holds_30 (by omega) (by omega) (⟨mx_ok0 hall, rfl⟩) | exact mx_zret C hr rfl dX3_holds_30 (by omega) (by omega) (⟨mx_ok0 hall, rfl⟩)
    first | refine mx_aload_n C dX3_holds_10 (pc' := 11) rfl rfl ?_ | refine mx_aload_nq C dX3_holds_10 (pc' := 11) rfl rfl ?_
    refine gX3_9 C dX3_holds_11 (pc' := 14) rfl (h1) rfl ?_
    refine mx_iload_n C dX3_holds_14 (pc' := 15) rfl rfl ?_
    refine mx_lald C dX3_holds_15 (pc' := 16) rfl (h2) (rfl) (show i < 200 by omega) (by decide) ?_
    refine mx_lload_n C dX3_holds_16 (pc' := 17) rfl rfl ?_
    refine mx_lcmp C dX3_holds_17 (pc' := 18) rfl ?_
    refine mx_L_ne C dX3_holds_18 (tgt := 23) (by decide) (pc' := 21) rfl (fun h18 => ?_) (fun h18 => ?_)
    · skip
      refine mx_iinc C dX3_holds_23 (pc' := 26) rfl rfl (mx_inc _) (by first | exact mx_c1_0 | exact mx_c1_int rfl | exact mx_c1_ref rfl | exact mx_c1_none rfl | exact mx_c1_rf rfl | exact mx_c1_null rfl) (by decide) (lo' := [_, _, _, _]) rfl ?_
      refine mx_goto C dX3_holds_26 (tgt := 2) (by decide) ?_
      exact ih _ (by omega) (i + 1) rfl (by omega) (anyB_s hall (decide_eq_false h18))
    · skip
      refine mx_iconst C (v := nI 1) (by decide) dX3_holds_21 (pc' := 22) rfl ?_
      first | exact mx_zret C hr (mx_b_nz _) dX3_holds_22 (by omega) (by omega) (⟨mx_ok1 (anyB_iff.mpr ⟨i, h7, decide_eq_true h18⟩), rfl⟩) | exact mx_zret C hr rfl dX3_holds_22 (by omega) (by omega) (⟨mx_ok1 (anyB_iff.mpr ⟨i, h7, decide_eq_true h18⟩), rfl⟩)
  refine mx_iconst C (v := nI 0) (by decide) dX3_holds_0 (pc' := 1) rfl ?_
  refine mx_istore_n C dX3_holds_1 (pc' := 2) rfl (by first | exact mx_c1_0 | exact mx_c1_int rfl | exact mx_c1_ref rfl | exact mx_c1_none rfl | exact mx_c1_rf rfl | exact mx_c1_null rfl) (by decide) (lo' := [_, _, _, _]) rfl ?_
  exact loop _ 0 rfl (by omega) rfl
theorem c_X3_has (h : mx_H) {q rw c : Nat} {A : Nat → Int64} {i : Int32} (hk : ko_at G h q rw A c) : mx_M l G base yX3_has cX3_has 2 (some .boolean) 0 0 0 0 [.ref q, .int i] h (fun v h' => v = some (.int (mx_b (decide (0 ≤ i.toInt ∧ i.toInt < c)))) ∧ h = h') := by
  obtain ⟨hD, hc, h1, h2⟩ := hk
  refine mx_enter (lo := [some (.ref q), some (.int i)]) (by decide) (mx_in wd_code_yX3_has rfl) (Nat.le_of_ble_eq_true rfl) rfl ?_
  intro p ev s mt args below meth cd C hr hnm
  have C : mx_C p s mt args meth cd cX3_has 2 RX3 G base := C
  have q1 : i < 0 ↔ i.toInt < 0 := Int32.lt_iff_toInt_lt
  have q2 : nI c ≤ i ↔ (c : Int) ≤ i.toInt := by rw [Int32.le_iff_toInt_le, nI_toInt (by omega)]
  refine mx_iload_n C dX3_has_0 (pc' := 1) rfl rfl ?_
  refine mx_if_lt C dX3_has_1 (tgt := 16) (by decide) (pc' := 4) rfl (fun hb1 => ?_) (fun hb1 => ?_)
  · refine mx_iconst C (v := nI 0) (by decide) dX3_has_16 (pc' := 17) rfl ?_
    first | exact mx_zret C hr (mx_b_nz _) dX3_has_17 (by omega) (by omega) (⟨by simp only [Int32.lt_iff_toInt_lt, Int32.le_iff_toInt_le, nI_toInt (show c < 2 ^ 31 by omega), Int32.toInt_zero] at *; first | exact mx_ok1 (decide_eq_true (by omega)) | exact mx_ok0 (decide_eq_false (by omega)), rfl⟩) | exact mx_zret C hr rfl dX3_has_17 (by omega) (by omega) (⟨by simp only [Int32.lt_iff_toInt_lt, Int32.le_iff_toInt_le, nI_toInt (show c < 2 ^ 31 by omega), Int32.toInt_zero] at *; first | exact mx_ok1 (decide_eq_true (by omega)) | exact mx_ok0 (decide_eq_false (by omega)), rfl⟩)
  · refine mx_iload_n C dX3_has_4 (pc' := 5) rfl rfl ?_
    first | refine mx_aload_n C dX3_has_5 (pc' := 6) rfl rfl ?_ | refine mx_aload_nq C dX3_has_5 (pc' := 6) rfl rfl ?_
    refine gX3_15 C dX3_has_6 (pc' := 9) rfl (h1) rfl ?_
    refine mx_icmp_ge C dX3_has_9 (tgt := 16) (by decide) (pc' := 12) rfl (fun hb9 => ?_) (fun hb9 => ?_)
    · refine mx_iconst C (v := nI 0) (by decide) dX3_has_16 (pc' := 17) rfl ?_
      first | exact mx_zret C hr (mx_b_nz _) dX3_has_17 (by omega) (by omega) (⟨by simp only [Int32.lt_iff_toInt_lt, Int32.le_iff_toInt_le, nI_toInt (show c < 2 ^ 31 by omega), Int32.toInt_zero] at *; first | exact mx_ok1 (decide_eq_true (by omega)) | exact mx_ok0 (decide_eq_false (by omega)), rfl⟩) | exact mx_zret C hr rfl dX3_has_17 (by omega) (by omega) (⟨by simp only [Int32.lt_iff_toInt_lt, Int32.le_iff_toInt_le, nI_toInt (show c < 2 ^ 31 by omega), Int32.toInt_zero] at *; first | exact mx_ok1 (decide_eq_true (by omega)) | exact mx_ok0 (decide_eq_false (by omega)), rfl⟩)
    · refine mx_iconst C (v := nI 1) (by decide) dX3_has_12 (pc' := 13) rfl ?_
      refine mx_goto C dX3_has_13 (tgt := 17) (by decide) ?_
      first | exact mx_zret C hr (mx_b_nz _) dX3_has_17 (by omega) (by omega) (⟨by simp only [Int32.lt_iff_toInt_lt, Int32.le_iff_toInt_le, nI_toInt (show c < 2 ^ 31 by omega), Int32.toInt_zero] at *; first | exact mx_ok1 (decide_eq_true (by omega)) | exact mx_ok0 (decide_eq_false (by omega)), rfl⟩) | exact mx_zret C hr rfl dX3_has_17 (by omega) (by omega) (⟨by simp only [Int32.lt_iff_toInt_lt, Int32.le_iff_toInt_le, nI_toInt (show c < 2 ^ 31 by omega), Int32.toInt_zero] at *; first | exact mx_ok1 (decide_eq_true (by omega)) | exact mx_ok0 (decide_eq_false (by omega)), rfl⟩)
theorem c_X3_get (h : mx_H) {q rw c j : Nat} {A : Nat → Int64} (hk : ko_at G h q rw A c) (hj : j < c) : mx_M l G base yX3_get cX3_get 2 (some .long) 1 21 0 0 [.ref q, .int (nI j)] h (fun v h' => v = some (.long (A j)) ∧ h = h') := by
  obtain ⟨hD, hc, h1, h2⟩ := id hk
  refine mx_enter (lo := [some (.ref q), some (.int (nI j))]) (by decide) (mx_in wd_code_yX3_get rfl) (Nat.le_of_ble_eq_true rfl) rfl ?_
  intro p ev s mt args below meth cd C hr hnm
  have C : mx_C p s mt args meth cd cX3_get 2 RX3 G base := C
  first | refine mx_aload_n C dX3_get_0 (pc' := 1) rfl rfl ?_ | refine mx_aload_nq C dX3_get_0 (pc' := 1) rfl rfl ?_
  refine mx_iload_n C dX3_get_1 (pc' := 2) rfl rfl ?_
  refine cX3_25 C dX3_get_2 (pc' := 5) rfl (h1) (c_X3_has l G base h hk) ⟨by decide, by decide, by decide, by decide, Nat.le_of_ble_eq_true rfl⟩ ?_
  rintro _ _ ⟨rfl, rfl⟩
  refine mx_B_eq C dX3_get_5 (tgt := 26) (by decide) (pc' := 8) rfl (fun h5 => ?_) (fun h5 => ?_)
  · exact absurd (of_decide_eq_false h5) (by rw [nI_toInt (show j < 2 ^ 31 by omega)]; omega)
  refine mx_iload_n C dX3_get_8 (pc' := 9) rfl rfl ?_
  first | refine mx_aload_n C dX3_get_9 (pc' := 10) rfl rfl ?_ | refine mx_aload_nq C dX3_get_9 (pc' := 10) rfl rfl ?_
  refine gX3_9 C dX3_get_10 (pc' := 13) rfl (h1) rfl ?_
  refine mx_alenl C dX3_get_13 (pc' := 14) rfl (h2) ?_
  refine mx_N_ge C dX3_get_14 (tgt := 26) (by decide) (pc' := 17) rfl (by omega) (by omega) (fun h14 => ?_) (fun h14 => ?_)
  · exact absurd h14 (by omega)
  first | refine mx_aload_n C dX3_get_17 (pc' := 18) rfl rfl ?_ | refine mx_aload_nq C dX3_get_17 (pc' := 18) rfl rfl ?_
  refine gX3_9 C dX3_get_18 (pc' := 21) rfl (h1) rfl ?_
  refine mx_iload_n C dX3_get_21 (pc' := 22) rfl rfl ?_
  refine mx_lald C dX3_get_22 (pc' := 23) rfl (h2) (rfl) (show j < 200 by omega) (by decide) ?_
  refine mx_goto C dX3_get_23 (tgt := 27) (by decide) ?_
  exact mx_lret C hr dX3_get_27 (by omega) (by omega) (⟨rfl, rfl⟩)
theorem c_X3_add (h : mx_H) {q rw c : Nat} {A : Nat → Int64} {x : Int64} (hk : ko_at G h q rw A c) (hc2 : c < 200) : mx_M l G base yX3_add cX3_add 3 none 1 23 0 0 [.ref q, .long x] h (fun v h' => v = none ∧ h' = if x = lN 0 ∨ anyB (fun i => decide (A i = x)) c = true then h else ko_up G h q rw (vp_updL A c x) (c + 1)) := by
  have hself := ko_self hk
  obtain ⟨hD, hc, h1, h2⟩ := id hk
  refine mx_enter (lo := [some (.ref q), some (.long x), none]) (by decide) (mx_in wd_code_yX3_add rfl) (Nat.le_of_ble_eq_true rfl) rfl ?_
  intro p ev s mt args below meth cd C hr hnm
  have C : mx_C p s mt args meth cd cX3_add 3 RX3 G base := C
  refine mx_lload_n C dX3_add_0 (pc' := 1) rfl rfl ?_
  refine mx_lconst C (v := lN 0) (by decide) dX3_add_1 (pc' := 2) rfl ?_
  refine mx_lcmp C dX3_add_2 (pc' := 3) rfl ?_
  refine mx_L_eq C dX3_add_3 (tgt := 46) (by decide) (pc' := 6) rfl (fun h3 => ?_) (fun h3 => ?_)
  · skip
    exact mx_vret C hr dX3_add_46 (by omega) (by omega) (⟨rfl, by rw [if_pos (Or.inl h3)]⟩)
  first | refine mx_aload_n C dX3_add_6 (pc' := 7) rfl rfl ?_ | refine mx_aload_nq C dX3_add_6 (pc' := 7) rfl rfl ?_
  refine mx_lload_n C dX3_add_7 (pc' := 8) rfl rfl ?_
  refine cX3_21 C dX3_add_8 (pc' := 11) rfl (h1) (c_X3_holds l G base h hk) ⟨by decide, by decide, by decide, by decide, Nat.le_of_ble_eq_true rfl⟩ ?_
  rintro _ _ ⟨rfl, rfl⟩
  refine mx_B_ne C dX3_add_11 (tgt := 46) (by decide) (pc' := 14) rfl (fun h11 => ?_) (fun h11 => ?_)
  · skip
    exact mx_vret C hr dX3_add_46 (by omega) (by omega) (⟨rfl, by rw [if_pos (Or.inr h11)]⟩)
  first | refine mx_aload_n C dX3_add_14 (pc' := 15) rfl rfl ?_ | refine mx_aload_nq C dX3_add_14 (pc' := 15) rfl rfl ?_
  refine gX3_15 C dX3_add_15 (pc' := 18) rfl (h1) rfl ?_
  first | refine mx_aload_n C dX3_add_18 (pc' := 19) rfl rfl ?_ | refine mx_aload_nq C dX3_add_18 (pc' := 19) rfl rfl ?_
  refine gX3_9 C dX3_add_19 (pc' := 22) rfl (h1) rfl ?_
  refine mx_alenl C dX3_add_22 (pc' := 23) rfl (h2) ?_
  refine mx_N_ge C dX3_add_23 (tgt := 46) (by decide) (pc' := 26) rfl (by omega) (by omega) (fun h23 => ?_) (fun h23 => ?_)
  · exact absurd h23 (by omega)
  have hno : ¬ (x = lN 0 ∨ anyB (fun i => decide (A i = x)) c = true) := by
    rintro (z | z)
    · exact h3 z
    · rw [h11] at z; cases z
  refine mx_heap hself ?_
  first | refine mx_aload_n C dX3_add_26 (pc' := 27) rfl rfl ?_ | refine mx_aload_nq C dX3_add_26 (pc' := 27) rfl rfl ?_
  refine gX3_9 C dX3_add_27 (pc' := 30) rfl ((ko_at_up hD hc).2.2.1) rfl ?_
  first | refine mx_aload_n C dX3_add_30 (pc' := 31) rfl rfl ?_ | refine mx_aload_nq C dX3_add_30 (pc' := 31) rfl rfl ?_
  refine gX3_15 C dX3_add_31 (pc' := 34) rfl ((ko_at_up hD hc).2.2.1) rfl ?_
  refine mx_lload_n C dX3_add_34 (pc' := 35) rfl rfl ?_
  refine mx_last C dX3_add_35 (pc' := 36) rfl ((ko_at_up hD hc).2.2.2) (rfl) (show c < 200 by omega) (by decide) ?_
  refine mx_heap ko_setA ?_
  first | refine mx_aload_n C dX3_add_36 (pc' := 37) rfl rfl ?_ | refine mx_aload_nq C dX3_add_36 (pc' := 37) rfl rfl ?_
  refine mx_dup C rfl dX3_add_37 (pc' := 38) rfl ?_
  refine gX3_15 C dX3_add_38 (pc' := 41) rfl ((ko_at_up hD hc).2.2.1) rfl ?_
  refine mx_iconst C (v := nI 1) (by decide) dX3_add_41 (pc' := 42) rfl ?_
  refine mx_iadd C dX3_add_42 (pc' := 43) rfl ?_
  rw [nI_add]
  refine pX3_15 C dX3_add_43 (pc' := 46) rfl ((ko_at_up hD hc).2.2.1) (Nat.le_of_ble_eq_true rfl) rfl rfl (fs' := [_, _]) rfl ?_
  refine mx_heap (ko_setq hD) ?_
  exact mx_vret C hr dX3_add_46 (by omega) (by omega) (⟨rfl, by rw [if_neg hno]⟩)
theorem c_X2_isRightNumber (h : mx_H) {K : Nat → Nat} {x ow ch n : Nat} {nu tg : Int32} {nx : Value} {t : Nat → Nat} (hK : inj K 23) (hw : kr_wf G h K) (hx : tx_at G h x nu tg ow ch nx n t) :
    mx_M l G base yX2_isRightNumber cX2_isRightNumber 2 (some .boolean) 4 85 0 0 [.ref (K 2), .ref x] h (fun v h' => v = some (.int (mx_b (bform t n).isSome)) ∧ kr_wf G h' K ∧ kr_fr K h h') := by
  obtain ⟨h1, -, V, c1, y, h3⟩ := id hw
  refine mx_enter (lo := [some (.ref (K 2)), some (.ref x)]) (by decide) (mx_in wd_code_yX2_isRightNumber rfl) (Nat.le_of_ble_eq_true rfl) rfl ?_
  intro p ev s mt args below meth cd C hr hnm
  have C : mx_C p s mt args meth cd cX2_isRightNumber 2 RX2 G base := C
  first | refine mx_aload_n C dX2_isRightNumber_0 (pc' := 1) rfl rfl ?_ | refine mx_aload_nq C dX2_isRightNumber_0 (pc' := 1) rfl rfl ?_
  refine gX2_21 C dX2_isRightNumber_1 (pc' := 4) rfl (h1) rfl ?_
  first | refine mx_aload_n C dX2_isRightNumber_4 (pc' := 5) rfl rfl ?_ | refine mx_aload_nq C dX2_isRightNumber_4 (pc' := 5) rfl rfl ?_
  refine cX2_25 C dX2_isRightNumber_5 (pc' := 8) rfl (h3.2.1) (c_X1_formOf l G base h h3 hx) ⟨by decide, by decide, by decide, by decide, Nat.le_of_ble_eq_true rfl⟩ ?_
  rintro _ _ ⟨rfl, V', c', y', rfl⟩
  refine kX2_29 C dX2_isRightNumber_8 (pc' := 11) rfl ?_
  refine mx_lcmp C dX2_isRightNumber_11 (pc' := 12) rfl ?_
  refine mx_L_eq C dX2_isRightNumber_12 (tgt := 19) (by decide) (pc' := 15) rfl (fun h12 => ?_) (fun h12 => ?_)
  · skip
    refine mx_iconst C (v := nI 0) (by decide) dX2_isRightNumber_19 (pc' := 20) rfl ?_
    first | exact mx_zret C hr (mx_b_nz _) dX2_isRightNumber_20 (by omega) (by omega) (⟨mx_ok0 (by rw [bfL_none.mp h12]; rfl), kr_b hK hw⟩) | exact mx_zret C hr rfl dX2_isRightNumber_20 (by omega) (by omega) (⟨mx_ok0 (by rw [bfL_none.mp h12]; rfl), kr_b hK hw⟩)
  · skip
    refine mx_iconst C (v := nI 1) (by decide) dX2_isRightNumber_15 (pc' := 16) rfl ?_
    refine mx_goto C dX2_isRightNumber_16 (tgt := 20) (by decide) ?_
    first | exact mx_zret C hr (mx_b_nz _) dX2_isRightNumber_20 (by omega) (by omega) (⟨mx_ok1 (by cases hf : bform t n with | none => exact absurd (bfL_none.mpr hf) h12 | some f => rfl), kr_b hK hw⟩) | exact mx_zret C hr rfl dX2_isRightNumber_20 (by omega) (by omega) (⟨mx_ok1 (by cases hf : bform t n with | none => exact absurd (bfL_none.mpr hf) h12 | some f => rfl), kr_b hK hw⟩)
theorem c_X2_keyOf (h : mx_H) {K : Nat → Nat} {x ow ch n g : Nat} {nu : Int32} {nx : Value} {t : Nat → Nat} (hK : inj K 23) (hw : kr_wf G h K) (hx : tx_at G h x nu (nI g) ow ch nx n t) (hg : g ≤ 9) (hch : ch ≠ K 4) :
    mx_M l G base yX2_keyOf cX2_keyOf 4 (some .long) 4 85 0 0 [.ref (K 2), .ref x] h (fun v h' => v = some (.long (encC (fkey g t n))) ∧ kr_wf G h' K ∧ kr_fr K h h') := by
  obtain ⟨h1, ⟨F0, S0, N0, c0, h2⟩, V, c1, y, h3⟩ := id hw
  refine mx_enter (lo := [some (.ref (K 2)), some (.ref x), none, none]) (by decide) (mx_in wd_code_yX2_keyOf rfl) (Nat.le_of_ble_eq_true rfl) rfl ?_
  intro p ev s mt args below meth cd C hr hnm
  have C : mx_C p s mt args meth cd cX2_keyOf 4 RX2 G base := C
  first | refine mx_aload_n C dX2_keyOf_0 (pc' := 1) rfl rfl ?_ | refine mx_aload_nq C dX2_keyOf_0 (pc' := 1) rfl rfl ?_
  refine gX2_31 C dX2_keyOf_1 (pc' := 4) rfl (hx.2.1) rfl ?_
  refine mx_N0_ne C dX2_keyOf_4 (tgt := 25) (by decide) (pc' := 7) rfl (by omega) (fun h4 => ?_) (fun h4 => ?_)
  rotate_left
  · skip
    first | refine mx_aload_n C dX2_keyOf_7 (pc' := 8) rfl rfl ?_ | refine mx_aload_nq C dX2_keyOf_7 (pc' := 8) rfl rfl ?_
    refine gX2_12 C dX2_keyOf_8 (pc' := 11) rfl (h1) rfl ?_
    first | refine mx_aload_n C dX2_keyOf_11 (pc' := 12) rfl rfl ?_ | refine mx_aload_nq C dX2_keyOf_11 (pc' := 12) rfl rfl ?_
    refine cX2_37 C dX2_keyOf_12 (pc' := 15) rfl (h2.2.1) (c_X7_read l G base h h2 hx hch) ⟨by decide, by decide, by decide, by decide, Nat.le_of_ble_eq_true rfl⟩ ?_
    rintro _ _ ⟨rfl, F, S, N, rfl, hok⟩
    obtain ⟨hw', hf'⟩ := kr_w (F := F) (S := S) (N := N) (c := nI (wcn t n)) hK hw
    have his : wo_is G (wo_up G h (K 3) (K 4) (K 5) (K 6) F S N (nI (wcn t n))) (K 3) (K 4) (K 5) (K 6) t n := ⟨hx.1, fun j hj => (hx.2.2.choose_spec.2 j hj).2, F, S, N, wo_at_up h2.1, hok⟩
    first | refine mx_aload_n C dX2_keyOf_15 (pc' := 16) rfl rfl ?_ | refine mx_aload_nq C dX2_keyOf_15 (pc' := 16) rfl rfl ?_
    refine gX2_12 C dX2_keyOf_16 (pc' := 19) rfl (hw'.1) rfl ?_
    refine cX2_41 C dX2_keyOf_19 (pc' := 22) rfl ((wo_at_up h2.1).2.1) (c_X7_startOfFirstLong l G base _ his) ⟨by decide, by decide, by decide, by decide, Nat.le_of_ble_eq_true rfl⟩ ?_
    rintro _ _ ⟨rfl, rfl⟩
    refine mx_ineg C dX2_keyOf_22 (pc' := 23) rfl ?_
    refine mx_i2l C (rfl) dX2_keyOf_23 (pc' := 24) rfl ?_
    exact mx_lret C hr dX2_keyOf_24 (by omega) (by omega) (⟨by subst h4; unfold fkey encC; rw [if_pos rfl]; show _ = some (Value.long (match Option.map _ (fiB (fun k => decide (4 ≤ wln t n k)) (wcn t n)) with | none => lN 0 | some (false, p) => (-(nI p)).toInt64 | some (true, f) => lN (f + 1))); cases fiB (fun k => decide (4 ≤ wln t n k)) (wcn t n) with | none => exact congrArg (fun z => some (Value.long z)) (show (-(nI 0)).toInt64 = lN 0 by decide) | some k => rfl, hw', hf'⟩)
  have e0 : fkey g t n = if g = 2 then (bform t n).map (fun f => (true, f)) else none := by unfold fkey; rw [if_neg h4]
  rw [e0]
  first | refine mx_aload_n C dX2_keyOf_25 (pc' := 26) rfl rfl ?_ | refine mx_aload_nq C dX2_keyOf_25 (pc' := 26) rfl rfl ?_
  refine gX2_31 C dX2_keyOf_26 (pc' := 29) rfl (hx.2.1) rfl ?_
  refine mx_iconst C (v := nI 2) (by decide) dX2_keyOf_29 (pc' := 30) rfl ?_
  refine mx_N_ne C dX2_keyOf_30 (tgt := 58) (by decide) (pc' := 33) rfl (by omega) (by omega) (fun h30 => ?_) (fun h30 => ?_)
  · skip
    refine mx_lconst C (v := lN 0) (by decide) dX2_keyOf_58 (pc' := 59) rfl ?_
    exact mx_lret C hr dX2_keyOf_59 (by omega) (by omega) (⟨by rw [if_neg h30]; rfl, hw, fun a _ _ _ _ _ _ => rfl⟩)
  rw [if_pos h30]
  first | refine mx_aload_n C dX2_keyOf_33 (pc' := 34) rfl rfl ?_ | refine mx_aload_nq C dX2_keyOf_33 (pc' := 34) rfl rfl ?_
  refine gX2_21 C dX2_keyOf_34 (pc' := 37) rfl (h1) rfl ?_
  first | refine mx_aload_n C dX2_keyOf_37 (pc' := 38) rfl rfl ?_ | refine mx_aload_nq C dX2_keyOf_37 (pc' := 38) rfl rfl ?_
  refine cX2_25 C dX2_keyOf_38 (pc' := 41) rfl (h3.2.1) (c_X1_formOf l G base h h3 hx) ⟨by decide, by decide, by decide, by decide, Nat.le_of_ble_eq_true rfl⟩ ?_
  rintro _ _ ⟨rfl, V', c', y', rfl⟩
  refine mx_lstore_n C dX2_keyOf_41 (pc' := 42) rfl (by first | exact mx_c1_0 | exact mx_c1_int rfl | exact mx_c1_ref rfl | exact mx_c1_none rfl | exact mx_c1_rf rfl | exact mx_c1_null rfl) (by decide) (lo' := [_, _, _, _]) rfl ?_
  refine mx_lload_n C dX2_keyOf_42 (pc' := 43) rfl rfl ?_
  refine kX2_29 C dX2_keyOf_43 (pc' := 46) rfl ?_
  refine mx_lcmp C dX2_keyOf_46 (pc' := 47) rfl ?_
  refine mx_L_ne C dX2_keyOf_47 (tgt := 54) (by decide) (pc' := 50) rfl (fun h47 => ?_) (fun h47 => ?_)
  · cases hf : bform t n with
    | none => exact absurd (bfL_none.mpr hf) h47
    | some f =>
      refine mx_lload_n C dX2_keyOf_54 (pc' := 55) rfl rfl ?_
      refine mx_lconst C (v := lN 1) (by decide) dX2_keyOf_55 (pc' := 56) rfl ?_
      refine mx_ladd C dX2_keyOf_56 (pc' := 57) rfl ?_
      rw [show bfL (some f) = lN f from rfl, lN_add]
      exact mx_lret C hr dX2_keyOf_57 (by omega) (by omega) (⟨rfl, kr_b hK hw⟩)
  · rw [bfL_none.mp h47]
    refine mx_lconst C (v := lN 0) (by decide) dX2_keyOf_50 (pc' := 51) rfl ?_
    refine mx_goto C dX2_keyOf_51 (tgt := 57) (by decide) ?_
    exact mx_lret C hr dX2_keyOf_57 (by omega) (by omega) (⟨rfl, kr_b hK hw⟩)
end KE
