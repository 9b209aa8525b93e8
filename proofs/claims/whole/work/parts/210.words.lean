/-! words of a text t of n signs: how many after i signs, where the k-th begins, how long it is -/
def wi (t : Nat → Nat) : Nat → Bool
  | 0 => false
  | i + 1 => wd (t i)
def wcn (t : Nat → Nat) : Nat → Nat
  | 0 => 0
  | i + 1 => if wd (t i) && !(wi t i) then wcn t i + 1 else wcn t i
def wst (t : Nat → Nat) : Nat → Nat → Nat
  | 0, _ => 0
  | i + 1, k => if (wd (t i) && !(wi t i)) && k == wcn t i then i else wst t i k
def wln (t : Nat → Nat) : Nat → Nat → Nat
  | 0, _ => 0
  | i + 1, k => if wd (t i) then (if wi t i then (if k + 1 = wcn t i then wln t i k + 1 else wln t i k) else (if k = wcn t i then 1 else wln t i k)) else wln t i k
theorem wi_s (t : Nat → Nat) (i : Nat) : wi t (i + 1) = wd (t i) := rfl
theorem wcn_s (t : Nat → Nat) (i : Nat) : wcn t (i + 1) = if wd (t i) && !(wi t i) then wcn t i + 1 else wcn t i := rfl
theorem wst_s (t : Nat → Nat) (i k : Nat) : wst t (i + 1) k = if (wd (t i) && !(wi t i)) && k == wcn t i then i else wst t i k := rfl
theorem wln_s (t : Nat → Nat) (i k : Nat) : wln t (i + 1) k = if wd (t i) then (if wi t i then (if k + 1 = wcn t i then wln t i k + 1 else wln t i k) else (if k = wcn t i then 1 else wln t i k)) else wln t i k := rfl
theorem wcn_le (t : Nat → Nat) (i : Nat) : 2 * wcn t i ≤ i + (if wi t i then 1 else 0) := by
  induction i with
  | zero => simp [wcn]
  | succ i ih =>
    simp only [wcn_s, wi_s]
    by_cases h1 : wd (t i) = true <;> by_cases h2 : wi t i = true <;> simp [h1, h2] at ih ⊢ <;> omega
theorem wcn_pos (t : Nat → Nat) (i : Nat) (h : wi t i = true) : 1 ≤ wcn t i := by
  induction i with
  | zero => cases h
  | succ i ih =>
    simp only [wi_s] at h
    simp only [wcn_s, h]
    cases h2 : wi t i
    · simp
    · simpa using ih h2
/-- each word lies in the text, is not empty, and holds letters and digits alone; the last one ends here if we are inside it -/
theorem w_in (t : Nat → Nat) (i : Nat) : ∀ k, k < wcn t i → 1 ≤ wln t i k ∧ wst t i k + wln t i k ≤ i ∧ (∀ j, j < wln t i k → wd (t (wst t i k + j)) = true) ∧ (wi t i = true → k + 1 = wcn t i → wst t i k + wln t i k = i) := by
  induction i with
  | zero => intro k hk; simp [wcn] at hk
  | succ i ih =>
    intro k hk
    cases h1 : wd (t i) with
    | false =>
      simp only [wcn_s, wst_s, wln_s, wi_s, h1, Bool.false_and, Bool.false_eq_true, if_false] at hk ⊢
      obtain ⟨a1, a2, a3, -⟩ := ih k hk
      exact ⟨a1, by omega, a3, fun z => by cases z⟩
    | true =>
      cases h2 : wi t i with
      | true =>
        simp only [wcn_s, wst_s, wln_s, wi_s, h1, h2, Bool.not_true, Bool.and_false, Bool.false_and, Bool.false_eq_true, if_false, if_true] at hk ⊢
        obtain ⟨a1, a2, a3, a4⟩ := ih k hk
        by_cases e : k + 1 = wcn t i
        · have a5 := a4 h2 e
          rw [if_pos e]
          refine ⟨by omega, by omega, fun j hj => ?_, fun _ _ => by omega⟩
          by_cases e2 : j < wln t i k
          · exact a3 j e2
          · have e3 : wst t i k + j = i := by omega
            rw [e3]; exact h1
        · rw [if_neg e]
          exact ⟨a1, by omega, a3, fun _ z => absurd z e⟩
      | false =>
        simp only [wcn_s, wst_s, wln_s, wi_s, h1, h2, Bool.not_false, Bool.and_true, Bool.true_and, Bool.false_eq_true, if_false, if_true] at hk ⊢
        by_cases e : k = wcn t i
        · have e2 : (k == wcn t i) = true := by simp [e]
          simp only [e2, if_pos e, if_true]
          refine ⟨by omega, by omega, fun j hj => ?_, fun _ _ => by omega⟩
          have e3 : i + j = i := by omega
          rw [e3]; exact h1
        · have e2 : (k == wcn t i) = false := by simp [e]
          simp only [e2, if_neg e, Bool.false_eq_true, if_false]
          obtain ⟨a1, a2, a3, a4⟩ := ih k (by omega)
          exact ⟨a1, by omega, a3, fun _ z => by omega⟩
theorem iw_0 : ∀ c, c < 256 → (iw c = 0 ↔ wd c = false) := by decide +kernel
theorem ne_of {h : mx_H} {a b : Nat} {x y : va_E} (ha : h a = some x) (hb : h b = some y) (hxy : x ≠ y) : a ≠ b := fun z => hxy (Option.some.inj (by rw [← ha, ← hb, z]))
/-- a Words object: its rows, its number of words -/
def wo_up (G : mx_G) (h : mx_H) (w sg st ln : Nat) (F S N : Nat → Int32) (c : Int32) : mx_H :=
  va_up (va_up (va_up (va_up h w (some (.inr (7, [.ref sg, .ref st, .ref ln, .int c])))) sg (some (.inl (G.2 2, 60, .inl F)))) st (some (.inl (G.2 0, 30, .inl S)))) ln (some (.inl (G.2 0, 30, .inl N)))
/-- where it lies: four cells, apart -/
def wo_D (w sg st ln : Nat) : Prop := w ≠ sg ∧ w ≠ st ∧ w ≠ ln ∧ sg ≠ st ∧ sg ≠ ln ∧ st ≠ ln
def wo_at (G : mx_G) (h : mx_H) (w sg st ln : Nat) (F S N : Nat → Int32) (c : Int32) : Prop :=
  wo_D w sg st ln ∧ h w = some (.inr (7, [.ref sg, .ref st, .ref ln, .int c])) ∧ h sg = some (.inl (G.2 2, 60, .inl F)) ∧ h st = some (.inl (G.2 0, 30, .inl S)) ∧ h ln = some (.inl (G.2 0, 30, .inl N))
theorem wo_at_up {G : mx_G} {h : mx_H} {w sg st ln : Nat} {F S N : Nat → Int32} {c : Int32} (hD : wo_D w sg st ln) : wo_at G (wo_up G h w sg st ln F S N c) w sg st ln F S N c := by
  obtain ⟨h1, h2, h3, h4, h5, h6⟩ := id hD
  refine ⟨hD, ?_, ?_, ?_, ?_⟩
  · unfold wo_up; rw [va_up_ne _ _ h3, va_up_ne _ _ h2, va_up_ne _ _ h1, va_up_self]
  · unfold wo_up; rw [va_up_ne _ _ h5, va_up_ne _ _ h4, va_up_self]
  · unfold wo_up; rw [va_up_ne _ _ h6, va_up_self]
  · unfold wo_up; rw [va_up_self]
theorem wo_up_ne {G : mx_G} {h : mx_H} {w sg st ln a : Nat} {F S N : Nat → Int32} {c : Int32} (h1 : a ≠ w) (h2 : a ≠ sg) (h3 : a ≠ st) (h4 : a ≠ ln) : wo_up G h w sg st ln F S N c a = h a := by
  unfold wo_up; rw [va_up_ne _ _ h4, va_up_ne _ _ h3, va_up_ne _ _ h2, va_up_ne _ _ h1]
theorem wo_self {G : mx_G} {h : mx_H} {w sg st ln : Nat} {F S N : Nat → Int32} {c : Int32} (hA : wo_at G h w sg st ln F S N c) : h = wo_up G h w sg st ln F S N c := by
  obtain ⟨-, a1, a2, a3, a4⟩ := hA
  funext x
  unfold wo_up va_up
  by_cases e4 : x = ln
  · subst e4; simp [a4]
  · by_cases e3 : x = st
    · subst e3; simp [e4, a3]
    · by_cases e2 : x = sg
      · subst e2; simp [e4, e3, a2]
      · by_cases e1 : x = w
        · subst e1; simp [e4, e3, e2, a1]
        · simp [e4, e3, e2, e1]
theorem wo_setw {G : mx_G} {h : mx_H} {w sg st ln : Nat} {F S N : Nat → Int32} {c c' : Int32} (hD : wo_D w sg st ln) : va_up (wo_up G h w sg st ln F S N c) w (some (.inr (7, [.ref sg, .ref st, .ref ln, .int c']))) = wo_up G h w sg st ln F S N c' := by
  obtain ⟨h1, h2, h3, h4, h5, h6⟩ := hD
  funext x
  unfold wo_up va_up
  by_cases e : x = w
  · subst e; simp [h1, h2, h3]
  · simp [e]
theorem wo_setF {G : mx_G} {h : mx_H} {w sg st ln : Nat} {F S N F' : Nat → Int32} {c : Int32} (hD : wo_D w sg st ln) : va_up (wo_up G h w sg st ln F S N c) sg (some (.inl (G.2 2, 60, .inl F'))) = wo_up G h w sg st ln F' S N c := by
  obtain ⟨h1, h2, h3, h4, h5, h6⟩ := hD
  funext x
  unfold wo_up va_up
  by_cases e : x = sg
  · subst e; simp [h4, h5]
  · simp [e]
theorem wo_setS {G : mx_G} {h : mx_H} {w sg st ln : Nat} {F S N S' : Nat → Int32} {c : Int32} (hD : wo_D w sg st ln) : va_up (wo_up G h w sg st ln F S N c) st (some (.inl (G.2 0, 30, .inl S'))) = wo_up G h w sg st ln F S' N c := by
  obtain ⟨h1, h2, h3, h4, h5, h6⟩ := hD
  funext x
  unfold wo_up va_up
  by_cases e : x = st
  · subst e; simp [h6]
  · simp [e]
theorem wo_setN {G : mx_G} {h : mx_H} {w sg st ln : Nat} {F S N N' : Nat → Int32} {c : Int32} : va_up (wo_up G h w sg st ln F S N c) ln (some (.inl (G.2 0, 30, .inl N'))) = wo_up G h w sg st ln F S N' c := by
  funext x
  unfold wo_up va_up
  by_cases e : x = ln
  · subst e; simp
  · simp [e]
/-- its rows hold the words of the first i signs of t -/
def wo_ok (t : Nat → Nat) (i : Nat) (F S N : Nat → Int32) : Prop := (∀ j, j < i → F j = nI (iw (t j))) ∧ ∀ k, k < wcn t i → S k = nI (wst t i k) ∧ N k = nI (wln t i k)
/-- a Text object: its signs -/
def tx_at (G : mx_G) (h : mx_H) (x : Nat) (nu tg : Int32) (ow ch : Nat) (nx : Value) (n : Nat) (t : Nat → Nat) : Prop :=
  n ≤ 60 ∧ h x = some (.inr (6, [.int nu, .int tg, .ref ow, .ref ch, .int (nI n), nx])) ∧ ∃ T : Nat → Int32, h ch = some (.inl (G.2 2, 60, .inl T)) ∧ ∀ j, j < n → T j = nI (t j) ∧ t j < 256
theorem nar_c {q : Nat} (h : q < 256) : vp_nar .char (nI q) = nI q := by
  have h1 := (pk_charN (q := q) (by omega)).1
  unfold vp_nar
  rw [h1]
section WO
variable (l : Launch) (G : mx_G) (base : Nat)
set_option maxRecDepth 20000
theorem c_X5_inWord (h : mx_H) {c : Nat} (hc : c < 256) : mx_M l G base yX5_inWord cX5_inWord 1 (some .char) 1 20 0 0 [.int (nI c)] h (fun v h' => v = some (.int (nI (iw c))) ∧ h = h') := by
  refine mx_enter (lo := [some (.int (nI c))]) (by decide) (mx_in wd_code_yX5_inWord rfl) (Nat.le_of_ble_eq_true rfl) rfl ?_
  intro p ev s mt args below meth cd C hr hnm
  have C : mx_C p s mt args meth cd cX5_inWord 1 RX5 G base := C
  have k1 : (65 ≤ c ∧ c ≤ 90) → iw c = c + 32 := fun z => by
    have e1 : lw c = c + 32 := if_pos z
    have e2 : wd c = true := decide_eq_true (by rw [e1]; omega)
    unfold iw; rw [e2, e1]; rfl
  have k2 : ¬ (65 ≤ c ∧ c ≤ 90) → ((97 ≤ c ∧ c ≤ 122) ∨ (48 ≤ c ∧ c ≤ 57)) → iw c = c := fun z z2 => by
    have e1 : lw c = c := if_neg z
    have e2 : wd c = true := decide_eq_true (by rw [e1]; omega)
    unfold iw; rw [e2, e1]; rfl
  have k3 : ¬ (65 ≤ c ∧ c ≤ 90) → ¬ ((97 ≤ c ∧ c ≤ 122) ∨ (48 ≤ c ∧ c ≤ 57)) → iw c = 0 := fun z z2 => by
    have e1 : lw c = c := if_neg z
    have e2 : wd c = false := decide_eq_false (by rw [e1]; omega)
    unfold iw; rw [e2]; rfl
  have hn : ∀ q, q < 256 → narrow .char (.int (nI q)) = .int (nI q) := fun q hq => (pk_charN (by omega)).1
  refine mx_iload_n C dX5_inWord_0 (pc' := 1) rfl rfl ?_
  refine mx_bipush C (v := nI 65) (by decide) dX5_inWord_1 (pc' := 3) rfl ?_
  refine mx_N_lt C dX5_inWord_3 (tgt := 21) (by decide) (pc' := 6) rfl (by omega) (by omega) (fun h3 => ?_) (fun h3 => ?_)
  rotate_left
  refine mx_iload_n C dX5_inWord_6 (pc' := 7) rfl rfl ?_
  refine mx_bipush C (v := nI 90) (by decide) dX5_inWord_7 (pc' := 9) rfl ?_
  refine mx_N_gt C dX5_inWord_9 (tgt := 21) (by decide) (pc' := 12) rfl (by omega) (by omega) (fun h9 => ?_) (fun h9 => ?_)
  rotate_left
  · have e1 : ((nI c - nI 65 + nI 97).toUInt32 % 65536).toInt32 = nI (c + 32) := by
      rw [pk_sub (show 65 ≤ c by omega), nI_add, show c - 65 + 97 = c + 32 by omega, pk_char, pk_tn (show c + 32 < 2 ^ 32 by omega), Nat.mod_eq_of_lt (by omega)]
    refine mx_iload_n C dX5_inWord_12 (pc' := 13) rfl rfl ?_
    refine mx_bipush C (v := nI 65) (by decide) dX5_inWord_13 (pc' := 15) rfl ?_
    refine mx_isub C dX5_inWord_15 (pc' := 16) rfl ?_
    refine mx_bipush C (v := nI 97) (by decide) dX5_inWord_16 (pc' := 18) rfl ?_
    refine mx_iadd C dX5_inWord_18 (pc' := 19) rfl ?_
    refine mx_i2c C (e1) dX5_inWord_19 (pc' := 20) rfl ?_
    exact mx_zret C hr (hn _ (by omega)) dX5_inWord_20 (by omega) (by omega) ⟨by rw [k1 (by omega)], rfl⟩
  all_goals
    have h65 : ¬ (65 ≤ c ∧ c ≤ 90) := by omega
    clear h3
    try clear h9
    refine mx_iload_n C dX5_inWord_21 (pc' := 22) rfl rfl ?_
    refine mx_bipush C (v := nI 97) (by decide) dX5_inWord_22 (pc' := 24) rfl ?_
    refine mx_N_lt C dX5_inWord_24 (tgt := 33) (by decide) (pc' := 27) rfl (by omega) (by omega) (fun h24 => ?_) (fun h24 => ?_)
    rotate_left
    refine mx_iload_n C dX5_inWord_27 (pc' := 28) rfl rfl ?_
    refine mx_bipush C (v := nI 122) (by decide) dX5_inWord_28 (pc' := 30) rfl ?_
    refine mx_N_le C dX5_inWord_30 (tgt := 40) (by decide) (pc' := 33) rfl (by omega) (by omega) (fun h30 => ?_) (fun h30 => ?_)
    · skip
      refine mx_iload_n C dX5_inWord_40 (pc' := 41) rfl rfl ?_
      refine mx_goto C dX5_inWord_41 (tgt := 45) (by decide) ?_
      exact mx_zret C hr (hn _ (by omega)) dX5_inWord_45 (by omega) (by omega) ⟨by rw [k2 h65 (by omega)], rfl⟩
    all_goals
      refine mx_iload_n C dX5_inWord_33 (pc' := 34) rfl rfl ?_
      refine cX5_7 C dX5_inWord_34 (pc' := 37) rfl (c_X5_isDigit l G base h hc) ⟨by decide, by decide, by decide, by decide, Nat.le_of_ble_eq_true rfl⟩ ?_
      rintro _ _ ⟨rfl, rfl⟩
      refine mx_B_eq C dX5_inWord_37 (tgt := 44) (by decide) (pc' := 40) rfl (fun h37 => ?_) (fun h37 => ?_)
      · have h37 := dg_n h37
        refine mx_iconst C (v := nI 0) (by decide) dX5_inWord_44 (pc' := 45) rfl ?_
        exact mx_zret C hr (hn 0 (by omega)) dX5_inWord_45 (by omega) (by omega) ⟨by rw [k3 h65 (by omega)], rfl⟩
      · have h37 := dg_i h37
        refine mx_iload_n C dX5_inWord_40 (pc' := 41) rfl rfl ?_
        refine mx_goto C dX5_inWord_41 (tgt := 45) (by decide) ?_
        exact mx_zret C hr (hn _ (by omega)) dX5_inWord_45 (by omega) (by omega) ⟨by rw [k2 h65 (by omega)], rfl⟩
theorem c_X7_read (h : mx_H) {w sg st ln x ow ch n : Nat} {nu tg c0 : Int32} {nx : Value} {t : Nat → Nat} {F0 S0 N0 : Nat → Int32} (hw : wo_at G h w sg st ln F0 S0 N0 c0) (hx : tx_at G h x nu tg ow ch nx n t) (hne : ch ≠ sg) :
    mx_M l G base yX7_read cX7_read 4 none 2 40 0 0 [.ref w, .ref x] h (fun v h' => v = none ∧ ∃ F S N, h' = wo_up G h w sg st ln F S N (nI (wcn t n)) ∧ wo_ok t n F S N) := by
  refine mx_enter (lo := [some (.ref w), some (.ref x), none, none]) (by decide) (mx_in wd_code_yX7_read rfl) (Nat.le_of_ble_eq_true rfl) rfl ?_
  intro p ev s mt args below meth cd C hr hnm
  have C : mx_C p s mt args meth cd cX7_read 4 RX7 G base := C
  obtain ⟨hn, hx1, T, hch, hT⟩ := hx
  have hD := hw.1
  have hself := wo_self hw
  have x1 : x ≠ w := ne_of hx1 hw.2.1 (by simp)
  have x2 : x ≠ sg := ne_of hx1 hw.2.2.1 (by simp)
  have x3 : x ≠ st := ne_of hx1 hw.2.2.2.1 (by simp)
  have x4 : x ≠ ln := ne_of hx1 hw.2.2.2.2 (by simp)
  have y1 : ch ≠ w := ne_of hch hw.2.1 (by simp)
  have y3 : ch ≠ st := ne_of hch hw.2.2.2.1 (by simp)
  have y4 : ch ≠ ln := ne_of hch hw.2.2.2.2 (by simp)
  have loop : ∀ (d i : Nat) (F S N : Nat → Int32), n - i = d → i ≤ n → wo_ok t i F S N → mx_V p l ev { frames := 2, cells := 0, slots := 0, locals := 40 } s mt args below meth cd G base 4 (MQ below (mx_Qc G base (fun v h' => v = none ∧ ∃ F S N, h' = wo_up G h w sg st ln F S N (nI (wcn t n)) ∧ wo_ok t n F S N)) args s 0 0 (mx_A base)) (wo_up G h w sg st ln F S N (nI (wcn t i))) 0 0 9 [some (.ref w), some (.ref x), some (.int (mx_b (wi t i))), some (.int (nI i))] [] := by
    intro d
    induction d using Nat.strongRecOn with
    | ind d ih =>
    intro i F S N hd hi hok
    obtain ⟨-, A1, A2, A3, A4⟩ := wo_at_up (G := G) (h := h) (F := F) (S := S) (N := N) (c := nI (wcn t i)) hD
    have hcle := wcn_le t i
    have hcb : wcn t i ≤ 30 := by
      have := wcn_le t i
      split at this <;> omega
    have B1 : wo_up G h w sg st ln F S N (nI (wcn t i)) x = some (.inr (6, [.int nu, .int tg, .ref ow, .ref ch, .int (nI n), nx])) := by rw [wo_up_ne x1 x2 x3 x4]; exact hx1
    have B2 : wo_up G h w sg st ln F S N (nI (wcn t i)) ch = some (.inl (G.2 2, 60, .inl T)) := by rw [wo_up_ne y1 hne y3 y4]; exact hch
    refine mx_iload_n C dX7_read_9 (pc' := 10) rfl rfl ?_
    first | refine mx_aload_n C dX7_read_10 (pc' := 11) rfl rfl ?_ | refine mx_aload_nq C dX7_read_10 (pc' := 11) rfl rfl ?_
    refine gX7_26 C dX7_read_11 (pc' := 14) rfl (B1) rfl ?_
    refine mx_N_ge C dX7_read_14 (tgt := 121) (by decide) (pc' := 17) rfl (by omega) (by omega) (fun h14 => ?_) (fun h14 => ?_)
    · have e1 : i = n := by omega
      subst e1
      exact mx_vret C hr dX7_read_121 (by omega) (by omega) (⟨rfl, F, S, N, rfl, hok⟩)
    refine mx_iload_n C dX7_read_17 (pc' := 18) rfl rfl ?_
    refine mx_bipush C (v := nI 60) (by decide) dX7_read_18 (pc' := 20) rfl ?_
    refine mx_N_ge C dX7_read_20 (tgt := 121) (by decide) (pc' := 23) rfl (by omega) (by omega) (fun h20 => ?_) (fun h20 => ?_)
    · exact absurd h20 (by omega)
    obtain ⟨hTi, hti⟩ := hT i h14
    have hiw := iw_lt (t i) hti
    first | refine mx_aload_n C dX7_read_23 (pc' := 24) rfl rfl ?_ | refine mx_aload_nq C dX7_read_23 (pc' := 24) rfl rfl ?_
    refine gX7_9 C dX7_read_24 (pc' := 27) rfl (A1) rfl ?_
    refine mx_iload_n C dX7_read_27 (pc' := 28) rfl rfl ?_
    first | refine mx_aload_n C dX7_read_28 (pc' := 29) rfl rfl ?_ | refine mx_aload_nq C dX7_read_28 (pc' := 29) rfl rfl ?_
    refine gX7_31 C dX7_read_29 (pc' := 32) rfl (B1) rfl ?_
    refine mx_iload_n C dX7_read_32 (pc' := 33) rfl rfl ?_
    refine mx_cald C dX7_read_33 (pc' := 34) rfl (B2) (rfl) (show i < 60 by omega) (by decide) ?_
    rw [hTi]
    refine cX7_32 C dX7_read_34 (pc' := 37) rfl (c_X5_inWord l G base _ hti) ⟨by decide, by decide, by decide, by decide, Nat.le_of_ble_eq_true rfl⟩ ?_
    rintro _ _ ⟨rfl, rfl⟩
    refine mx_cast C dX7_read_37 (pc' := 38) rfl A2 rfl (show i < 60 by omega) (by decide) ?_
    refine mx_heap (wo_setF hD) ?_
    rw [nar_c (show iw (t i) < 256 by omega)]
    obtain ⟨F', eF⟩ : ∃ z, z = upd F i (nI (iw (t i))) := ⟨_, rfl⟩
    rw [← eF]
    have hF' : ∀ j, j < i + 1 → F' j = nI (iw (t j)) := by
      intro j hj
      rw [eF]
      by_cases e1 : j = i
      · subst e1; exact pk_us
      · rw [pk_un e1]; exact hok.1 j (by omega)
    obtain ⟨-, A1, A2, A3, A4⟩ := wo_at_up (G := G) (h := h) (F := F') (S := S) (N := N) (c := nI (wcn t i)) hD
    first | refine mx_aload_n C dX7_read_38 (pc' := 39) rfl rfl ?_ | refine mx_aload_nq C dX7_read_38 (pc' := 39) rfl rfl ?_
    refine gX7_9 C dX7_read_39 (pc' := 42) rfl (A1) rfl ?_
    refine mx_iload_n C dX7_read_42 (pc' := 43) rfl rfl ?_
    refine mx_cald C dX7_read_43 (pc' := 44) rfl (A2) (rfl) (show i < 60 by omega) (by decide) ?_
    rw [hF' i (by omega)]
    have hwd := iw_0 (t i) hti
    refine mx_N0_ne C dX7_read_44 (tgt := 52) (by decide) (pc' := 47) rfl (by omega) (fun h44 => ?_) (fun h44 => ?_)
    rotate_left
    · have hz := hwd.mp h44
      refine mx_iconst C (v := nI 0) (by decide) dX7_read_47 (pc' := 48) rfl ?_
      refine mx_istore_n C dX7_read_48 (pc' := 49) rfl (by first | exact mx_c1_0 | exact mx_c1_int rfl | exact mx_c1_ref rfl | exact mx_c1_none rfl | exact mx_c1_rf rfl | exact mx_c1_null rfl) (by decide) (lo' := [_, _, _, _]) rfl ?_
      refine mx_goto C dX7_read_49 (tgt := 115) (by decide) ?_
      refine mx_iinc C dX7_read_115 (pc' := 118) rfl rfl (mx_inc _) (by first | exact mx_c1_0 | exact mx_c1_int rfl | exact mx_c1_ref rfl | exact mx_c1_none rfl | exact mx_c1_rf rfl | exact mx_c1_null rfl) (by decide) (lo' := [_, _, _, _]) rfl ?_
      refine mx_goto C dX7_read_118 (tgt := 9) (by decide) ?_
      have e1 : wcn t i = wcn t (i + 1) := by simp [wcn_s, hz]
      rw [e1]
      have e2 : nI 0 = mx_b (wi t (i + 1)) := by simp [wi_s, hz]; rfl
      rw [e2]
      refine ih (n - (i + 1)) (by omega) (i + 1) F' S N rfl (by omega) ⟨hF', fun k hk => ?_⟩
      rw [← e1] at hk
      have e3 := hok.2 k hk
      simpa [wst_s, wln_s, hz] using e3
    · have hz : wd (t i) = true := by
        cases hz : wd (t i) with
        | true => rfl
        | false => exact absurd (hwd.mpr hz) h44
      refine mx_iload_n C dX7_read_52 (pc' := 53) rfl rfl ?_
      refine mx_B_eq C dX7_read_53 (tgt := 74) (by decide) (pc' := 56) rfl (fun h53 => ?_) (fun h53 => ?_)
      · skip
        first | refine mx_aload_n C dX7_read_74 (pc' := 75) rfl rfl ?_ | refine mx_aload_nq C dX7_read_74 (pc' := 75) rfl rfl ?_
        refine gX7_22 C dX7_read_75 (pc' := 78) rfl (A1) rfl ?_
        refine mx_bipush C (v := nI 30) (by decide) dX7_read_78 (pc' := 80) rfl ?_
        refine mx_N_ge C dX7_read_80 (tgt := 115) (by decide) (pc' := 83) rfl (by omega) (by omega) (fun h80 => ?_) (fun h80 => ?_)
        · exfalso
          rw [h53] at hcle
          simp at hcle
          omega
        first | refine mx_aload_n C dX7_read_83 (pc' := 84) rfl rfl ?_ | refine mx_aload_nq C dX7_read_83 (pc' := 84) rfl rfl ?_
        refine gX7_15 C dX7_read_84 (pc' := 87) rfl (A1) rfl ?_
        first | refine mx_aload_n C dX7_read_87 (pc' := 88) rfl rfl ?_ | refine mx_aload_nq C dX7_read_87 (pc' := 88) rfl rfl ?_
        refine gX7_22 C dX7_read_88 (pc' := 91) rfl (A1) rfl ?_
        refine mx_iload_n C dX7_read_91 (pc' := 92) rfl rfl ?_
        refine mx_iast C dX7_read_92 (pc' := 93) rfl A3 rfl (show wcn t i < 30 by omega) (by decide) ?_
        refine mx_heap (wo_setS hD) ?_
        obtain ⟨S', eS⟩ : ∃ z, z = upd S (wcn t i) (nI i) := ⟨_, rfl⟩
        rw [← eS]
        obtain ⟨-, A1, A2, A3, A4⟩ := wo_at_up (G := G) (h := h) (F := F') (S := S') (N := N) (c := nI (wcn t i)) hD
        first | refine mx_aload_n C dX7_read_93 (pc' := 94) rfl rfl ?_ | refine mx_aload_nq C dX7_read_93 (pc' := 94) rfl rfl ?_
        refine gX7_19 C dX7_read_94 (pc' := 97) rfl (A1) rfl ?_
        first | refine mx_aload_n C dX7_read_97 (pc' := 98) rfl rfl ?_ | refine mx_aload_nq C dX7_read_97 (pc' := 98) rfl rfl ?_
        refine gX7_22 C dX7_read_98 (pc' := 101) rfl (A1) rfl ?_
        refine mx_iconst C (v := nI 1) (by decide) dX7_read_101 (pc' := 102) rfl ?_
        refine mx_iast C dX7_read_102 (pc' := 103) rfl A4 rfl (show wcn t i < 30 by omega) (by decide) ?_
        refine mx_heap wo_setN ?_
        obtain ⟨N', eN⟩ : ∃ z, z = upd N (wcn t i) (nI 1) := ⟨_, rfl⟩
        rw [← eN]
        obtain ⟨-, A1, A2, A3, A4⟩ := wo_at_up (G := G) (h := h) (F := F') (S := S') (N := N') (c := nI (wcn t i)) hD
        first | refine mx_aload_n C dX7_read_103 (pc' := 104) rfl rfl ?_ | refine mx_aload_nq C dX7_read_103 (pc' := 104) rfl rfl ?_
        refine mx_dup C rfl dX7_read_104 (pc' := 105) rfl ?_
        refine gX7_22 C dX7_read_105 (pc' := 108) rfl (A1) rfl ?_
        refine mx_iconst C (v := nI 1) (by decide) dX7_read_108 (pc' := 109) rfl ?_
        refine mx_iadd C dX7_read_109 (pc' := 110) rfl ?_
        rw [nI_add]
        refine pX7_22 C dX7_read_110 (pc' := 113) rfl (A1) (Nat.le_of_ble_eq_true rfl) rfl rfl (fs' := [_, _, _, _]) rfl ?_
        refine mx_heap (wo_setw hD) ?_
        refine mx_iconst C (v := nI 1) (by decide) dX7_read_113 (pc' := 114) rfl ?_
        refine mx_istore_n C dX7_read_114 (pc' := 115) rfl (by first | exact mx_c1_0 | exact mx_c1_int rfl | exact mx_c1_ref rfl | exact mx_c1_none rfl | exact mx_c1_rf rfl | exact mx_c1_null rfl) (by decide) (lo' := [_, _, _, _]) rfl ?_
        refine mx_iinc C dX7_read_115 (pc' := 118) rfl rfl (mx_inc _) (by first | exact mx_c1_0 | exact mx_c1_int rfl | exact mx_c1_ref rfl | exact mx_c1_none rfl | exact mx_c1_rf rfl | exact mx_c1_null rfl) (by decide) (lo' := [_, _, _, _]) rfl ?_
        refine mx_goto C dX7_read_118 (tgt := 9) (by decide) ?_
        have e1 : wcn t i + 1 = wcn t (i + 1) := by simp [wcn_s, hz, h53]
        rw [e1]
        have e2 : nI 1 = mx_b (wi t (i + 1)) := by simp [wi_s, hz]; rfl
        rw [e2]
        refine ih (n - (i + 1)) (by omega) (i + 1) F' S' N' rfl (by omega) ⟨hF', fun k hk => ?_⟩
        rw [← e1] at hk
        by_cases e3 : k = wcn t i
        · subst e3
          rw [eS, eN, pk_us, pk_us]
          simp [wst_s, wln_s, hz, h53]
        · rw [eS, eN, pk_un e3, pk_un e3]
          have e4 := hok.2 k (by omega)
          simpa [wst_s, wln_s, hz, h53, e3] using e4
      · have hpos := wcn_pos t i h53
        have e0 : nI (wcn t i) - nI 1 = nI (wcn t i - 1) := pk_sub hpos
        have e5 := (hok.2 (wcn t i - 1) (by omega)).2
        first | refine mx_aload_n C dX7_read_56 (pc' := 57) rfl rfl ?_ | refine mx_aload_nq C dX7_read_56 (pc' := 57) rfl rfl ?_
        refine gX7_19 C dX7_read_57 (pc' := 60) rfl (A1) rfl ?_
        first | refine mx_aload_n C dX7_read_60 (pc' := 61) rfl rfl ?_ | refine mx_aload_nq C dX7_read_60 (pc' := 61) rfl rfl ?_
        refine gX7_22 C dX7_read_61 (pc' := 64) rfl (A1) rfl ?_
        refine mx_iconst C (v := nI 1) (by decide) dX7_read_64 (pc' := 65) rfl ?_
        refine mx_isub C dX7_read_65 (pc' := 66) rfl ?_
        rw [e0]
        refine mx_dup2 C rfl rfl dX7_read_66 (pc' := 67) rfl ?_
        rw [h53] at hcle
        simp at hcle
        refine mx_iald C dX7_read_67 (pc' := 68) rfl (A4) (rfl) (show wcn t i - 1 < 30 by omega) (by decide) ?_
        rw [e5]
        refine mx_iconst C (v := nI 1) (by decide) dX7_read_68 (pc' := 69) rfl ?_
        refine mx_iadd C dX7_read_69 (pc' := 70) rfl ?_
        rw [nI_add]
        refine mx_iast C dX7_read_70 (pc' := 71) rfl A4 rfl (show wcn t i - 1 < 30 by omega) (by decide) ?_
        refine mx_heap wo_setN ?_
        obtain ⟨N', eN⟩ : ∃ z, z = upd N (wcn t i - 1) (nI (wln t i (wcn t i - 1) + 1)) := ⟨_, rfl⟩
        rw [← eN]
        refine mx_goto C dX7_read_71 (tgt := 115) (by decide) ?_
        refine mx_iinc C dX7_read_115 (pc' := 118) rfl rfl (mx_inc _) (by first | exact mx_c1_0 | exact mx_c1_int rfl | exact mx_c1_ref rfl | exact mx_c1_none rfl | exact mx_c1_rf rfl | exact mx_c1_null rfl) (by decide) (lo' := [_, _, _, _]) rfl ?_
        refine mx_goto C dX7_read_118 (tgt := 9) (by decide) ?_
        have e1 : wcn t i = wcn t (i + 1) := by simp [wcn_s, hz, h53]
        rw [e1]
        have e2 : wi t i = wi t (i + 1) := by rw [h53]; simp [wi_s, hz]
        rw [e2]
        refine ih (n - (i + 1)) (by omega) (i + 1) F' S N' rfl (by omega) ⟨hF', fun k hk => ?_⟩
        rw [← e1] at hk
        have e4 := hok.2 k hk
        by_cases e3 : k = wcn t i - 1
        · rw [e3, eN, pk_us]
          rw [e3] at e4
          have e6 : wcn t i - 1 + 1 = wcn t i := by omega
          simp only [wst_s, wln_s, hz, h53, e6, Bool.not_true, Bool.and_false, Bool.false_and, Bool.false_eq_true, if_false, if_true]
          exact ⟨e4.1, trivial⟩
        · rw [eN, pk_un e3]
          have e6 : ¬ (k + 1 = wcn t i) := by omega
          simp only [wst_s, wln_s, hz, h53, e6, Bool.not_true, Bool.and_false, Bool.false_and, Bool.false_eq_true, if_false, if_true]
          exact e4
  refine mx_heap hself ?_
  obtain ⟨-, A1, A2, A3, A4⟩ := wo_at_up (G := G) (h := h) (F := F0) (S := S0) (N := N0) (c := c0) hD
  first | refine mx_aload_n C dX7_read_0 (pc' := 1) rfl rfl ?_ | refine mx_aload_nq C dX7_read_0 (pc' := 1) rfl rfl ?_
  refine mx_iconst C (v := nI 0) (by decide) dX7_read_1 (pc' := 2) rfl ?_
  refine pX7_22 C dX7_read_2 (pc' := 5) rfl (A1) (Nat.le_of_ble_eq_true rfl) rfl rfl (fs' := [_, _, _, _]) rfl ?_
  refine mx_heap (wo_setw hD) ?_
  refine mx_iconst C (v := nI 0) (by decide) dX7_read_5 (pc' := 6) rfl ?_
  refine mx_istore_n C dX7_read_6 (pc' := 7) rfl (by first | exact mx_c1_0 | exact mx_c1_int rfl | exact mx_c1_ref rfl | exact mx_c1_none rfl | exact mx_c1_rf rfl | exact mx_c1_null rfl) (by decide) (lo' := [_, _, _, _]) rfl ?_
  refine mx_iconst C (v := nI 0) (by decide) dX7_read_7 (pc' := 8) rfl ?_
  refine mx_istore_n C dX7_read_8 (pc' := 9) rfl (by first | exact mx_c1_0 | exact mx_c1_int rfl | exact mx_c1_ref rfl | exact mx_c1_none rfl | exact mx_c1_rf rfl | exact mx_c1_null rfl) (by decide) (lo' := [_, _, _, _]) rfl ?_
  exact loop n 0 F0 S0 N0 rfl (by omega) ⟨fun j hj => by omega, fun k hk => by simp [wcn] at hk⟩
end WO
