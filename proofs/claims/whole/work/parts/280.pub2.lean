/-! isbn, at, winner, locked, sign, merge, undo -/
def isb (σ : mxS) (r : Nat) (i : Int32) : Option Nat := fiB (fun j => isT σ r 2 j && decide (nI (cntB (isT σ r 2) j) = i)) (st_k σ)
def isbA (σ : mxS) (r : Nat) (i : Int32) : Int32 := match isb σ r i with
  | some j => mx_b (bform (st_sg σ (j + 1)) (st_sz σ (j + 1))).isSome
  | none => -1
def btw (σ : mxS) (f g : Nat) : Bool := if st_sz σ f = st_sz σ g then (if st_rk σ (st_ow σ f) = st_rk σ (st_ow σ g) then decide (f < g) else decide (st_rk σ (st_ow σ g) < st_rk σ (st_ow σ f))) else decide (st_sz σ g < st_sz σ f)
def wnn (σ : mxS) (r f : Nat) : Nat → Nat
  | 0 => f
  | j + 1 => if decide (st_tg σ (j + 1) = st_tg σ f) && decide (tp σ (st_ow σ (j + 1)) = r) && btw σ (j + 1) (wnn σ r f j) then j + 1 else wnn σ r f j
theorem wnn_in {σ : mxS} {r f : Nat} (h1 : 1 ≤ f) (h2 : f ≤ st_k σ) : ∀ j, j ≤ st_k σ → 1 ≤ wnn σ r f j ∧ wnn σ r f j ≤ st_k σ := by
  intro j
  induction j with
  | zero => intro _; exact ⟨h1, h2⟩
  | succ j ih =>
    intro hj
    have := ih (by omega)
    simp only [wnn]
    split <;> omega
def su_lk (σ : mxS) (r : Nat) (b : Bool) : mxS := (σ.1, (σ.2.1.1, (fun q => if q = r then b else σ.2.1.2.1 q), σ.2.1.2.2.1, σ.2.1.2.2.2), σ.2.2)
def su_sg (σ : mxS) (f c : Nat) : mxS := (σ.1, σ.2.1, (σ.2.2.1.1, σ.2.2.1.2.1, (fun q => if q = f then σ.2.2.1.2.2.1 f + 1 else σ.2.2.1.2.2.1 q), (fun q => if q = f then va_up (σ.2.2.1.2.2.2 f) (σ.2.2.1.2.2.1 f) c else σ.2.2.1.2.2.2 q)), σ.2.2.2)
def cb (c : Int32) : Nat := c.toBitVec.toNat % 256
theorem si_lk {σ : mxS} (h : si σ) {r : Nat} {b : Bool} (h1 : 1 ≤ r) (h2 : r ≤ st_n σ) : si (su_lk σ r b) := by
  obtain ⟨a1, a2, a3, a4, ⟨a5, a5b, a5c⟩, a6, a7, a8⟩ := h
  refine ⟨a1, a2, a3, a4, ⟨a5, a5b, fun q hq => ⟨(a5c q hq).1, ?_⟩⟩, a6, a7, a8⟩
  show (if q = r then b else st_lk σ q) = false
  have hq : st_n σ < q := hq
  rw [if_neg (by omega)]
  exact (a5c q hq).2
theorem si_sg {σ : mxS} (h : si σ) {f c : Nat} (h1 : 1 ≤ f) (h2 : f ≤ st_k σ) (h3 : st_sz σ f < 60) (hc : c < 256) : si (su_sg σ f c) := by
  obtain ⟨a1, a2, a3, a4, a5, ⟨a6, a6b⟩, a7, a8⟩ := h
  refine ⟨a1, a2, a3, a4, a5, ⟨fun q q1 q2 => ?_, fun q hq => ?_⟩, a7, a8⟩
  · have q2 : q ≤ st_k σ := q2
    obtain ⟨b1, b2, b3, b4, b5⟩ := a6 q q1 q2
    refine ⟨b1, b2, b3, ?_, ?_⟩
    · show (if q = f then st_sz σ f + 1 else st_sz σ q) ≤ 60
      split <;> omega
    · intro j hj
      have hj : j < (if q = f then st_sz σ f + 1 else st_sz σ q) := hj
      show (if q = f then va_up (st_sg σ f) (st_sz σ f) c else st_sg σ q) j < 256
      by_cases e : q = f
      · subst e
        rw [if_pos rfl] at hj ⊢
        by_cases e2 : j = st_sz σ q
        · subst e2; rw [va_up_self]; exact hc
        · rw [va_up_ne _ _ e2]; exact b5 j (by omega)
      · rw [if_neg e] at hj ⊢; exact b5 j hj
  · have hq : st_k σ < q := hq
    show (if q = f then st_sz σ f + 1 else st_sz σ q) = 0
    rw [if_neg (by omega)]
    exact a6b q hq
section P2
variable (l : Launch) (G : mx_G) (base : Nat)
set_option maxRecDepth 20000
theorem c_X8_isbn (h : mx_H) {A : mxA} {σ : mxS} {la ea : Nat → Nat} {mk : Nat → Bool} (c : CI G A h σ la ea mk) {a i : Int32} {r : Nat} (hr0 : ixS σ a = r) :
    mx_M l G base yX8_isbn cX8_isbn 6 (some .int) 5 106 0 0 [.ref (aK A 0), .int a, .int i] h (fun v h' => v = some (.int (if r = 0 ∨ i < 0 then -1 else isbA σ r i)) ∧ CI G A h' σ la ea mk ∧ OUT A σ h h') := by
  have hk := c.1.2.1
  have hn := c.1.1
  have hK := c.2.1.1
  have hle := @ixS_le σ a
  rw [hr0] at hle
  refine mx_enter (lo := [some (.ref (aK A 0)), some (.int a), some (.int i), none, none, none]) (by decide) (mx_in wd_code_yX8_isbn rfl) (Nat.le_of_ble_eq_true rfl) rfl ?_
  intro p ev s mt args below meth cd C hr hnm
  have C : mx_C p s mt args meth cd cX8_isbn 6 RX8 G base := C
  first | refine mx_aload_n C dX8_isbn_0 (pc' := 1) rfl rfl ?_ | refine mx_aload_nq C dX8_isbn_0 (pc' := 1) rfl rfl ?_
  refine mx_iload_n C dX8_isbn_1 (pc' := 2) rfl rfl ?_
  refine cX8_56 C dX8_isbn_2 (pc' := 5) rfl (c.2.2.1) (c_X8_standingBook l G base h c) ⟨by decide, by decide, by decide, by decide, Nat.le_of_ble_eq_true rfl⟩ ?_
  rintro _ _ ⟨rfl, rfl⟩
  first | refine mx_astore_n C dX8_isbn_5 (pc' := 6) rfl (by first | exact mx_c1_0 | exact mx_c1_int rfl | exact mx_c1_ref rfl | exact mx_c1_none rfl | exact mx_c1_rf rfl | exact mx_c1_null rfl) (by decide) (lo' := [_, _, _, _, _, _]) rfl ?_ | refine mx_astore_nq C dX8_isbn_5 (pc' := 6) rfl (by first | exact mx_c1_0 | exact mx_c1_int rfl | exact mx_c1_ref rfl | exact mx_c1_none rfl | exact mx_c1_rf rfl | exact mx_c1_null rfl) (by decide) (lo' := [_, _, _, _, _, _]) rfl ?_
  first | refine mx_aload_n C dX8_isbn_6 (pc' := 7) rfl rfl ?_ | refine mx_aload_nq C dX8_isbn_6 (pc' := 7) rfl rfl ?_
  rw [hr0]
  by_cases er : r = 0
  · subst er
    rw [pB_0]
    refine mx_ifnull C dX8_isbn_7 (tgt := 14) (by decide) (pc' := 10) rfl (fun h7 => ?_) (fun h7_a h7 => ?_)
    · skip
      refine mx_iconst C (v := (-1)) (by decide) dX8_isbn_14 (pc' := 15) rfl ?_
      exact mx_iret C hr dX8_isbn_15 (by omega) (by omega) (⟨by rw [if_pos (Or.inl rfl)], c, OUT.rf⟩)
    · cases h7
  rw [pB_s er]
  refine mx_ifnull C dX8_isbn_7 (tgt := 14) (by decide) (pc' := 10) rfl (fun h7 => ?_) (fun h7_a h7 => ?_)
  · cases h7
  refine mx_iload_n C dX8_isbn_10 (pc' := 11) rfl rfl ?_
  refine mx_if_ge C dX8_isbn_11 (tgt := 16) (by decide) (pc' := 14) rfl (fun h11 => ?_) (fun h11 => ?_)
  rotate_left
  · skip
    refine mx_iconst C (v := (-1)) (by decide) dX8_isbn_14 (pc' := 15) rfl ?_
    exact mx_iret C hr dX8_isbn_15 (by omega) (by omega) (⟨by rw [if_pos (Or.inr (Int32.not_le.mp h11))], c, OUT.rf⟩)
  have hni : ¬ (r = 0 ∨ i < 0) := by
    rintro (z | z)
    · exact er z
    · exact absurd h11 (Int32.not_le.mpr z)
  rw [if_neg hni]
  have loop : ∀ (d j : Nat), st_k σ - j = d → j ≤ st_k σ → fiB (fun j => isT σ r 2 j && decide (nI (cntB (isT σ r 2) j) = i)) j = none → mx_V p l ev { frames := 5, cells := 0, slots := 0, locals := 106 } s mt args below meth cd G base 6 (MQ below (mx_Qc G base (fun v h' => v = some (.int (isbA σ r i)) ∧ CI G A h' σ la ea mk ∧ OUT A σ h h')) args s 0 0 (mx_A base)) h 0 0 25 [some (.ref (aK A 0)), some (.int a), some (.int i), some (.ref (aB A r)), some (.int (nI (cntB (isT σ r 2) j))), some (va_rf (pT A (nxt (st_k σ) j)))] [] := by
    intro d
    induction d using Nat.strongRecOn with
    | ind d ih =>
    intro j hd hj hno
    have hcl := cntB_le (isT σ r 2) j
    first | refine mx_aload C dX8_isbn_25 (pc' := 27) rfl rfl ?_ | refine mx_aloadq C dX8_isbn_25 (pc' := 27) rfl rfl ?_
    by_cases e : j < st_k σ
    · rw [nxt_lt e, pT_s (show j + 1 ≠ 0 by omega)]
      have B := c.2.2.2.2.2.2.2.2.1 (j + 1) (by omega) (by omega)
      obtain ⟨s1, s2, s3, s4, s5⟩ := c.1.2.2.2.2.2.1.1 (j + 1) (by omega) (by omega)
      have key := ih _ (show st_k σ - (j + 1) < d by omega) (j + 1) rfl (by omega)
      refine mx_ifnull C dX8_isbn_27 (tgt := 85) (by decide) (pc' := 30) rfl (fun h27 => ?_) (fun h27_a h27 => ?_)
      · cases h27
      first | refine mx_aload C dX8_isbn_30 (pc' := 32) rfl rfl ?_ | refine mx_aloadq C dX8_isbn_30 (pc' := 32) rfl rfl ?_
      refine gX8_86 C dX8_isbn_32 (pc' := 35) rfl (B.2.1) rfl ?_
      refine mx_iconst C (v := nI 2) (by decide) dX8_isbn_35 (pc' := 36) rfl ?_
      refine mx_N_ne C dX8_isbn_36 (tgt := 75) (by decide) (pc' := 39) rfl (by omega) (by omega) (fun h36 => ?_) (fun h36 => ?_)
      · have e2 : isT σ r 2 j = false := by unfold isT; rw [decide_eq_false h36]; rfl
        rw [cntB_n e2] at key
        first | refine mx_aload C dX8_isbn_75 (pc' := 77) rfl rfl ?_ | refine mx_aloadq C dX8_isbn_75 (pc' := 77) rfl rfl ?_
        refine gX8_75 C dX8_isbn_77 (pc' := 80) rfl (B.2.1) rfl ?_
        first | refine mx_astore C dX8_isbn_80 (pc' := 82) rfl (by first | exact mx_c1_0 | exact mx_c1_int rfl | exact mx_c1_ref rfl | exact mx_c1_none rfl | exact mx_c1_rf rfl | exact mx_c1_null rfl) (by decide) (lo' := [_, _, _, _, _, _]) rfl ?_ | refine mx_astoreq C dX8_isbn_80 (pc' := 82) rfl (by first | exact mx_c1_0 | exact mx_c1_int rfl | exact mx_c1_ref rfl | exact mx_c1_none rfl | exact mx_c1_rf rfl | exact mx_c1_null rfl) (by decide) (lo' := [_, _, _, _, _, _]) rfl ?_
        refine mx_goto C dX8_isbn_82 (tgt := 25) (by decide) ?_
        exact key (fiB_s hno (by rw [e2]; rfl))
      first | refine mx_aload C dX8_isbn_39 (pc' := 41) rfl rfl ?_ | refine mx_aloadq C dX8_isbn_39 (pc' := 41) rfl rfl ?_
      first | refine mx_aload_n C dX8_isbn_41 (pc' := 42) rfl rfl ?_ | refine mx_aload_nq C dX8_isbn_41 (pc' := 42) rfl rfl ?_
      refine cX8_89 C dX8_isbn_42 (pc' := 45) rfl (B.2.1) (c_X6_isOf l G base h c.1.1 c.1.2.2.2.2.1 c.2.2.2.2.2.2.2.1 B s2 s3 (show 1 ≤ r by omega) hle) ⟨by decide, by decide, by decide, by decide, Nat.le_of_ble_eq_true rfl⟩ ?_
      rintro _ _ ⟨rfl, rfl⟩
      refine mx_B_eq C dX8_isbn_45 (tgt := 75) (by decide) (pc' := 48) rfl (fun h45 => ?_) (fun h45 => ?_)
      · have e2 : isT σ r 2 j = false := by unfold isT; rw [h45, Bool.and_false]
        rw [cntB_n e2] at key
        first | refine mx_aload C dX8_isbn_75 (pc' := 77) rfl rfl ?_ | refine mx_aloadq C dX8_isbn_75 (pc' := 77) rfl rfl ?_
        refine gX8_75 C dX8_isbn_77 (pc' := 80) rfl (B.2.1) rfl ?_
        first | refine mx_astore C dX8_isbn_80 (pc' := 82) rfl (by first | exact mx_c1_0 | exact mx_c1_int rfl | exact mx_c1_ref rfl | exact mx_c1_none rfl | exact mx_c1_rf rfl | exact mx_c1_null rfl) (by decide) (lo' := [_, _, _, _, _, _]) rfl ?_ | refine mx_astoreq C dX8_isbn_80 (pc' := 82) rfl (by first | exact mx_c1_0 | exact mx_c1_int rfl | exact mx_c1_ref rfl | exact mx_c1_none rfl | exact mx_c1_rf rfl | exact mx_c1_null rfl) (by decide) (lo' := [_, _, _, _, _, _]) rfl ?_
        refine mx_goto C dX8_isbn_82 (tgt := 25) (by decide) ?_
        exact key (fiB_s hno (by rw [e2]; rfl))
      have e2 : isT σ r 2 j = true := by unfold isT; rw [h45, decide_eq_true h36]; rfl
      refine mx_iload C dX8_isbn_48 (pc' := 50) rfl rfl ?_
      refine mx_iload_n C dX8_isbn_50 (pc' := 51) rfl rfl ?_
      refine mx_icmp_ne C dX8_isbn_51 (tgt := 72) (by decide) (pc' := 54) rfl (fun h51 => ?_) (fun h51 => ?_)
      · rw [cntB_t e2] at key
        refine mx_iinc C dX8_isbn_72 (pc' := 75) rfl rfl (mx_inc _) (by first | exact mx_c1_0 | exact mx_c1_int rfl | exact mx_c1_ref rfl | exact mx_c1_none rfl | exact mx_c1_rf rfl | exact mx_c1_null rfl) (by decide) (lo' := [_, _, _, _, _, _]) rfl ?_
        first | refine mx_aload C dX8_isbn_75 (pc' := 77) rfl rfl ?_ | refine mx_aloadq C dX8_isbn_75 (pc' := 77) rfl rfl ?_
        refine gX8_75 C dX8_isbn_77 (pc' := 80) rfl (B.2.1) rfl ?_
        first | refine mx_astore C dX8_isbn_80 (pc' := 82) rfl (by first | exact mx_c1_0 | exact mx_c1_int rfl | exact mx_c1_ref rfl | exact mx_c1_none rfl | exact mx_c1_rf rfl | exact mx_c1_null rfl) (by decide) (lo' := [_, _, _, _, _, _]) rfl ?_ | refine mx_astoreq C dX8_isbn_80 (pc' := 82) rfl (by first | exact mx_c1_0 | exact mx_c1_int rfl | exact mx_c1_ref rfl | exact mx_c1_none rfl | exact mx_c1_rf rfl | exact mx_c1_null rfl) (by decide) (lo' := [_, _, _, _, _, _]) rfl ?_
        refine mx_goto C dX8_isbn_82 (tgt := 25) (by decide) ?_
        exact key (fiB_s hno (by rw [decide_eq_false h51, Bool.and_false]))
      have hyes : isb σ r i = some j := fiB_m (fiB_t hno (show (isT σ r 2 j && decide (nI (cntB (isT σ r 2) j) = i)) = true by rw [e2, decide_eq_true h51]; rfl)) (show j + 1 ≤ st_k σ by omega)
      have hres : isbA σ r i = mx_b (bform (st_sg σ (j + 1)) (st_sz σ (j + 1))).isSome := by unfold isbA; rw [hyes]
      first | refine mx_aload_n C dX8_isbn_54 (pc' := 55) rfl rfl ?_ | refine mx_aload_nq C dX8_isbn_54 (pc' := 55) rfl rfl ?_
      refine gX8_16 C dX8_isbn_55 (pc' := 58) rfl (c.2.2.1) rfl ?_
      first | refine mx_aload C dX8_isbn_58 (pc' := 60) rfl rfl ?_ | refine mx_aloadq C dX8_isbn_58 (pc' := 60) rfl rfl ?_
      refine cX8_93 C dX8_isbn_60 (pc' := 63) rfl (c.2.2.2.2.1.1) (c_X2_isRightNumber l G base h hK c.2.2.2.2.1 B) ⟨by decide, by decide, by decide, by decide, Nat.le_of_ble_eq_true rfl⟩ ?_
      rintro _ h2 ⟨rfl, hw2, hf2⟩
      refine mx_B_eq C dX8_isbn_63 (tgt := 70) (by decide) (pc' := 66) rfl (fun h63 => ?_) (fun h63 => ?_)
      · skip
        refine mx_iconst C (v := nI 0) (by decide) dX8_isbn_70 (pc' := 71) rfl ?_
        exact mx_iret C hr dX8_isbn_71 (by omega) (by omega) (⟨by rw [hres]; exact mx_ok0 h63, c.kr hw2 hf2, OUT.kr hf2⟩)
      · skip
        refine mx_iconst C (v := nI 1) (by decide) dX8_isbn_66 (pc' := 67) rfl ?_
        refine mx_goto C dX8_isbn_67 (tgt := 71) (by decide) ?_
        exact mx_iret C hr dX8_isbn_71 (by omega) (by omega) (⟨by rw [hres]; exact mx_ok1 h63, c.kr hw2 hf2, OUT.kr hf2⟩)
    · rw [nxt_ge e, pT_0]
      have e2 : j = st_k σ := by omega
      rw [e2] at hno
      refine mx_ifnull C dX8_isbn_27 (tgt := 85) (by decide) (pc' := 30) rfl (fun h27 => ?_) (fun h27_a h27 => ?_)
      · skip
        refine mx_iconst C (v := (-1)) (by decide) dX8_isbn_85 (pc' := 86) rfl ?_
        exact mx_iret C hr dX8_isbn_86 (by omega) (by omega) (⟨by unfold isbA isb; rw [hno], c, OUT.rf⟩)
      · cases h27
  refine mx_iconst C (v := nI 0) (by decide) dX8_isbn_16 (pc' := 17) rfl ?_
  refine mx_istore C dX8_isbn_17 (pc' := 19) rfl (by first | exact mx_c1_0 | exact mx_c1_int rfl | exact mx_c1_ref rfl | exact mx_c1_none rfl | exact mx_c1_rf rfl | exact mx_c1_null rfl) (by decide) (lo' := [_, _, _, _, _, _]) rfl ?_
  first | refine mx_aload_n C dX8_isbn_19 (pc' := 20) rfl rfl ?_ | refine mx_aload_nq C dX8_isbn_19 (pc' := 20) rfl rfl ?_
  refine gX8_72 C dX8_isbn_20 (pc' := 23) rfl (c.2.2.1) rfl ?_
  first | refine mx_astore C dX8_isbn_23 (pc' := 25) rfl (by first | exact mx_c1_0 | exact mx_c1_int rfl | exact mx_c1_ref rfl | exact mx_c1_none rfl | exact mx_c1_rf rfl | exact mx_c1_null rfl) (by decide) (lo' := [_, _, _, _, _, _]) rfl ?_ | refine mx_astoreq C dX8_isbn_23 (pc' := 25) rfl (by first | exact mx_c1_0 | exact mx_c1_int rfl | exact mx_c1_ref rfl | exact mx_c1_none rfl | exact mx_c1_rf rfl | exact mx_c1_null rfl) (by decide) (lo' := [_, _, _, _, _, _]) rfl ?_
  exact loop _ 0 rfl (by omega) rfl
theorem c_X8_at (h : mx_H) {A : mxA} {σ : mxS} {la ea : Nat → Nat} {mk : Nat → Bool} (c : CI G A h σ la ea mk) {i : Int32} :
    mx_M l G base yX8_at cX8_at 2 (some .int) 0 0 0 0 [.ref (aK A 0), .int i] h (fun v h' => v = some (.int (if i < 0 ∨ nI (st_f σ) ≤ i then -1 else nI (st_fd σ i.toInt.toNat))) ∧ h = h') := by
  obtain ⟨F, hF1, hF2⟩ := c.2.2.2.1
  have hf := c.1.2.2.2.1
  refine mx_enter (lo := [some (.ref (aK A 0)), some (.int i)]) (by decide) (mx_in wd_code_yX8_at rfl) (Nat.le_of_ble_eq_true rfl) rfl ?_
  intro p ev s mt args below meth cd C hr hnm
  have C : mx_C p s mt args meth cd cX8_at 2 RX8 G base := C
  refine mx_iload_n C dX8_at_0 (pc' := 1) rfl rfl ?_
  refine mx_if_lt C dX8_at_1 (tgt := 30) (by decide) (pc' := 4) rfl (fun h1 => ?_) (fun h1 => ?_)
  · skip
    refine mx_iconst C (v := (-1)) (by decide) dX8_at_30 (pc' := 31) rfl ?_
    exact mx_iret C hr dX8_at_31 (by omega) (by omega) (⟨by rw [if_pos (Or.inl h1)], rfl⟩)
  refine mx_iload_n C dX8_at_4 (pc' := 5) rfl rfl ?_
  first | refine mx_aload_n C dX8_at_5 (pc' := 6) rfl rfl ?_ | refine mx_aload_nq C dX8_at_5 (pc' := 6) rfl rfl ?_
  refine gX8_165 C dX8_at_6 (pc' := 9) rfl (c.2.2.1) rfl ?_
  refine mx_icmp_ge C dX8_at_9 (tgt := 30) (by decide) (pc' := 12) rfl (fun h9 => ?_) (fun h9 => ?_)
  · skip
    refine mx_iconst C (v := (-1)) (by decide) dX8_at_30 (pc' := 31) rfl ?_
    exact mx_iret C hr dX8_at_31 (by omega) (by omega) (⟨by rw [if_pos (Or.inr h9)], rfl⟩)
  obtain ⟨j, hj, ej⟩ : ∃ j : Nat, j < st_f σ ∧ i = nI j := by
    rcases pk_ix i (n := st_f σ) (by omega) with z | z | z
    · exact absurd z h1
    · exact absurd z h9
    · exact z
  have e2 : i.toInt.toNat = j := by rw [ej, nI_toInt (by omega)]; rfl
  rw [if_neg (fun z => z.elim h1 h9), e2]
  subst ej
  refine mx_iload_n C dX8_at_12 (pc' := 13) rfl rfl ?_
  first | refine mx_aload_n C dX8_at_13 (pc' := 14) rfl rfl ?_ | refine mx_aload_nq C dX8_at_13 (pc' := 14) rfl rfl ?_
  refine gX8_9 C dX8_at_14 (pc' := 17) rfl (c.2.2.1) rfl ?_
  refine mx_aleni C dX8_at_17 (pc' := 18) rfl (hF1) ?_
  refine mx_N_ge C dX8_at_18 (tgt := 30) (by decide) (pc' := 21) rfl (by omega) (by omega) (fun h18 => ?_) (fun h18 => ?_)
  · exact absurd h18 (by omega)
  first | refine mx_aload_n C dX8_at_21 (pc' := 22) rfl rfl ?_ | refine mx_aload_nq C dX8_at_21 (pc' := 22) rfl rfl ?_
  refine gX8_9 C dX8_at_22 (pc' := 25) rfl (c.2.2.1) rfl ?_
  refine mx_iload_n C dX8_at_25 (pc' := 26) rfl rfl ?_
  refine mx_iald C dX8_at_26 (pc' := 27) rfl (hF1) (rfl) (show j < 40 by omega) (by decide) ?_
  rw [hF2 j hj]
  refine mx_goto C dX8_at_27 (tgt := 31) (by decide) ?_
  exact mx_iret C hr dX8_at_31 (by omega) (by omega) (⟨rfl, rfl⟩)
theorem c_X8_winner (h : mx_H) {A : mxA} {σ : mxS} {la ea : Nat → Nat} {mk : Nat → Bool} (c : CI G A h σ la ea mk) {a i : Int32} {r f : Nat} (hr0 : ixS σ a = r) (hf0 : ixR (st_k σ) i = f) :
    mx_M l G base yX8_winner cX8_winner 7 (some .int) 2 44 0 0 [.ref (aK A 0), .int a, .int i] h (fun v h' => v = some (.int (nI (if r ≠ 0 ∧ f ≠ 0 ∧ tp σ (st_ow σ f) = r then wnn σ r f (st_k σ) else 0))) ∧ h = h') := by
  have hk := c.1.2.1
  have hn := c.1.1
  have hle := @ixS_le σ a
  rw [hr0] at hle
  have hle2 := @ixR_le (st_k σ) i
  rw [hf0] at hle2
  refine mx_enter (lo := [some (.ref (aK A 0)), some (.int a), some (.int i), none, none, none, none]) (by decide) (mx_in wd_code_yX8_winner rfl) (Nat.le_of_ble_eq_true rfl) rfl ?_
  intro p ev s mt args below meth cd C hr hnm
  have C : mx_C p s mt args meth cd cX8_winner 7 RX8 G base := C
  first | refine mx_aload_n C dX8_winner_0 (pc' := 1) rfl rfl ?_ | refine mx_aload_nq C dX8_winner_0 (pc' := 1) rfl rfl ?_
  refine mx_iload_n C dX8_winner_1 (pc' := 2) rfl rfl ?_
  refine cX8_56 C dX8_winner_2 (pc' := 5) rfl (c.2.2.1) (c_X8_standingBook l G base h c) ⟨by decide, by decide, by decide, by decide, Nat.le_of_ble_eq_true rfl⟩ ?_
  rintro _ _ ⟨rfl, rfl⟩
  first | refine mx_astore_n C dX8_winner_5 (pc' := 6) rfl (by first | exact mx_c1_0 | exact mx_c1_int rfl | exact mx_c1_ref rfl | exact mx_c1_none rfl | exact mx_c1_rf rfl | exact mx_c1_null rfl) (by decide) (lo' := [_, _, _, _, _, _, _]) rfl ?_ | refine mx_astore_nq C dX8_winner_5 (pc' := 6) rfl (by first | exact mx_c1_0 | exact mx_c1_int rfl | exact mx_c1_ref rfl | exact mx_c1_none rfl | exact mx_c1_rf rfl | exact mx_c1_null rfl) (by decide) (lo' := [_, _, _, _, _, _, _]) rfl ?_
  first | refine mx_aload_n C dX8_winner_6 (pc' := 7) rfl rfl ?_ | refine mx_aload_nq C dX8_winner_6 (pc' := 7) rfl rfl ?_
  refine mx_iload_n C dX8_winner_7 (pc' := 8) rfl rfl ?_
  rw [hr0]
  refine cX8_78 C dX8_winner_8 (pc' := 11) rfl (c.2.2.1) (c_X8_textOf l G base h c) ⟨by decide, by decide, by decide, by decide, Nat.le_of_ble_eq_true rfl⟩ ?_
  rintro _ _ ⟨rfl, rfl⟩
  first | refine mx_astore C dX8_winner_11 (pc' := 13) rfl (by first | exact mx_c1_0 | exact mx_c1_int rfl | exact mx_c1_ref rfl | exact mx_c1_none rfl | exact mx_c1_rf rfl | exact mx_c1_null rfl) (by decide) (lo' := [_, _, _, _, _, _, _]) rfl ?_ | refine mx_astoreq C dX8_winner_11 (pc' := 13) rfl (by first | exact mx_c1_0 | exact mx_c1_int rfl | exact mx_c1_ref rfl | exact mx_c1_none rfl | exact mx_c1_rf rfl | exact mx_c1_null rfl) (by decide) (lo' := [_, _, _, _, _, _, _]) rfl ?_
  first | refine mx_aload_n C dX8_winner_13 (pc' := 14) rfl rfl ?_ | refine mx_aload_nq C dX8_winner_13 (pc' := 14) rfl rfl ?_
  rw [hf0]
  by_cases er : r = 0
  · subst er
    rw [pB_0]
    refine mx_ifnull C dX8_winner_14 (tgt := 31) (by decide) (pc' := 17) rfl (fun h14 => ?_) (fun h14_a h14 => ?_)
    · skip
      refine mx_iconst C (v := nI 0) (by decide) dX8_winner_31 (pc' := 32) rfl ?_
      exact mx_iret C hr dX8_winner_32 (by omega) (by omega) (⟨by rw [if_neg (fun z => z.1 rfl)], rfl⟩)
    · cases h14
  rw [pB_s er]
  refine mx_ifnull C dX8_winner_14 (tgt := 31) (by decide) (pc' := 17) rfl (fun h14 => ?_) (fun h14_a h14 => ?_)
  · cases h14
  first | refine mx_aload C dX8_winner_17 (pc' := 19) rfl rfl ?_ | refine mx_aloadq C dX8_winner_17 (pc' := 19) rfl rfl ?_
  by_cases ef : f = 0
  · subst ef
    rw [pT_0]
    refine mx_ifnull C dX8_winner_19 (tgt := 31) (by decide) (pc' := 22) rfl (fun h19 => ?_) (fun h19_a h19 => ?_)
    · skip
      refine mx_iconst C (v := nI 0) (by decide) dX8_winner_31 (pc' := 32) rfl ?_
      exact mx_iret C hr dX8_winner_32 (by omega) (by omega) (⟨by rw [if_neg (fun z => z.2.1 rfl)], rfl⟩)
    · cases h19
  rw [pT_s ef]
  refine mx_ifnull C dX8_winner_19 (tgt := 31) (by decide) (pc' := 22) rfl (fun h19 => ?_) (fun h19_a h19 => ?_)
  · cases h19
  have Bf := c.2.2.2.2.2.2.2.2.1 f (by omega) hle2
  obtain ⟨g1, g2, g3, g4, g5⟩ := c.1.2.2.2.2.2.1.1 f (by omega) hle2
  first | refine mx_aload C dX8_winner_22 (pc' := 24) rfl rfl ?_ | refine mx_aloadq C dX8_winner_22 (pc' := 24) rfl rfl ?_
  first | refine mx_aload_n C dX8_winner_24 (pc' := 25) rfl rfl ?_ | refine mx_aload_nq C dX8_winner_24 (pc' := 25) rfl rfl ?_
  refine cX8_89 C dX8_winner_25 (pc' := 28) rfl (Bf.2.1) (c_X6_isOf l G base h c.1.1 c.1.2.2.2.2.1 c.2.2.2.2.2.2.2.1 Bf g2 g3 (show 1 ≤ r by omega) hle) ⟨by decide, by decide, by decide, by decide, Nat.le_of_ble_eq_true rfl⟩ ?_
  rintro _ _ ⟨rfl, rfl⟩
  refine mx_B_ne C dX8_winner_28 (tgt := 33) (by decide) (pc' := 31) rfl (fun h28 => ?_) (fun h28 => ?_)
  rotate_left
  · skip
    refine mx_iconst C (v := nI 0) (by decide) dX8_winner_31 (pc' := 32) rfl ?_
    exact mx_iret C hr dX8_winner_32 (by omega) (by omega) (⟨by rw [if_neg (fun z => of_decide_eq_false h28 z.2.2)], rfl⟩)
  rw [if_pos ⟨er, ef, of_decide_eq_true h28⟩]
  have loop : ∀ (d j : Nat), st_k σ - j = d → j ≤ st_k σ → mx_V p l ev { frames := 2, cells := 0, slots := 0, locals := 44 } s mt args below meth cd G base 7 (MQ below (mx_Qc G base (fun v h' => v = some (.int (nI (wnn σ r f (st_k σ)))) ∧ h = h')) args s 0 0 (mx_A base)) h 0 0 43 [some (.ref (aK A 0)), some (.int a), some (.int i), some (.ref (aB A r)), some (.ref (aT A f)), some (.ref (aT A (wnn σ r f j))), some (va_rf (pT A (nxt (st_k σ) j)))] [] := by
    intro d
    induction d using Nat.strongRecOn with
    | ind d ih =>
    intro j hd hj
    obtain ⟨w1, w2⟩ := wnn_in (r := r) (show 1 ≤ f by omega) hle2 j hj
    have Bw := c.2.2.2.2.2.2.2.2.1 _ w1 w2
    obtain ⟨v1, v2, v3, v4, v5⟩ := c.1.2.2.2.2.2.1.1 _ w1 w2
    first | refine mx_aload C dX8_winner_43 (pc' := 45) rfl rfl ?_ | refine mx_aloadq C dX8_winner_43 (pc' := 45) rfl rfl ?_
    by_cases e : j < st_k σ
    · rw [nxt_lt e, pT_s (show j + 1 ≠ 0 by omega)]
      have B := c.2.2.2.2.2.2.2.2.1 (j + 1) (by omega) (by omega)
      obtain ⟨s1, s2, s3, s4, s5⟩ := c.1.2.2.2.2.2.1.1 (j + 1) (by omega) (by omega)
      have key := ih _ (show st_k σ - (j + 1) < d by omega) (j + 1) rfl (by omega)
      refine mx_ifnull C dX8_winner_45 (tgt := 94) (by decide) (pc' := 48) rfl (fun h45 => ?_) (fun h45_a h45 => ?_)
      · cases h45
      first | refine mx_aload C dX8_winner_48 (pc' := 50) rfl rfl ?_ | refine mx_aloadq C dX8_winner_48 (pc' := 50) rfl rfl ?_
      refine gX8_86 C dX8_winner_50 (pc' := 53) rfl (B.2.1) rfl ?_
      first | refine mx_aload C dX8_winner_53 (pc' := 55) rfl rfl ?_ | refine mx_aloadq C dX8_winner_53 (pc' := 55) rfl rfl ?_
      refine gX8_86 C dX8_winner_55 (pc' := 58) rfl (Bf.2.1) rfl ?_
      refine mx_N_ne C dX8_winner_58 (tgt := 84) (by decide) (pc' := 61) rfl (by omega) (by omega) (fun h58 => ?_) (fun h58 => ?_)
      · have e2 : wnn σ r f (j + 1) = wnn σ r f j := by simp only [wnn]; rw [decide_eq_false h58]; rfl
        rw [e2] at key
        first | refine mx_aload C dX8_winner_84 (pc' := 86) rfl rfl ?_ | refine mx_aloadq C dX8_winner_84 (pc' := 86) rfl rfl ?_
        refine gX8_75 C dX8_winner_86 (pc' := 89) rfl (B.2.1) rfl ?_
        first | refine mx_astore C dX8_winner_89 (pc' := 91) rfl (by first | exact mx_c1_0 | exact mx_c1_int rfl | exact mx_c1_ref rfl | exact mx_c1_none rfl | exact mx_c1_rf rfl | exact mx_c1_null rfl) (by decide) (lo' := [_, _, _, _, _, _, _]) rfl ?_ | refine mx_astoreq C dX8_winner_89 (pc' := 91) rfl (by first | exact mx_c1_0 | exact mx_c1_int rfl | exact mx_c1_ref rfl | exact mx_c1_none rfl | exact mx_c1_rf rfl | exact mx_c1_null rfl) (by decide) (lo' := [_, _, _, _, _, _, _]) rfl ?_
        refine mx_goto C dX8_winner_91 (tgt := 43) (by decide) ?_
        exact key
      first | refine mx_aload C dX8_winner_61 (pc' := 63) rfl rfl ?_ | refine mx_aloadq C dX8_winner_61 (pc' := 63) rfl rfl ?_
      first | refine mx_aload_n C dX8_winner_63 (pc' := 64) rfl rfl ?_ | refine mx_aload_nq C dX8_winner_63 (pc' := 64) rfl rfl ?_
      refine cX8_89 C dX8_winner_64 (pc' := 67) rfl (B.2.1) (c_X6_isOf l G base h c.1.1 c.1.2.2.2.2.1 c.2.2.2.2.2.2.2.1 B s2 s3 (show 1 ≤ r by omega) hle) ⟨by decide, by decide, by decide, by decide, Nat.le_of_ble_eq_true rfl⟩ ?_
      rintro _ _ ⟨rfl, rfl⟩
      refine mx_B_eq C dX8_winner_67 (tgt := 84) (by decide) (pc' := 70) rfl (fun h67 => ?_) (fun h67 => ?_)
      · have e2 : wnn σ r f (j + 1) = wnn σ r f j := by simp only [wnn]; rw [h67, Bool.and_false]; rfl
        rw [e2] at key
        first | refine mx_aload C dX8_winner_84 (pc' := 86) rfl rfl ?_ | refine mx_aloadq C dX8_winner_84 (pc' := 86) rfl rfl ?_
        refine gX8_75 C dX8_winner_86 (pc' := 89) rfl (B.2.1) rfl ?_
        first | refine mx_astore C dX8_winner_89 (pc' := 91) rfl (by first | exact mx_c1_0 | exact mx_c1_int rfl | exact mx_c1_ref rfl | exact mx_c1_none rfl | exact mx_c1_rf rfl | exact mx_c1_null rfl) (by decide) (lo' := [_, _, _, _, _, _, _]) rfl ?_ | refine mx_astoreq C dX8_winner_89 (pc' := 91) rfl (by first | exact mx_c1_0 | exact mx_c1_int rfl | exact mx_c1_ref rfl | exact mx_c1_none rfl | exact mx_c1_rf rfl | exact mx_c1_null rfl) (by decide) (lo' := [_, _, _, _, _, _, _]) rfl ?_
        refine mx_goto C dX8_winner_91 (tgt := 43) (by decide) ?_
        exact key
      first | refine mx_aload C dX8_winner_70 (pc' := 72) rfl rfl ?_ | refine mx_aloadq C dX8_winner_70 (pc' := 72) rfl rfl ?_
      first | refine mx_aload C dX8_winner_72 (pc' := 74) rfl rfl ?_ | refine mx_aloadq C dX8_winner_72 (pc' := 74) rfl rfl ?_
      refine cX8_177 C dX8_winner_74 (pc' := 77) rfl (B.2.1) (c_X6_beats l G base h B Bw (c.2.2.2.2.2.2.2.1 _ s2 s3) (c.2.2.2.2.2.2.2.1 _ v2 v3) (by omega) (by omega)) ⟨by decide, by decide, by decide, by decide, Nat.le_of_ble_eq_true rfl⟩ ?_
      rintro _ _ ⟨rfl, rfl⟩
      refine mx_B_eq C dX8_winner_77 (tgt := 84) (by decide) (pc' := 80) rfl (fun h77 => ?_) (fun h77 => ?_)
      · have e2 : wnn σ r f (j + 1) = wnn σ r f j := by
          simp only [wnn]
          rw [if_neg]
          intro z
          rw [Bool.and_eq_true] at z
          have z2 : btw σ (j + 1) (wnn σ r f j) = false := h77
          rw [z2] at z
          cases z.2
        rw [e2] at key
        first | refine mx_aload C dX8_winner_84 (pc' := 86) rfl rfl ?_ | refine mx_aloadq C dX8_winner_84 (pc' := 86) rfl rfl ?_
        refine gX8_75 C dX8_winner_86 (pc' := 89) rfl (B.2.1) rfl ?_
        first | refine mx_astore C dX8_winner_89 (pc' := 91) rfl (by first | exact mx_c1_0 | exact mx_c1_int rfl | exact mx_c1_ref rfl | exact mx_c1_none rfl | exact mx_c1_rf rfl | exact mx_c1_null rfl) (by decide) (lo' := [_, _, _, _, _, _, _]) rfl ?_ | refine mx_astoreq C dX8_winner_89 (pc' := 91) rfl (by first | exact mx_c1_0 | exact mx_c1_int rfl | exact mx_c1_ref rfl | exact mx_c1_none rfl | exact mx_c1_rf rfl | exact mx_c1_null rfl) (by decide) (lo' := [_, _, _, _, _, _, _]) rfl ?_
        refine mx_goto C dX8_winner_91 (tgt := 43) (by decide) ?_
        exact key
      · have e2 : wnn σ r f (j + 1) = j + 1 := by
          simp only [wnn]
          rw [if_pos]
          have z2 : btw σ (j + 1) (wnn σ r f j) = true := h77
          rw [z2, h67, decide_eq_true h58]
          rfl
        rw [e2] at key
        first | refine mx_aload C dX8_winner_80 (pc' := 82) rfl rfl ?_ | refine mx_aloadq C dX8_winner_80 (pc' := 82) rfl rfl ?_
        first | refine mx_astore C dX8_winner_82 (pc' := 84) rfl (by first | exact mx_c1_0 | exact mx_c1_int rfl | exact mx_c1_ref rfl | exact mx_c1_none rfl | exact mx_c1_rf rfl | exact mx_c1_null rfl) (by decide) (lo' := [_, _, _, _, _, _, _]) rfl ?_ | refine mx_astoreq C dX8_winner_82 (pc' := 84) rfl (by first | exact mx_c1_0 | exact mx_c1_int rfl | exact mx_c1_ref rfl | exact mx_c1_none rfl | exact mx_c1_rf rfl | exact mx_c1_null rfl) (by decide) (lo' := [_, _, _, _, _, _, _]) rfl ?_
        first | refine mx_aload C dX8_winner_84 (pc' := 86) rfl rfl ?_ | refine mx_aloadq C dX8_winner_84 (pc' := 86) rfl rfl ?_
        refine gX8_75 C dX8_winner_86 (pc' := 89) rfl (B.2.1) rfl ?_
        first | refine mx_astore C dX8_winner_89 (pc' := 91) rfl (by first | exact mx_c1_0 | exact mx_c1_int rfl | exact mx_c1_ref rfl | exact mx_c1_none rfl | exact mx_c1_rf rfl | exact mx_c1_null rfl) (by decide) (lo' := [_, _, _, _, _, _, _]) rfl ?_ | refine mx_astoreq C dX8_winner_89 (pc' := 91) rfl (by first | exact mx_c1_0 | exact mx_c1_int rfl | exact mx_c1_ref rfl | exact mx_c1_none rfl | exact mx_c1_rf rfl | exact mx_c1_null rfl) (by decide) (lo' := [_, _, _, _, _, _, _]) rfl ?_
        refine mx_goto C dX8_winner_91 (tgt := 43) (by decide) ?_
        exact key
    · rw [nxt_ge e, pT_0]
      have e2 : j = st_k σ := by omega
      subst e2
      refine mx_ifnull C dX8_winner_45 (tgt := 94) (by decide) (pc' := 48) rfl (fun h45 => ?_) (fun h45_a h45 => ?_)
      · skip
        first | refine mx_aload C dX8_winner_94 (pc' := 96) rfl rfl ?_ | refine mx_aloadq C dX8_winner_94 (pc' := 96) rfl rfl ?_
        refine gX8_77 C dX8_winner_96 (pc' := 99) rfl (Bw.2.1) rfl ?_
        exact mx_iret C hr dX8_winner_99 (by omega) (by omega) (⟨rfl, rfl⟩)
      · cases h45
  first | refine mx_aload C dX8_winner_33 (pc' := 35) rfl rfl ?_ | refine mx_aloadq C dX8_winner_33 (pc' := 35) rfl rfl ?_
  first | refine mx_astore C dX8_winner_35 (pc' := 37) rfl (by first | exact mx_c1_0 | exact mx_c1_int rfl | exact mx_c1_ref rfl | exact mx_c1_none rfl | exact mx_c1_rf rfl | exact mx_c1_null rfl) (by decide) (lo' := [_, _, _, _, _, _, _]) rfl ?_ | refine mx_astoreq C dX8_winner_35 (pc' := 37) rfl (by first | exact mx_c1_0 | exact mx_c1_int rfl | exact mx_c1_ref rfl | exact mx_c1_none rfl | exact mx_c1_rf rfl | exact mx_c1_null rfl) (by decide) (lo' := [_, _, _, _, _, _, _]) rfl ?_
  first | refine mx_aload_n C dX8_winner_37 (pc' := 38) rfl rfl ?_ | refine mx_aload_nq C dX8_winner_37 (pc' := 38) rfl rfl ?_
  refine gX8_72 C dX8_winner_38 (pc' := 41) rfl (c.2.2.1) rfl ?_
  first | refine mx_astore C dX8_winner_41 (pc' := 43) rfl (by first | exact mx_c1_0 | exact mx_c1_int rfl | exact mx_c1_ref rfl | exact mx_c1_none rfl | exact mx_c1_rf rfl | exact mx_c1_null rfl) (by decide) (lo' := [_, _, _, _, _, _, _]) rfl ?_ | refine mx_astoreq C dX8_winner_41 (pc' := 43) rfl (by first | exact mx_c1_0 | exact mx_c1_int rfl | exact mx_c1_ref rfl | exact mx_c1_none rfl | exact mx_c1_rf rfl | exact mx_c1_null rfl) (by decide) (lo' := [_, _, _, _, _, _, _]) rfl ?_
  exact loop _ 0 rfl (by omega)
theorem c_X8_locked (h : mx_H) {A : mxA} {σ : mxS} {la ea : Nat → Nat} {mk : Nat → Bool} (c : CI G A h σ la ea mk) {a : Int32} {b : Bool} {r : Nat} (hr0 : ixR (st_n σ) a = r) :
    mx_M l G base yX8_locked cX8_locked 5 (some .int) 1 22 0 0 [.ref (aK A 0), .int a, .int (mx_b b)] h (fun v h' => (r = 0 → v = some (.int (-1)) ∧ h = h') ∧ (r ≠ 0 → v = some (.int (mx_b (st_lk σ r))) ∧ CI G A h' (su_lk σ r b) la ea mk ∧ OUT A σ h h')) := by
  have hn := c.1.1
  have hle := @ixR_le (st_n σ) a
  rw [hr0] at hle
  refine mx_enter (lo := [some (.ref (aK A 0)), some (.int a), some (.int (mx_b b)), none, none]) (by decide) (mx_in wd_code_yX8_locked rfl) (Nat.le_of_ble_eq_true rfl) rfl ?_
  intro p ev s mt args below meth cd C hr hnm
  have C : mx_C p s mt args meth cd cX8_locked 5 RX8 G base := C
  first | refine mx_aload_n C dX8_locked_0 (pc' := 1) rfl rfl ?_ | refine mx_aload_nq C dX8_locked_0 (pc' := 1) rfl rfl ?_
  refine mx_iload_n C dX8_locked_1 (pc' := 2) rfl rfl ?_
  refine cX8_183 C dX8_locked_2 (pc' := 5) rfl (c.2.2.1) (c_X8_bookOf l G base h c) ⟨by decide, by decide, by decide, by decide, Nat.le_of_ble_eq_true rfl⟩ ?_
  rintro _ _ ⟨rfl, rfl⟩
  first | refine mx_astore_n C dX8_locked_5 (pc' := 6) rfl (by first | exact mx_c1_0 | exact mx_c1_int rfl | exact mx_c1_ref rfl | exact mx_c1_none rfl | exact mx_c1_rf rfl | exact mx_c1_null rfl) (by decide) (lo' := [_, _, _, _, _]) rfl ?_ | refine mx_astore_nq C dX8_locked_5 (pc' := 6) rfl (by first | exact mx_c1_0 | exact mx_c1_int rfl | exact mx_c1_ref rfl | exact mx_c1_none rfl | exact mx_c1_rf rfl | exact mx_c1_null rfl) (by decide) (lo' := [_, _, _, _, _]) rfl ?_
  first | refine mx_aload_n C dX8_locked_6 (pc' := 7) rfl rfl ?_ | refine mx_aload_nq C dX8_locked_6 (pc' := 7) rfl rfl ?_
  rw [hr0]
  by_cases er : r = 0
  · subst er
    rw [pB_0]
    refine mx_ifnonnull C dX8_locked_7 (tgt := 12) (by decide) (pc' := 10) rfl (fun h7_a h7 => ?_) (fun h7 => ?_)
    · cases h7
    refine mx_iconst C (v := (-1)) (by decide) dX8_locked_10 (pc' := 11) rfl ?_
    exact mx_iret C hr dX8_locked_11 (by omega) (by omega) (⟨fun _ => ⟨rfl, rfl⟩, fun z => absurd rfl z⟩)
  rw [pB_s er]
  refine mx_ifnonnull C dX8_locked_7 (tgt := 12) (by decide) (pc' := 10) rfl (fun h7_a h7 => ?_) (fun h7 => ?_)
  rotate_left
  · cases h7
  have B := c.2.2.2.2.2.2.2.1 r (by omega) hle
  have h1 : 1 ≤ r := by omega
  obtain ⟨c1, c2, c3, ⟨F, c4, c4b⟩, c5, ⟨R, n, k1, k2, k3, k4⟩, c7, c8, c9, c10⟩ := id c
  have eK : ∀ i, i < 23 → ∀ e, va_up h (aB A r) e (aK A i) = h (aK A i) := fun i hi e => va_up_ne _ _ (fun z => c.bK h1 hle hi z.symm)
  have c' : CI G A (va_up h (aB A r) (some (.inr (0, [.int (nI r), .int (st_rk σ r), .int (mx_b b), .int (mx_b (mk r)), va_rf (pB A (nxt (st_n σ) r)), va_rf (pB A (st_in σ r)), va_rf (pB A (la r)), va_rf (pB A (ea r))])))) (su_lk σ r b) la ea mk := by
    refine ⟨si_lk c1 h1 hle, c2, (eK 0 (by decide) _).trans c3, ⟨F, (eK 1 (by decide) _).trans c4, c4b⟩, c5.kept (fun i _ _ => eK i (by omega) _), ⟨R, n, k1, k2, (eK 9 (by decide) _).trans k3, (eK 10 (by decide) _).trans k4⟩, c7.kept (fun i _ _ => eK i (by omega) _), fun q q1 q2 => ?_, fun f f1 f2 => ?_, c10⟩
    · have q2 : q ≤ st_n σ := q2
      by_cases e : q = r
      · subst e
        rw [va_up_self]
        have e3 : st_lk (su_lk σ q b) q = b := if_pos rfl
        rw [e3]; rfl
      · rw [va_up_ne _ _ (fun z => e (aB_inj c1.1 c8 q1 q2 h1 hle z))]
        have e3 : st_lk (su_lk σ r b) q = st_lk σ q := if_neg e
        rw [e3]
        exact c8 q q1 q2
    · exact (c9 f f1 f2).kept (va_up_ne _ _ (fun z => (c.bT h1 hle f1 f2).1 z.symm)) (va_up_ne _ _ (fun z => (c.bT h1 hle f1 f2).2 z.symm))
  first | refine mx_aload_n C dX8_locked_12 (pc' := 13) rfl rfl ?_ | refine mx_aload_nq C dX8_locked_12 (pc' := 13) rfl rfl ?_
  refine gX8_168 C dX8_locked_13 (pc' := 16) rfl (B) rfl ?_
  refine mx_istore C dX8_locked_16 (pc' := 18) rfl (by first | exact mx_c1_0 | exact mx_c1_int rfl | exact mx_c1_ref rfl | exact mx_c1_none rfl | exact mx_c1_rf rfl | exact mx_c1_null rfl) (by decide) (lo' := [_, _, _, _, _]) rfl ?_
  first | refine mx_aload_n C dX8_locked_18 (pc' := 19) rfl rfl ?_ | refine mx_aload_nq C dX8_locked_18 (pc' := 19) rfl rfl ?_
  refine mx_iload_n C dX8_locked_19 (pc' := 20) rfl rfl ?_
  first | refine pX8_168 C dX8_locked_20 (pc' := 23) rfl (B) (Nat.le_of_ble_eq_true rfl) (mx_b_nz _) (mx_b_fz _) (fs' := [_, _, _, _, _, _, _, _]) rfl ?_ | refine pX8_168 C dX8_locked_20 (pc' := 23) rfl (B) (Nat.le_of_ble_eq_true rfl) rfl rfl (fs' := [_, _, _, _, _, _, _, _]) rfl ?_
  refine mx_iload C dX8_locked_23 (pc' := 25) rfl rfl ?_
  refine mx_B_eq C dX8_locked_25 (tgt := 32) (by decide) (pc' := 28) rfl (fun h25 => ?_) (fun h25 => ?_)
  · skip
    refine mx_iconst C (v := nI 0) (by decide) dX8_locked_32 (pc' := 33) rfl ?_
    exact mx_iret C hr dX8_locked_33 (by omega) (by omega) (⟨fun z => absurd z er, fun _ => ⟨mx_ok0 h25, c', OUT.mark h1 hle⟩⟩)
  · skip
    refine mx_iconst C (v := nI 1) (by decide) dX8_locked_28 (pc' := 29) rfl ?_
    refine mx_goto C dX8_locked_29 (tgt := 33) (by decide) ?_
    exact mx_iret C hr dX8_locked_33 (by omega) (by omega) (⟨fun z => absurd z er, fun _ => ⟨mx_ok1 h25, c', OUT.mark h1 hle⟩⟩)
theorem c_X8_sign (h : mx_H) {A : mxA} {σ : mxS} {la ea : Nat → Nat} {mk : Nat → Bool} (c : CI G A h σ la ea mk) {i x : Int32} {f : Nat} (hf0 : ixR (st_k σ) i = f) :
    mx_M l G base yX8_sign cX8_sign 4 none 1 22 0 0 [.ref (aK A 0), .int i, .int x] h (fun v h' => v = none ∧ (f ≠ 0 ∧ st_sz σ f < 60 → CI G A h' (su_sg σ f (cb x)) la ea mk ∧ OUT A σ h h') ∧ (¬ (f ≠ 0 ∧ st_sz σ f < 60) → h = h')) := by
  have hk := c.1.2.1
  have hle := @ixR_le (st_k σ) i
  rw [hf0] at hle
  refine mx_enter (lo := [some (.ref (aK A 0)), some (.int i), some (.int x), none]) (by decide) (mx_in wd_code_yX8_sign rfl) (Nat.le_of_ble_eq_true rfl) rfl ?_
  intro p ev s mt args below meth cd C hr hnm
  have C : mx_C p s mt args meth cd cX8_sign 4 RX8 G base := C
  first | refine mx_aload_n C dX8_sign_0 (pc' := 1) rfl rfl ?_ | refine mx_aload_nq C dX8_sign_0 (pc' := 1) rfl rfl ?_
  refine mx_iload_n C dX8_sign_1 (pc' := 2) rfl rfl ?_
  refine cX8_78 C dX8_sign_2 (pc' := 5) rfl (c.2.2.1) (c_X8_textOf l G base h c) ⟨by decide, by decide, by decide, by decide, Nat.le_of_ble_eq_true rfl⟩ ?_
  rintro _ _ ⟨rfl, rfl⟩
  first | refine mx_astore_n C dX8_sign_5 (pc' := 6) rfl (by first | exact mx_c1_0 | exact mx_c1_int rfl | exact mx_c1_ref rfl | exact mx_c1_none rfl | exact mx_c1_rf rfl | exact mx_c1_null rfl) (by decide) (lo' := [_, _, _, _]) rfl ?_ | refine mx_astore_nq C dX8_sign_5 (pc' := 6) rfl (by first | exact mx_c1_0 | exact mx_c1_int rfl | exact mx_c1_ref rfl | exact mx_c1_none rfl | exact mx_c1_rf rfl | exact mx_c1_null rfl) (by decide) (lo' := [_, _, _, _]) rfl ?_
  first | refine mx_aload_n C dX8_sign_6 (pc' := 7) rfl rfl ?_ | refine mx_aload_nq C dX8_sign_6 (pc' := 7) rfl rfl ?_
  rw [hf0]
  by_cases ef : f = 0
  · subst ef
    rw [pT_0]
    refine mx_ifnull C dX8_sign_7 (tgt := 20) (by decide) (pc' := 10) rfl (fun h7 => ?_) (fun h7_a h7 => ?_)
    · skip
      exact mx_vret C hr dX8_sign_20 (by omega) (by omega) (⟨rfl, fun z => absurd rfl z.1, fun _ => rfl⟩)
    · cases h7
  rw [pT_s ef]
  refine mx_ifnull C dX8_sign_7 (tgt := 20) (by decide) (pc' := 10) rfl (fun h7 => ?_) (fun h7_a h7 => ?_)
  · cases h7
  have B := c.2.2.2.2.2.2.2.2.1 f (by omega) hle
  have h1 : 1 ≤ f := by omega
  have hcb : cb x < 256 := Nat.mod_lt _ (by decide)
  have ecb : x &&& nI 255 = nI (cb x) := pk_and x 8 (by decide)
  have e2c : ((nI (cb x)).toUInt32 % 65536).toInt32 = nI (cb x) := by rw [pk_char, pk_tn (show cb x < 2 ^ 32 by omega), Nat.mod_eq_of_lt (by omega)]
  first | refine mx_aload_n C dX8_sign_10 (pc' := 11) rfl rfl ?_ | refine mx_aload_nq C dX8_sign_10 (pc' := 11) rfl rfl ?_
  refine mx_iload_n C dX8_sign_11 (pc' := 12) rfl rfl ?_
  refine mx_sipush C (v := nI 255) (by decide) dX8_sign_12 (pc' := 15) rfl ?_
  refine mx_iand C dX8_sign_15 (pc' := 16) rfl ?_
  rw [ecb]
  refine mx_i2c C (e2c) dX8_sign_16 (pc' := 17) rfl ?_
  refine cX8_82 C dX8_sign_17 (pc' := 20) rfl (B.2.1) (c_X6_append l G base h B hcb (c.tC h1 hle h1 hle)) ⟨by decide, by decide, by decide, by decide, Nat.le_of_ble_eq_true rfl⟩ ?_
  rintro _ h2 ⟨rfl, p1, p2⟩
  refine mx_vret C hr dX8_sign_20 (by omega) (by omega) ⟨rfl, fun z => ?_, fun z => ?_⟩
  · obtain ⟨T, hT, rfl⟩ := p1 z.2
    obtain ⟨c1, c2, c3, ⟨F, c4, c4b⟩, c5, ⟨R, n, k1, k2, k3, k4⟩, c7, c8, c9, c10⟩ := id c
    have ne : ∀ y e1 e2, y ≠ aT A f → y ≠ aC A f → va_up (va_up h (aC A f) e1) (aT A f) e2 y = h y := fun y e1 e2 y1 y2 => by rw [va_up_ne _ _ y1, va_up_ne _ _ y2]
    have eK : ∀ i, i < 23 → ∀ e1 e2, va_up (va_up h (aC A f) e1) (aT A f) e2 (aK A i) = h (aK A i) := fun i hi e1 e2 => ne _ _ _ (fun z => c.tK h1 hle hi z.symm) (fun z => c2.2.1 f h1 hle i hi z.symm)
    refine ⟨⟨si_sg c1 h1 hle z.2 hcb, c2, (eK 0 (by decide) _ _).trans c3, ⟨F, (eK 1 (by decide) _ _).trans c4, c4b⟩, c5.kept (fun i _ _ => eK i (by omega) _ _), ⟨R, n, k1, k2, (eK 9 (by decide) _ _).trans k3, (eK 10 (by decide) _ _).trans k4⟩, c7.kept (fun i _ _ => eK i (by omega) _ _), fun q q1 q2 => ?_, fun g g1 g2 => ?_, c10⟩, fun y y1 y2 y3 => ne _ _ _ (y3 f h1 hle).1 (y3 f h1 hle).2⟩
    · rw [ne _ _ _ (c.bT q1 q2 h1 hle).1 (c.bT q1 q2 h1 hle).2]; exact c8 q q1 q2
    · have g2 : g ≤ st_k σ := g2
      by_cases e : g = f
      · subst e
        have e3 : st_sz (su_sg σ g (cb x)) g = st_sz σ g + 1 := if_pos rfl
        have e4 : st_sg (su_sg σ g (cb x)) g = va_up (st_sg σ g) (st_sz σ g) (cb x) := if_pos rfl
        rw [e3, e4]
        refine ⟨by omega, va_up_self _ _ _, T, by rw [va_up_ne _ _ (fun z => c.tC h1 hle h1 hle z.symm), va_up_self], fun j hj => ⟨hT j hj, ?_⟩⟩
        by_cases e5 : j = st_sz σ g
        · subst e5; rw [va_up_self]; exact hcb
        · rw [va_up_ne _ _ e5]; exact (c1.2.2.2.2.2.1.1 g h1 hle).2.2.2.2 j (by omega)
      · have e3 : st_sz (su_sg σ f (cb x)) g = st_sz σ g := if_neg e
        have e4 : st_sg (su_sg σ f (cb x)) g = st_sg σ g := if_neg e
        rw [e3, e4]
        exact (c9 g g1 g2).kept (ne _ _ _ (fun z => e (aT_inj c1.2.1 c9 g1 g2 h1 hle z)) (c.tC g1 g2 h1 hle)) (ne _ _ _ (fun z => c.tC h1 hle g1 g2 z.symm) (fun z => e (c2.2.2 g f g1 g2 h1 hle z)))
  · exact p2 (by have := (c.1.2.2.2.2.2.1.1 f h1 hle).2.2.2.1; omega)
end P2
