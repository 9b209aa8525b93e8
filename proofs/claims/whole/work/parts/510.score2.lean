/-! the class's score and index; the law's own -/
theorem cat_rf {o : Option Nat} : (va_rf o).category = 1 := by cases o <;> rfl
section TS
variable (l : Launch) (G : mx_G) (base : Nat)
set_option maxRecDepth 20000
theorem c_X8_score (hl : l.stackTraces = false) (h : mx_H) {A : mxA} {σ : mxS} {la ea : Nat → Nat} {mk : Nat → Bool} (c : CI G A h σ la ea mk) {a b w : Int32} {x y : Nat} (hx0 : ixS σ a = x) (hy0 : ixS σ b = y) {U D W : Nat} (eU : (lkS σ x y 5).1 = U) (eD : (lkS σ x y 5).2.1 = D) (eW : (lkS σ x y 5).2.2 = W) : mx_MX l G base yX8_score cX8_score 7 (some .long) 7 133 1 6 [.ref (aK A 0), .int a, .int b, .int w] h (fun v h' => OUT A σ h h' ∧ CI G A h' σ la ea mk ∧ (x = 0 ∨ y = 0 → v = some (.long (-1))) ∧ (¬ (x = 0 ∨ y = 0) → W ≠ 0 ∧ v = some (.long (lN (if w = 0 then U / Nat.gcd (D * W) U else D * W / Nat.gcd (D * W) U))))) (fun E h' => E = "java/lang/ArithmeticException" ∧ ¬ (x = 0 ∨ y = 0) ∧ W = 0 ∧ CI G A h' σ la ea mk ∧ OUT A σ h h') := by
  refine mx_enterX (lo := [some (.ref (aK A 0)), some (.int a), some (.int b), some (.int w), none, none, none]) (by decide) (Nat.le_of_ble_eq_true rfl) rfl ?_
  intro p ev s mt args below meth cd C hr hZ hxt
  have C : mx_C p s mt args meth cd cX8_score 7 RX8 G base := C
  first | refine mx_aload_n C dX8_score_0 (pc' := 1) rfl rfl ?_ | refine mx_aload_nq C dX8_score_0 (pc' := 1) rfl rfl ?_
  refine mx_iload_n C dX8_score_1 (pc' := 2) rfl rfl ?_
  refine cX8_56 C dX8_score_2 (pc' := 5) rfl (c.2.2.1) (c_X8_standingBook l G base h c) ⟨by decide, by decide, by decide, by decide, Nat.le_of_ble_eq_true rfl⟩ ?_
  rintro _ _ ⟨rfl, rfl⟩
  first | refine mx_astore C dX8_score_5 (pc' := 7) rfl (by first | exact mx_c1_0 | exact mx_c1_int rfl | exact mx_c1_ref rfl | exact mx_c1_none rfl | exact mx_c1_rf rfl | exact mx_c1_null rfl) (by decide) (lo' := [_, _, _, _, _, _, _]) rfl ?_ | refine mx_astoreq C dX8_score_5 (pc' := 7) rfl (by first | exact mx_c1_0 | exact mx_c1_int rfl | exact mx_c1_ref rfl | exact mx_c1_none rfl | exact mx_c1_rf rfl | exact mx_c1_null rfl) (by decide) (lo' := [_, _, _, _, _, _, _]) rfl ?_
  first | refine mx_aload_n C dX8_score_7 (pc' := 8) rfl rfl ?_ | refine mx_aload_nq C dX8_score_7 (pc' := 8) rfl rfl ?_
  refine mx_iload_n C dX8_score_8 (pc' := 9) rfl rfl ?_
  refine cX8_56 C dX8_score_9 (pc' := 12) rfl (c.2.2.1) (c_X8_standingBook l G base h c) ⟨by decide, by decide, by decide, by decide, Nat.le_of_ble_eq_true rfl⟩ ?_
  rintro _ _ ⟨rfl, rfl⟩
  rw [hx0, hy0]
  have hle1 := @ixS_le σ a
  have hle2 := @ixS_le σ b
  rw [hx0] at hle1
  rw [hy0] at hle2
  have k24 : (x = 0 ∨ y = 0) → ∀ o5, mx_V p l ev { frames := 7, cells := 1, slots := 6, locals := 133 } s mt args below meth cd G base 7 (vx_MQ below (mx_Qc G base (fun v h' => OUT A σ h h' ∧ CI G A h' σ la ea mk ∧ (x = 0 ∨ y = 0 → v = some (.long (-1))) ∧ (¬ (x = 0 ∨ y = 0) → W ≠ 0 ∧ v = some (.long (lN (if w = 0 then U / Nat.gcd (D * W) U else D * W / Nat.gcd (D * W) U)))))) (mx_XC G base (fun E h' => E = "java/lang/ArithmeticException" ∧ ¬ (x = 0 ∨ y = 0) ∧ W = 0 ∧ CI G A h' σ la ea mk ∧ OUT A σ h h')) args s 1 6 (mx_A base)) h 0 0 24 [some (.ref (aK A 0)), some (.int a), some (.int b), some (.int w), some (va_rf (pB A x)), o5, none] [] := by
    intro hz o5
    refine kX8_105 C dX8_score_24 (pc' := 27) rfl ?_
    exact mx_toX (mx_lret C hr dX8_score_27 (by omega) (by omega) ⟨OUT.rf, c, fun _ => rfl, fun z => absurd hz z⟩)
  first | refine mx_astore C dX8_score_12 (pc' := 14) rfl (by first | exact mx_c1_0 | exact mx_c1_int rfl | exact mx_c1_ref rfl | exact mx_c1_none rfl | exact mx_c1_rf rfl | exact mx_c1_null rfl) (by decide) (lo' := [_, _, _, _, _, _, _]) rfl ?_ | refine mx_astoreq C dX8_score_12 (pc' := 14) rfl (by first | exact mx_c1_0 | exact mx_c1_int rfl | exact mx_c1_ref rfl | exact mx_c1_none rfl | exact mx_c1_rf rfl | exact mx_c1_null rfl) (by decide) (lo' := [_, _, _, _, _, _, _]) rfl ?_
  first | refine mx_aload C dX8_score_14 (pc' := 16) rfl rfl ?_ | refine mx_aloadq C dX8_score_14 (pc' := 16) rfl rfl ?_
  by_cases ex : x = 0
  · have k24 := k24 (Or.inl ex) (some (va_rf (pB A y)))
    rw [ex, pB_0] at k24
    rw [ex, pB_0]
    refine mx_ifnull C dX8_score_16 (tgt := 24) (by decide) (pc' := 19) rfl (fun h16 => ?_) (fun h16_a h16 => ?_)
    · exact k24
    · cases h16
  rw [pB_s ex]
  refine mx_ifnull C dX8_score_16 (tgt := 24) (by decide) (pc' := 19) rfl (fun h16 => ?_) (fun h16_a h16 => ?_)
  · cases h16
  first | refine mx_aload C dX8_score_19 (pc' := 21) rfl rfl ?_ | refine mx_aloadq C dX8_score_19 (pc' := 21) rfl rfl ?_
  by_cases ey : y = 0
  · have k24 := k24 (Or.inr ey) (some (va_rf (pB A y)))
    rw [ey, pB_0, pB_s ex] at k24
    rw [ey, pB_0]
    refine mx_ifnonnull C dX8_score_21 (tgt := 28) (by decide) (pc' := 24) rfl (fun h21_a h21 => ?_) (fun h21 => ?_)
    · cases h21
    · exact k24
  rw [pB_s ey]
  refine mx_ifnonnull C dX8_score_21 (tgt := 28) (by decide) (pc' := 24) rfl (fun h21_a h21 => ?_) (fun h21 => ?_)
  rotate_left
  · cases h21
  have hno : ¬ (x = 0 ∨ y = 0) := fun z => z.elim ex ey
  obtain ⟨⟨sa, sb, sw, a0⟩, -⟩ := c.2.2.2.2.2.2.1
  first | refine mx_aload_n C dX8_score_28 (pc' := 29) rfl rfl ?_ | refine mx_aload_nq C dX8_score_28 (pc' := 29) rfl rfl ?_
  refine gX8_30 C dX8_score_29 (pc' := 32) rfl (c.2.2.1) rfl ?_
  refine cX8_107 C dX8_score_32 (pc' := 35) rfl (a0) (c_X4_clear l G base h c) ⟨by decide, by decide, by decide, by decide, Nat.le_of_ble_eq_true rfl⟩ ?_
  rintro _ h1 ⟨rfl, c1, o1, l1⟩
  have loop : ∀ (d q : Nat) (hh : mx_H), 5 - q = d → q ≤ 5 → CI G A hh σ la ea mk → OUT A σ h hh → LK hh (aK A) (lkS σ x y q) → mx_V p l ev { frames := 7, cells := 1, slots := 6, locals := 133 } s mt args below meth cd G base 7 (vx_MQ below (mx_Qc G base (fun v h' => OUT A σ h h' ∧ CI G A h' σ la ea mk ∧ (x = 0 ∨ y = 0 → v = some (.long (-1))) ∧ (¬ (x = 0 ∨ y = 0) → W ≠ 0 ∧ v = some (.long (lN (if w = 0 then U / Nat.gcd (D * W) U else D * W / Nat.gcd (D * W) U)))))) (mx_XC G base (fun E h' => E = "java/lang/ArithmeticException" ∧ ¬ (x = 0 ∨ y = 0) ∧ W = 0 ∧ CI G A h' σ la ea mk ∧ OUT A σ h h')) args s 1 6 (mx_A base)) hh 0 0 38 [some (.ref (aK A 0)), some (.int a), some (.int b), some (.int w), some (va_rf (some (aB A x))), some (va_rf (some (aB A y))), some (.int (nI q))] [] := by
    intro d
    induction d using Nat.strongRecOn with
    | ind d ih =>
    intro q hh hd hq cc ho lk
    refine mx_iload C dX8_score_38 (pc' := 40) rfl rfl ?_
    refine mx_iconst C (v := nI 5) (by decide) dX8_score_40 (pc' := 41) rfl ?_
    refine mx_N_ge C dX8_score_41 (tgt := 75) (by decide) (pc' := 44) rfl (by omega) (by omega) (fun h41 => ?_) (fun h41 => ?_)
    · have e1 : q = 5 := by omega
      subst e1
      obtain ⟨b1, b2, b3, b4⟩ := lkS_le cc.1 (a := x) (b := y) (p := 5) (Nat.le_refl _)
      first | refine mx_aload_n C dX8_score_75 (pc' := 76) rfl rfl ?_ | refine mx_aload_nq C dX8_score_75 (pc' := 76) rfl rfl ?_
      refine gX8_30 C dX8_score_76 (pc' := 79) rfl (cc.2.2.1) rfl ?_
      refine cX8_118 C dX8_score_79 (pc' := 82) rfl (lk) (c_X4_hasWeight l G base hh lk (by omega)) ⟨by decide, by decide, by decide, by decide, Nat.le_of_ble_eq_true rfl⟩ ?_
      rintro _ _ ⟨rfl, rfl⟩
      rw [eW]
      rw [eW] at b4
      rw [eU] at b1
      rw [eD] at b2 b3
      refine mx_B_ne C dX8_score_82 (tgt := 95) (by decide) (pc' := 85) rfl (fun h82 => ?_) (fun h82 => ?_)
      rotate_left
      · exact mx_throw1 C hl hZ hxt dX8_score_85 dX8_score_88 dX8_score_89 dX8_score_91 dX8_score_94 (by decide) (by decide) (by decide) (by decide) (by decide) (by decide) ⟨rfl, hno, by have := of_decide_eq_false h82; omega, cc, ho⟩
      have hW : 0 < W := of_decide_eq_true h82
      have q1 : (lkS σ x y 5).1 < 2 ^ 62 := by rw [eU]; omega
      have hDW : D * W ≤ 4799520 * 1260000 := Nat.mul_le_mul b3 b4
      have q2 : 0 < (lkS σ x y 5).2.1 * (lkS σ x y 5).2.2 := by rw [eD, eW]; exact Nat.mul_pos (by omega) hW
      have q3 : (lkS σ x y 5).2.1 * (lkS σ x y 5).2.2 < 2 ^ 62 := by rw [eD, eW]; omega
      refine mx_iload_n C dX8_score_95 (pc' := 96) rfl rfl ?_
      refine mx_if_ne C dX8_score_96 (tgt := 109) (by decide) (pc' := 99) rfl (fun h96 => ?_) (fun h96 => ?_)
      · skip
        first | refine mx_aload_n C dX8_score_109 (pc' := 110) rfl rfl ?_ | refine mx_aload_nq C dX8_score_109 (pc' := 110) rfl rfl ?_
        refine gX8_30 C dX8_score_110 (pc' := 113) rfl (cc.2.2.1) rfl ?_
        refine cX8_133 C dX8_score_113 (pc' := 116) rfl (lk) (c_X4_below l G base hh lk q1 q2 q3) ⟨by decide, by decide, by decide, by decide, Nat.le_of_ble_eq_true rfl⟩ ?_
        rintro _ _ ⟨rfl, rfl⟩
        rw [eU, eD, eW]
        exact mx_toX (mx_lret C hr dX8_score_116 (by omega) (by omega) ⟨ho, cc, fun z => absurd z hno, fun _ => ⟨by omega, by rw [if_neg h96]⟩⟩)
      · skip
        first | refine mx_aload_n C dX8_score_99 (pc' := 100) rfl rfl ?_ | refine mx_aload_nq C dX8_score_99 (pc' := 100) rfl rfl ?_
        refine gX8_30 C dX8_score_100 (pc' := 103) rfl (cc.2.2.1) rfl ?_
        refine cX8_129 C dX8_score_103 (pc' := 106) rfl (lk) (c_X4_above l G base hh lk q1 q2 q3) ⟨by decide, by decide, by decide, by decide, Nat.le_of_ble_eq_true rfl⟩ ?_
        rintro _ _ ⟨rfl, rfl⟩
        refine mx_goto C dX8_score_106 (tgt := 116) (by decide) ?_
        rw [eU, eD, eW]
        exact mx_toX (mx_lret C hr dX8_score_116 (by omega) (by omega) ⟨ho, cc, fun z => absurd z hno, fun _ => ⟨by omega, by rw [if_pos h96]⟩⟩)
    have fb1 : fiT σ x q ≤ st_k σ := by
      rcases Nat.eq_zero_or_pos (fiT σ x q) with z | z
      · omega
      · exact (@fiT_in σ x q (by omega)).2.1
    have fb2 : fiT σ y q ≤ st_k σ := by
      rcases Nat.eq_zero_or_pos (fiT σ y q) with z | z
      · omega
      · exact (@fiT_in σ y q (by omega)).2.1
    first | refine mx_aload_n C dX8_score_44 (pc' := 45) rfl rfl ?_ | refine mx_aload_nq C dX8_score_44 (pc' := 45) rfl rfl ?_
    refine gX8_30 C dX8_score_45 (pc' := 48) rfl (cc.2.2.1) rfl ?_
    refine mx_iload C dX8_score_48 (pc' := 50) rfl rfl ?_
    first | refine mx_aload_n C dX8_score_50 (pc' := 51) rfl rfl ?_ | refine mx_aload_nq C dX8_score_50 (pc' := 51) rfl rfl ?_
    first | refine mx_aload C dX8_score_51 (pc' := 53) rfl rfl ?_ | refine mx_aloadq C dX8_score_51 (pc' := 53) rfl rfl ?_
    refine mx_iload C dX8_score_53 (pc' := 55) rfl rfl ?_
    refine cX8_110 C dX8_score_55 (pc' := 58) rfl (cc.2.2.1) (c_X8_firstTextOf l G base hh cc (show 1 ≤ x by omega) hle1 (show q ≤ 9 by omega)) ⟨by decide, by decide, by decide, by decide, Nat.le_of_ble_eq_true rfl⟩ ?_
    rintro _ _ ⟨rfl, rfl⟩
    first | refine mx_aload_n C dX8_score_58 (pc' := 59) rfl rfl ?_ | refine mx_aload_nq C dX8_score_58 (pc' := 59) rfl rfl ?_
    first | refine mx_aload C dX8_score_59 (pc' := 61) rfl rfl ?_ | refine mx_aloadq C dX8_score_59 (pc' := 61) rfl rfl ?_
    refine mx_iload C dX8_score_61 (pc' := 63) rfl rfl ?_
    refine cX8_110 C dX8_score_63 (pc' := 66) rfl (cc.2.2.1) (c_X8_firstTextOf l G base hh cc (show 1 ≤ y by omega) hle2 (show q ≤ 9 by omega)) ⟨by decide, by decide, by decide, by decide, by show (va_rf (pT A (fiT σ x q))).category + (1 + (1 + 0)) ≤ 8; rw [cat_rf]; decide⟩ ?_
    rintro _ _ ⟨rfl, rfl⟩
    refine cX8_114 C dX8_score_66 (pc' := 69) rfl (lk) (c_X4_compare l G base hh cc lk (show q < 5 by omega) fb1 fb2) ⟨by decide, by decide, by decide, by decide, Nat.le_of_ble_eq_true rfl⟩ ?_
    rintro _ h2 ⟨rfl, c2, o2, l2⟩
    refine mx_iinc C dX8_score_69 (pc' := 72) rfl rfl (mx_inc _) (by first | exact mx_c1_0 | exact mx_c1_int rfl | exact mx_c1_ref rfl | exact mx_c1_none rfl | exact mx_c1_rf rfl | exact mx_c1_null rfl) (by decide) (lo' := [_, _, _, _, _, _, _]) rfl ?_
    refine mx_goto C dX8_score_72 (tgt := 38) (by decide) ?_
    exact ih _ (by omega) (q + 1) h2 rfl (by omega) c2 (ho.tr o2) l2
  refine mx_iconst C (v := nI 0) (by decide) dX8_score_35 (pc' := 36) rfl ?_
  refine mx_istore C dX8_score_36 (pc' := 38) rfl (by first | exact mx_c1_0 | exact mx_c1_int rfl | exact mx_c1_ref rfl | exact mx_c1_none rfl | exact mx_c1_rf rfl | exact mx_c1_null rfl) (by decide) (lo' := [_, _, _, _, _, _, _]) rfl ?_
  exact loop _ 0 h1 rfl (by omega) c1 o1 l1
theorem c_X8_index (hl : l.stackTraces = false) (h : mx_H) {A : mxA} {σ : mxS} {la ea : Nat → Nat} {mk : Nat → Bool} (c : CI G A h σ la ea mk) {a i : Int32} {r : Nat} (hr0 : ixR (st_n σ) a = r) : mx_MX l G base yX8_index cX8_index 4 (some .int) 7 133 1 6 [.ref (aK A 0), .int a, .int i] h (fun v h' => OUT A σ h h' ∧ (∃ mk', CI G A h' σ la ea mk') ∧ (r = 0 → v = some (.int (-1))) ∧ (r ≠ 0 → ∃ j q, i = nI j ∧ (kl σ r (st_k σ))[j]? = some q ∧ v = some (.int (nI (cntK σ q))))) (fun E h' => E = "java/lang/ArrayIndexOutOfBoundsException" ∧ r ≠ 0 ∧ (i < 0 ∨ nI (kl σ r (st_k σ)).length ≤ i) ∧ (∃ mk', CI G A h' σ la ea mk') ∧ OUT A σ h h') := by
  have hle := @ixR_le (st_n σ) a
  rw [hr0] at hle
  have hk := c.1.2.1
  refine mx_enterX (lo := [some (.ref (aK A 0)), some (.int a), some (.int i), none]) (by decide) (Nat.le_of_ble_eq_true rfl) rfl ?_
  intro p ev s mt args below meth cd C hr hZ hxt
  have C : mx_C p s mt args meth cd cX8_index 4 RX8 G base := C
  first | refine mx_aload_n C dX8_index_0 (pc' := 1) rfl rfl ?_ | refine mx_aload_nq C dX8_index_0 (pc' := 1) rfl rfl ?_
  refine mx_iload_n C dX8_index_1 (pc' := 2) rfl rfl ?_
  refine cX8_183 C dX8_index_2 (pc' := 5) rfl (c.2.2.1) (c_X8_bookOf l G base h c) ⟨by decide, by decide, by decide, by decide, Nat.le_of_ble_eq_true rfl⟩ ?_
  rintro _ _ ⟨rfl, rfl⟩
  first | refine mx_astore_n C dX8_index_5 (pc' := 6) rfl (by first | exact mx_c1_0 | exact mx_c1_int rfl | exact mx_c1_ref rfl | exact mx_c1_none rfl | exact mx_c1_rf rfl | exact mx_c1_null rfl) (by decide) (lo' := [_, _, _, _]) rfl ?_ | refine mx_astore_nq C dX8_index_5 (pc' := 6) rfl (by first | exact mx_c1_0 | exact mx_c1_int rfl | exact mx_c1_ref rfl | exact mx_c1_none rfl | exact mx_c1_rf rfl | exact mx_c1_null rfl) (by decide) (lo' := [_, _, _, _]) rfl ?_
  first | refine mx_aload_n C dX8_index_6 (pc' := 7) rfl rfl ?_ | refine mx_aload_nq C dX8_index_6 (pc' := 7) rfl rfl ?_
  rw [hr0]
  by_cases er : r = 0
  · rw [er, pB_0]
    refine mx_ifnonnull C dX8_index_7 (tgt := 12) (by decide) (pc' := 10) rfl (fun h7_a h7 => ?_) (fun h7 => ?_)
    · cases h7
    refine mx_iconst C (v := (-1)) (by decide) dX8_index_10 (pc' := 11) rfl ?_
    exact mx_toX (mx_iret C hr dX8_index_11 (by omega) (by omega) ⟨OUT.rf, ⟨mk, c⟩, fun _ => rfl, fun z => absurd rfl z⟩)
  rw [pB_s er]
  refine mx_ifnonnull C dX8_index_7 (tgt := 12) (by decide) (pc' := 10) rfl (fun h7_a h7 => ?_) (fun h7 => ?_)
  rotate_left
  · cases h7
  first | refine mx_aload_n C dX8_index_12 (pc' := 13) rfl rfl ?_ | refine mx_aload_nq C dX8_index_12 (pc' := 13) rfl rfl ?_
  first | refine mx_aload_n C dX8_index_13 (pc' := 14) rfl rfl ?_ | refine mx_aload_nq C dX8_index_13 (pc' := 14) rfl rfl ?_
  refine cX8_136 C dX8_index_14 (pc' := 17) rfl (c.2.2.1) (c_X8_collectKeys l G base h c (show 1 ≤ r by omega) hle) ⟨by decide, by decide, by decide, by decide, Nat.le_of_ble_eq_true rfl⟩ ?_
  rintro _ h1 ⟨rfl, c1, o1, k1⟩
  obtain ⟨hv, R, hko, hR⟩ := k1
  have hln := kl_len σ r (st_k σ)
  first | refine mx_aload_n C dX8_index_17 (pc' := 18) rfl rfl ?_ | refine mx_aload_nq C dX8_index_17 (pc' := 18) rfl rfl ?_
  refine gX8_23 C dX8_index_18 (pc' := 21) rfl (c1.2.2.1) rfl ?_
  refine mx_iload_n C dX8_index_21 (pc' := 22) rfl rfl ?_
  refine cX8_186 C dX8_index_22 (pc' := 25) rfl (hko.2.2.1) (c_X3_has l G base h1 hko) ⟨by decide, by decide, by decide, by decide, Nat.le_of_ble_eq_true rfl⟩ ?_
  rintro _ _ ⟨rfl, rfl⟩
  refine mx_B_ne C dX8_index_25 (tgt := 38) (by decide) (pc' := 28) rfl (fun h25 => ?_) (fun h25 => ?_)
  rotate_left
  · refine mx_throw2 C hl hZ hxt dX8_index_28 dX8_index_31 dX8_index_32 dX8_index_34 dX8_index_37 (by decide) (by decide) (by decide) (by decide) (by decide) (by decide) ⟨rfl, er, ?_, ⟨mk, c1⟩, o1⟩
    have z := of_decide_eq_false h25
    rw [Int32.lt_iff_toInt_lt, Int32.le_iff_toInt_le, nI_toInt (by omega), Int32.toInt_zero]
    omega
  have h25 := of_decide_eq_true h25
  obtain ⟨j, hj, ej⟩ : ∃ j : Nat, j < (kl σ r (st_k σ)).length ∧ i = nI j := ⟨i.toInt.toNat, by omega, Int32.toInt_inj.mp (by rw [nI_toInt (by omega)]; omega)⟩
  have eq : (kl σ r (st_k σ))[j]? = some (kl σ r (st_k σ))[j] := List.getElem?_eq_getElem hj
  have hm : (kl σ r (st_k σ))[j] ∈ kl σ r (st_k σ) := List.getElem_mem hj
  have eR : R j = encC (some (kl σ r (st_k σ))[j]) := by rw [hR j hj, eq]
  rw [ej]
  first | refine mx_aload_n C dX8_index_38 (pc' := 39) rfl rfl ?_ | refine mx_aload_nq C dX8_index_38 (pc' := 39) rfl rfl ?_
  first | refine mx_aload_n C dX8_index_39 (pc' := 40) rfl rfl ?_ | refine mx_aload_nq C dX8_index_39 (pc' := 40) rfl rfl ?_
  refine gX8_23 C dX8_index_40 (pc' := 43) rfl (c1.2.2.1) rfl ?_
  refine mx_iload_n C dX8_index_43 (pc' := 44) rfl rfl ?_
  refine cX8_195 C dX8_index_44 (pc' := 47) rfl (hko.2.2.1) (c_X3_get l G base h1 hko hj) ⟨by decide, by decide, by decide, by decide, Nat.le_of_ble_eq_true rfl⟩ ?_
  rintro _ _ ⟨rfl, rfl⟩
  rw [eR]
  refine cX8_199 C dX8_index_47 (pc' := 50) rfl (c1.2.2.1) (c_X8_countHolders l G base h1 c1 (hv _ hm)) ⟨by decide, by decide, by decide, by decide, Nat.le_of_ble_eq_true rfl⟩ ?_
  rintro _ h2 ⟨rfl, c2, o2⟩
  refine mx_toX (mx_iret C hr dX8_index_50 (by omega) (by omega) ⟨o1.tr o2, c2, fun z => absurd z er, fun _ => ⟨j, _, rfl, eq, rfl⟩⟩)
end TS
