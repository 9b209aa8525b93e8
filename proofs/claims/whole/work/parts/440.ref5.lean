/-! the reference: merge, undo, locked, beats, winner -/
theorem narZ (b : Bool) : vp_nar .boolean (mx_b b) = mx_b b := by cases b <;> rfl
theorem ixS_at {σ : mxS} {a : Int32} {r : Nat} (hn : st_n σ ≤ 40) (hr0 : ixS σ a = r) (g1 : r ≠ 0) : a = nI r ∧ r ≤ st_n σ ∧ st_in σ r = 0 := by
  have hr1 : ixS σ a ≠ 0 := by rw [hr0]; exact g1
  obtain ⟨t1, t2⟩ := ixS_top hr1
  have hle := @ixS_le σ a
  rw [hr0] at hle t1
  refine ⟨?_, hle, t1⟩
  rw [t2] at hr1
  have := ixR_eq (by omega) hr1
  rw [← t2, hr0] at this
  exact this
section R5
variable (l : Launch) (G : mx_G) (base : Nat)
set_option maxRecDepth 20000
theorem c_X9_merge (h : mx_H) {P : Nat → Nat} {σ : mxS} {th kc : Int32} {pu pd : Int64} (m : MI G P h σ th kc pu pd) {a b : Int32} {x y : Nat} (hx0 : ixS σ a = x) (hy0 : ixS σ b = y) (hm : st_m σ + 1 < 2 ^ 30) : mx_M l G base yX9_merge cX9_merge 6 (some .int) 2 42 0 0 [.ref (P 0), .int a, .int b] h (fun v h' => OUM P h h' ∧ (x = 0 ∨ y = 0 ∨ x = y ∨ (st_lk σ x = true ∧ st_lk σ y = true) → v = some (.int (nI 0)) ∧ MI G P h' σ (nI 0) kc pu pd) ∧ (¬ (x = 0 ∨ y = 0 ∨ x = y ∨ (st_lk σ x = true ∧ st_lk σ y = true)) → v = some (.int (nI (if ldr σ x y then x else y))) ∧ MI G P h' (su_mg σ (if ldr σ x y then x else y) (if ldr σ x y then y else x)) (nI 0) kc pu pd)) := by
  have hn := m.1.1
  have m1 := m.p0 (nI 0) kc pu pd
  have ho : OUM P h (va_up h (P 0) (some (.inr (9, mm P σ (nI 0) kc pu pd)))) := OUM.up (by decide)
  obtain ⟨R, L, I, W, hR, hL, hI, hW, hok⟩ := m1.2.2.2.1
  refine mx_enter (lo := [some (.ref (P 0)), some (.int a), some (.int b), none, none, none]) (by decide) (mx_in wd_code_yX9_merge rfl) (Nat.le_of_ble_eq_true rfl) rfl ?_
  intro p ev s mt args below meth cd C hr hnm
  have C : mx_C p s mt args meth cd cX9_merge 6 RX9 G base := C
  first | refine mx_aload_n C dX9_merge_0 (pc' := 1) rfl rfl ?_ | refine mx_aload_nq C dX9_merge_0 (pc' := 1) rfl rfl ?_
  refine mx_iconst C (v := nI 0) (by decide) dX9_merge_1 (pc' := 2) rfl ?_
  refine pX9_64 C dX9_merge_2 (pc' := 5) rfl (m.2.2.1) (Nat.le_of_ble_eq_true rfl) rfl rfl (fs' := [_, _, _, _, _, _, _, _, _, _, _, _, _, _, _, _, _, _, _, _, _, _, _, _, _]) rfl ?_
  refine mx_heap (h' := va_up h (P 0) (some (.inr (9, mm P σ (nI 0) kc pu pd)))) rfl ?_
  first | refine mx_aload_n C dX9_merge_5 (pc' := 6) rfl rfl ?_ | refine mx_aload_nq C dX9_merge_5 (pc' := 6) rfl rfl ?_
  refine mx_iload_n C dX9_merge_6 (pc' := 7) rfl rfl ?_
  refine cX9_75 C dX9_merge_7 (pc' := 10) rfl (m1.2.2.1) (c_X9_isTop l G base _ m1) ⟨by decide, by decide, by decide, by decide, Nat.le_of_ble_eq_true rfl⟩ ?_
  rintro _ _ ⟨rfl, rfl⟩
  rw [hx0]
  refine mx_B_eq C dX9_merge_10 (tgt := 44) (by decide) (pc' := 13) rfl (fun g1 => ?_) (fun g1 => ?_)
  · skip
    refine mx_iconst C (v := nI 0) (by decide) dX9_merge_44 (pc' := 45) rfl ?_
    exact mx_iret C hr dX9_merge_45 (by omega) (by omega) (⟨ho, fun _ => ⟨rfl, m1⟩, fun z => absurd (Or.inl (Decidable.not_not.mp (of_decide_eq_false g1))) z⟩)
  have g1 := of_decide_eq_true g1
  first | refine mx_aload_n C dX9_merge_13 (pc' := 14) rfl rfl ?_ | refine mx_aload_nq C dX9_merge_13 (pc' := 14) rfl rfl ?_
  refine mx_iload_n C dX9_merge_14 (pc' := 15) rfl rfl ?_
  refine cX9_75 C dX9_merge_15 (pc' := 18) rfl (m1.2.2.1) (c_X9_isTop l G base _ m1) ⟨by decide, by decide, by decide, by decide, Nat.le_of_ble_eq_true rfl⟩ ?_
  rintro _ _ ⟨rfl, rfl⟩
  rw [hy0]
  refine mx_B_eq C dX9_merge_18 (tgt := 44) (by decide) (pc' := 21) rfl (fun g2 => ?_) (fun g2 => ?_)
  · skip
    refine mx_iconst C (v := nI 0) (by decide) dX9_merge_44 (pc' := 45) rfl ?_
    exact mx_iret C hr dX9_merge_45 (by omega) (by omega) (⟨ho, fun _ => ⟨rfl, m1⟩, fun z => absurd (Or.inr (Or.inl (Decidable.not_not.mp (of_decide_eq_false g2)))) z⟩)
  have g2 := of_decide_eq_true g2
  obtain ⟨ea, x2, x3⟩ := ixS_at hn hx0 g1
  obtain ⟨eb, y2, y3⟩ := ixS_at hn hy0 g2
  subst ea
  subst eb
  refine mx_iload_n C dX9_merge_21 (pc' := 22) rfl rfl ?_
  refine mx_iload_n C dX9_merge_22 (pc' := 23) rfl rfl ?_
  refine mx_N_eq C dX9_merge_23 (tgt := 44) (by decide) (pc' := 26) rfl (by omega) (by omega) (fun g3 => ?_) (fun g3 => ?_)
  · skip
    refine mx_iconst C (v := nI 0) (by decide) dX9_merge_44 (pc' := 45) rfl ?_
    exact mx_iret C hr dX9_merge_45 (by omega) (by omega) (⟨ho, fun _ => ⟨rfl, m1⟩, fun z => absurd (Or.inr (Or.inr (Or.inl g3))) z⟩)
  obtain ⟨ox1, ox2, ox3, ox4⟩ := hok x (by omega) (by omega)
  obtain ⟨oy1, oy2, oy3, oy4⟩ := hok y (by omega) (by omega)
  have ox1 := ox1 x2
  have oy1 := oy1 y2
  have k109 : ∀ w g : Nat, ¬ (x = 0 ∨ y = 0 ∨ x = y ∨ (st_lk σ x = true ∧ st_lk σ y = true)) → w = (if ldr σ x y then x else y) → g = (if ldr σ x y then y else x) → mx_V p l ev { frames := 2, cells := 0, slots := 0, locals := 42 } s mt args below meth cd G base 6 (MQ below (mx_Qc G base (fun v h' => OUM P h h' ∧ (x = 0 ∨ y = 0 ∨ x = y ∨ (st_lk σ x = true ∧ st_lk σ y = true) → v = some (.int (nI 0)) ∧ MI G P h' σ (nI 0) kc pu pd) ∧ (¬ (x = 0 ∨ y = 0 ∨ x = y ∨ (st_lk σ x = true ∧ st_lk σ y = true)) → v = some (.int (nI (if ldr σ x y then x else y))) ∧ MI G P h' (su_mg σ (if ldr σ x y then x else y) (if ldr σ x y then y else x)) (nI 0) kc pu pd))) args s 0 0 (mx_A base)) (va_up h (P 0) (some (.inr (9, mm P σ (nI 0) kc pu pd)))) 0 0 109 [some (.ref (P 0)), some (.int (nI x)), some (.int (nI y)), some (.int (mx_b (ldr σ x y))), some (.int (nI w)), some (.int (nI g))] [] := by
    intro w g hno hw hg
    rw [← hw, ← hg]
    have hwg : 1 ≤ w ∧ w ≤ st_n σ ∧ 1 ≤ g ∧ g ≤ st_n σ ∧ st_in σ w = 0 ∧ st_in σ g = 0 ∧ w ≠ g := by
      rw [hw, hg]
      split
      · exact ⟨by omega, x2, by omega, y2, x3, y3, g3⟩
      · exact ⟨by omega, y2, by omega, x2, y3, x3, fun z => g3 z.symm⟩
    obtain ⟨w1, w2, v1, v2, w3, v3, hne⟩ := hwg
    first | refine mx_aload_n C dX9_merge_109 (pc' := 110) rfl rfl ?_ | refine mx_aload_nq C dX9_merge_109 (pc' := 110) rfl rfl ?_
    refine mx_dup C rfl dX9_merge_110 (pc' := 111) rfl ?_
    refine gX9_175 C dX9_merge_111 (pc' := 114) rfl (m1.2.2.1) rfl ?_
    refine mx_iconst C (v := nI 1) (by decide) dX9_merge_114 (pc' := 115) rfl ?_
    refine mx_iadd C dX9_merge_115 (pc' := 116) rfl ?_
    rw [nI_add]
    refine pX9_175 C dX9_merge_116 (pc' := 119) rfl (m1.2.2.1) (Nat.le_of_ble_eq_true rfl) rfl rfl (fs' := [_, _, _, _, _, _, _, _, _, _, _, _, _, _, _, _, _, _, _, _, _, _, _, _, _]) rfl ?_
    refine mx_heap (bx_uu _ _ _ _) ?_
    refine mx_heap (h' := va_up h (P 0) (some (.inr (9, mm P (su_mg σ w g) (nI 0) kc pu pd)))) rfl ?_
    have m4 := m.2.2.2.1
    have ne : ∀ j, 1 ≤ j → j < 18 → P j ≠ P 0 := fun j j1 j2 => m.2.1.ne j2 (by decide) (by omega)
    have E0 : va_up h (P 0) (some (.inr (9, mm P (su_mg σ w g) (nI 0) kc pu pd))) (P 0) = some (.inr (9, mm P (su_mg σ w g) (nI 0) kc pu pd)) := va_up_self _ _ _
    have hI' : h (P 3) = some (.inl (G.2 0, 41, .inl I)) := by rw [va_up_ne _ _ (ne 3 (by decide) (by decide))] at hI; exact hI
    have hW' : h (P 4) = some (.inl (G.2 0, 41, .inl W)) := by rw [va_up_ne _ _ (ne 4 (by decide) (by decide))] at hW; exact hW
    have hR' : h (P 1) = some (.inl (G.2 0, 41, .inl R)) := by rw [va_up_ne _ _ (ne 1 (by decide) (by decide))] at hR; exact hR
    have hL' : h (P 2) = some (.inl (G.2 4, 41, .inl L)) := by rw [va_up_ne _ _ (ne 2 (by decide) (by decide))] at hL; exact hL
    have E3 : va_up h (P 0) (some (.inr (9, mm P (su_mg σ w g) (nI 0) kc pu pd))) (P 3) = some (.inl (G.2 0, 41, .inl I)) := by rw [va_up_ne _ _ (ne 3 (by decide) (by decide))]; exact hI'
    first | refine mx_aload_n C dX9_merge_119 (pc' := 120) rfl rfl ?_ | refine mx_aload_nq C dX9_merge_119 (pc' := 120) rfl rfl ?_
    refine gX9_17 C dX9_merge_120 (pc' := 123) rfl (E0) rfl ?_
    refine mx_iload C dX9_merge_123 (pc' := 125) rfl rfl ?_
    refine mx_iload C dX9_merge_125 (pc' := 127) rfl rfl ?_
    refine mx_iast C dX9_merge_127 (pc' := 128) rfl (E3) (rfl) (show g < 41 by omega) (by decide) ?_
    have E1 : ∀ z, va_up (va_up h (P 0) (some (.inr (9, mm P (su_mg σ w g) (nI 0) kc pu pd)))) (P 3) z (P 0) = some (.inr (9, mm P (su_mg σ w g) (nI 0) kc pu pd)) := fun z => by rw [va_up_ne _ _ (fun z => ne 3 (by decide) (by decide) z.symm)]; exact E0
    have E4 : ∀ z, va_up (va_up h (P 0) (some (.inr (9, mm P (su_mg σ w g) (nI 0) kc pu pd)))) (P 3) z (P 4) = some (.inl (G.2 0, 41, .inl W)) := fun z => by rw [va_up_ne _ _ (m.2.1.ne (by decide) (by decide) (by decide)), va_up_ne _ _ (ne 4 (by decide) (by decide))]; exact hW'
    first | refine mx_aload_n C dX9_merge_128 (pc' := 129) rfl rfl ?_ | refine mx_aload_nq C dX9_merge_128 (pc' := 129) rfl rfl ?_
    refine gX9_20 C dX9_merge_129 (pc' := 132) rfl (E1 _) rfl ?_
    refine mx_iload C dX9_merge_132 (pc' := 134) rfl rfl ?_
    first | refine mx_aload_n C dX9_merge_134 (pc' := 135) rfl rfl ?_ | refine mx_aload_nq C dX9_merge_134 (pc' := 135) rfl rfl ?_
    refine gX9_175 C dX9_merge_135 (pc' := 138) rfl (E1 _) rfl ?_
    refine mx_iast C dX9_merge_138 (pc' := 139) rfl (E4 _) (rfl) (show g < 41 by omega) (by decide) ?_
    have e : ∀ j, j < 18 → j ≠ 0 → j ≠ 3 → j ≠ 4 → ∀ z w q, va_up (va_up (va_up h (P 0) z) (P 3) w) (P 4) q (P j) = h (P j) := fun j hj h0 h5 h6 z w q => by rw [va_up_ne _ _ (m.2.1.ne hj (by decide) h6), va_up_ne _ _ (m.2.1.ne hj (by decide) h5), va_up_ne _ _ (m.2.1.ne hj (by decide) h0)]
    refine mx_iload C dX9_merge_139 (pc' := 141) rfl rfl ?_
    refine mx_iret C hr dX9_merge_141 (by omega) (by omega) ⟨((OUM.up (by decide)).tr (OUM.up (by decide))).tr (OUM.up (by decide)), fun z => absurd z hno, fun _ => ⟨rfl, si_mg m.1 w1 w2 v1 v2 w3 v3 hne hm, m.2.1, by rw [va_up_ne _ _ (fun z => ne 4 (by decide) (by decide) z.symm)]; exact E1 _, ⟨R, L, _, _, (e 1 (by decide) (by decide) (by decide) (by decide) _ _ _).trans hR', (e 2 (by decide) (by decide) (by decide) (by decide) _ _ _).trans hL', by rw [va_up_ne _ _ (m.2.1.ne (by decide) (by decide) (by decide)), va_up_self], va_up_self _ _ _, fun r r1 r2 => ?_⟩, m.2.2.2.2.1.kept (fun j _ _ => e j (by omega) (by omega) (by omega) (by omega) _ _ _), m.2.2.2.2.2.1.kept (fun j _ _ => e j (by omega) (by omega) (by omega) (by omega) _ _ _), m.2.2.2.2.2.2.kept (fun j _ _ => e j (by omega) (by omega) (by omega) (by omega) _ _ _)⟩⟩
    obtain ⟨p1, p2, p3, p4⟩ := hok r r1 r2
    refine ⟨p1, p2, ?_, ?_⟩
    · by_cases e1 : r = g
      · rw [e1, pk_us, mg_ins]
      · rw [pk_un e1, mg_inn e1]; exact p3
    · by_cases e1 : r = g
      · rw [e1, pk_us, mg_whs]; rfl
      · rw [pk_un e1, mg_whn e1]; exact p4
  have k86 : ∀ X : Bool, X = ldr σ x y → ¬ (x = 0 ∨ y = 0 ∨ x = y ∨ (st_lk σ x = true ∧ st_lk σ y = true)) → mx_V p l ev { frames := 2, cells := 0, slots := 0, locals := 42 } s mt args below meth cd G base 6 (MQ below (mx_Qc G base (fun v h' => OUM P h h' ∧ (x = 0 ∨ y = 0 ∨ x = y ∨ (st_lk σ x = true ∧ st_lk σ y = true) → v = some (.int (nI 0)) ∧ MI G P h' σ (nI 0) kc pu pd) ∧ (¬ (x = 0 ∨ y = 0 ∨ x = y ∨ (st_lk σ x = true ∧ st_lk σ y = true)) → v = some (.int (nI (if ldr σ x y then x else y))) ∧ MI G P h' (su_mg σ (if ldr σ x y then x else y) (if ldr σ x y then y else x)) (nI 0) kc pu pd))) args s 0 0 (mx_A base)) (va_up h (P 0) (some (.inr (9, mm P σ (nI 0) kc pu pd)))) 0 0 86 [some (.ref (P 0)), some (.int (nI x)), some (.int (nI y)), none, none, none] [.int (mx_b X)] := by
    intro X hX hno
    subst hX
    refine mx_istore_n C dX9_merge_86 (pc' := 87) rfl (by first | exact mx_c1_0 | exact mx_c1_int rfl | exact mx_c1_ref rfl | exact mx_c1_none rfl | exact mx_c1_rf rfl | exact mx_c1_null rfl) (by decide) (lo' := [_, _, _, _, _, _]) rfl ?_
    refine mx_iload_n C dX9_merge_87 (pc' := 88) rfl rfl ?_
    refine mx_B_eq C dX9_merge_88 (tgt := 95) (by decide) (pc' := 91) rfl (fun g5 => ?_) (fun g5 => ?_)
    · skip
      refine mx_iload_n C dX9_merge_95 (pc' := 96) rfl rfl ?_
      refine mx_istore C dX9_merge_96 (pc' := 98) rfl (by first | exact mx_c1_0 | exact mx_c1_int rfl | exact mx_c1_ref rfl | exact mx_c1_none rfl | exact mx_c1_rf rfl | exact mx_c1_null rfl) (by decide) (lo' := [_, _, _, _, _, _]) rfl ?_
      refine mx_iload_n C dX9_merge_98 (pc' := 99) rfl rfl ?_
      refine mx_B_eq C dX9_merge_99 (tgt := 106) (by decide) (pc' := 102) rfl (fun g6 => ?_) (fun g6 => ?_)
      · skip
        refine mx_iload_n C dX9_merge_106 (pc' := 107) rfl rfl ?_
        refine mx_istore C dX9_merge_107 (pc' := 109) rfl (by first | exact mx_c1_0 | exact mx_c1_int rfl | exact mx_c1_ref rfl | exact mx_c1_none rfl | exact mx_c1_rf rfl | exact mx_c1_null rfl) (by decide) (lo' := [_, _, _, _, _, _]) rfl ?_
        exact k109 y x hno (by rw [g5]; rfl) (by rw [g5]; rfl)
      · rw [g5] at g6; cases g6
    · skip
      refine mx_iload_n C dX9_merge_91 (pc' := 92) rfl rfl ?_
      refine mx_goto C dX9_merge_92 (tgt := 96) (by decide) ?_
      refine mx_istore C dX9_merge_96 (pc' := 98) rfl (by first | exact mx_c1_0 | exact mx_c1_int rfl | exact mx_c1_ref rfl | exact mx_c1_none rfl | exact mx_c1_rf rfl | exact mx_c1_null rfl) (by decide) (lo' := [_, _, _, _, _, _]) rfl ?_
      refine mx_iload_n C dX9_merge_98 (pc' := 99) rfl rfl ?_
      refine mx_B_eq C dX9_merge_99 (tgt := 106) (by decide) (pc' := 102) rfl (fun g6 => ?_) (fun g6 => ?_)
      · rw [g5] at g6; cases g6
      · skip
        refine mx_iload_n C dX9_merge_102 (pc' := 103) rfl rfl ?_
        refine mx_goto C dX9_merge_103 (tgt := 107) (by decide) ?_
        refine mx_istore C dX9_merge_107 (pc' := 109) rfl (by first | exact mx_c1_0 | exact mx_c1_int rfl | exact mx_c1_ref rfl | exact mx_c1_none rfl | exact mx_c1_rf rfl | exact mx_c1_null rfl) (by decide) (lo' := [_, _, _, _, _, _]) rfl ?_
        exact k109 x y hno (by rw [g5]; rfl) (by rw [g5]; rfl)
  have k46 : ¬ (x = 0 ∨ y = 0 ∨ x = y ∨ (st_lk σ x = true ∧ st_lk σ y = true)) → mx_V p l ev { frames := 2, cells := 0, slots := 0, locals := 42 } s mt args below meth cd G base 6 (MQ below (mx_Qc G base (fun v h' => OUM P h h' ∧ (x = 0 ∨ y = 0 ∨ x = y ∨ (st_lk σ x = true ∧ st_lk σ y = true) → v = some (.int (nI 0)) ∧ MI G P h' σ (nI 0) kc pu pd) ∧ (¬ (x = 0 ∨ y = 0 ∨ x = y ∨ (st_lk σ x = true ∧ st_lk σ y = true)) → v = some (.int (nI (if ldr σ x y then x else y))) ∧ MI G P h' (su_mg σ (if ldr σ x y then x else y) (if ldr σ x y then y else x)) (nI 0) kc pu pd))) args s 0 0 (mx_A base)) (va_up h (P 0) (some (.inr (9, mm P σ (nI 0) kc pu pd)))) 0 0 46 [some (.ref (P 0)), some (.int (nI x)), some (.int (nI y)), none, none, none] [] := by
    intro hno
    first | refine mx_aload_n C dX9_merge_46 (pc' := 47) rfl rfl ?_ | refine mx_aload_nq C dX9_merge_46 (pc' := 47) rfl rfl ?_
    refine gX9_7 C dX9_merge_47 (pc' := 50) rfl (m1.2.2.1) rfl ?_
    refine mx_iload_n C dX9_merge_50 (pc' := 51) rfl rfl ?_
    refine mx_iald C dX9_merge_51 (pc' := 52) rfl (hR) (rfl) (show x < 41 by omega) (by decide) ?_
    rw [ox1]
    first | refine mx_aload_n C dX9_merge_52 (pc' := 53) rfl rfl ?_ | refine mx_aload_nq C dX9_merge_52 (pc' := 53) rfl rfl ?_
    refine gX9_7 C dX9_merge_53 (pc' := 56) rfl (m1.2.2.1) rfl ?_
    refine mx_iload_n C dX9_merge_56 (pc' := 57) rfl rfl ?_
    refine mx_iald C dX9_merge_57 (pc' := 58) rfl (hR) (rfl) (show y < 41 by omega) (by decide) ?_
    rw [oy1]
    refine mx_icmp_gt C dX9_merge_58 (tgt := 81) (by decide) (pc' := 61) rfl (fun g5 => ?_) (fun g5 => ?_)
    · skip
      refine mx_iconst C (v := nI 1) (by decide) dX9_merge_81 (pc' := 82) rfl ?_
      refine mx_goto C dX9_merge_82 (tgt := 86) (by decide) ?_
      exact k86 true (show ldr σ x y = true from decide_eq_true (Or.inl g5)).symm hno
    first | refine mx_aload_n C dX9_merge_61 (pc' := 62) rfl rfl ?_ | refine mx_aload_nq C dX9_merge_61 (pc' := 62) rfl rfl ?_
    refine gX9_7 C dX9_merge_62 (pc' := 65) rfl (m1.2.2.1) rfl ?_
    refine mx_iload_n C dX9_merge_65 (pc' := 66) rfl rfl ?_
    refine mx_iald C dX9_merge_66 (pc' := 67) rfl (hR) (rfl) (show x < 41 by omega) (by decide) ?_
    rw [ox1]
    first | refine mx_aload_n C dX9_merge_67 (pc' := 68) rfl rfl ?_ | refine mx_aload_nq C dX9_merge_67 (pc' := 68) rfl rfl ?_
    refine gX9_7 C dX9_merge_68 (pc' := 71) rfl (m1.2.2.1) rfl ?_
    refine mx_iload_n C dX9_merge_71 (pc' := 72) rfl rfl ?_
    refine mx_iald C dX9_merge_72 (pc' := 73) rfl (hR) (rfl) (show y < 41 by omega) (by decide) ?_
    rw [oy1]
    refine mx_icmp_ne C dX9_merge_73 (tgt := 85) (by decide) (pc' := 76) rfl (fun g6 => ?_) (fun g6 => ?_)
    · skip
      refine mx_iconst C (v := nI 0) (by decide) dX9_merge_85 (pc' := 86) rfl ?_
      exact k86 false (show ldr σ x y = false from decide_eq_false (fun z => z.elim g5 (fun z => g6 z.1))).symm hno
    refine mx_iload_n C dX9_merge_76 (pc' := 77) rfl rfl ?_
    refine mx_iload_n C dX9_merge_77 (pc' := 78) rfl rfl ?_
    refine mx_N_ge C dX9_merge_78 (tgt := 85) (by decide) (pc' := 81) rfl (by omega) (by omega) (fun g7 => ?_) (fun g7 => ?_)
    · skip
      refine mx_iconst C (v := nI 0) (by decide) dX9_merge_85 (pc' := 86) rfl ?_
      exact k86 false (show ldr σ x y = false from decide_eq_false (fun z => z.elim g5 (fun z => absurd z.2 (by omega)))).symm hno
    · skip
      refine mx_iconst C (v := nI 1) (by decide) dX9_merge_81 (pc' := 82) rfl ?_
      refine mx_goto C dX9_merge_82 (tgt := 86) (by decide) ?_
      exact k86 true (show ldr σ x y = true from decide_eq_true (Or.inr ⟨g6, by omega⟩)).symm hno
  first | refine mx_aload_n C dX9_merge_26 (pc' := 27) rfl rfl ?_ | refine mx_aload_nq C dX9_merge_26 (pc' := 27) rfl rfl ?_
  refine gX9_13 C dX9_merge_27 (pc' := 30) rfl (m1.2.2.1) rfl ?_
  refine mx_iload_n C dX9_merge_30 (pc' := 31) rfl rfl ?_
  refine mx_zald C dX9_merge_31 (pc' := 32) rfl hL rfl (show x < 41 by omega) (by decide) ?_
  rw [ox2]
  refine mx_B_eq C dX9_merge_32 (tgt := 46) (by decide) (pc' := 35) rfl (fun g4 => ?_) (fun g4 => ?_)
  · exact k46 (by rw [g4]; rintro (z | z | z | z); exact g1 z; exact g2 z; exact g3 z; cases z.1)
  first | refine mx_aload_n C dX9_merge_35 (pc' := 36) rfl rfl ?_ | refine mx_aload_nq C dX9_merge_35 (pc' := 36) rfl rfl ?_
  refine gX9_13 C dX9_merge_36 (pc' := 39) rfl (m1.2.2.1) rfl ?_
  refine mx_iload_n C dX9_merge_39 (pc' := 40) rfl rfl ?_
  refine mx_zald C dX9_merge_40 (pc' := 41) rfl hL rfl (show y < 41 by omega) (by decide) ?_
  rw [oy2]
  refine mx_B_eq C dX9_merge_41 (tgt := 46) (by decide) (pc' := 44) rfl (fun g5 => ?_) (fun g5 => ?_)
  · exact k46 (by rw [g5]; rintro (z | z | z | z); exact g1 z; exact g2 z; exact g3 z; cases z.2)
  · skip
    refine mx_iconst C (v := nI 0) (by decide) dX9_merge_44 (pc' := 45) rfl ?_
    exact mx_iret C hr dX9_merge_45 (by omega) (by omega) (⟨ho, fun _ => ⟨rfl, m1⟩, fun z => absurd (Or.inr (Or.inr (Or.inr ⟨g4, g5⟩))) z⟩)
theorem c_X9_undo (h : mx_H) {P : Nat → Nat} {σ : mxS} {th kc : Int32} {pu pd : Int64} (m : MI G P h σ th kc pu pd) {a : Int32} {x : Nat} (hx0 : ixS σ a = x) : mx_M l G base yX9_undo cX9_undo 4 (some .int) 2 42 0 0 [.ref (P 0), .int a] h (fun v h' => OUM P h h' ∧ (x = 0 ∨ (∀ q, 1 ≤ q → q ≤ st_n σ → st_in σ q ≠ x) → v = some (.int (nI 0)) ∧ MI G P h' σ (nI 0) kc pu pd) ∧ (x ≠ 0 → ∀ g, 1 ≤ g → g ≤ st_n σ → st_in σ g = x → (∀ q, 1 ≤ q → q ≤ st_n σ → st_in σ q = x → st_wh σ q ≤ st_wh σ g) → v = some (.int (nI 1)) ∧ MI G P h' (su_un σ g) (nI 0) kc pu pd)) := by
  have hn := m.1.1
  have hs := m.1.2.2.2.2.1
  have hm := m.1.2.2.1
  have m1 := m.p0 (nI 0) kc pu pd
  have ho : OUM P h (va_up h (P 0) (some (.inr (9, mm P σ (nI 0) kc pu pd)))) := OUM.up (by decide)
  obtain ⟨R, L, I, W, hR, hL, hI, hW, hok⟩ := m1.2.2.2.1
  refine mx_enter (lo := [some (.ref (P 0)), some (.int a), none, none]) (by decide) (mx_in wd_code_yX9_undo rfl) (Nat.le_of_ble_eq_true rfl) rfl ?_
  intro p ev s mt args below meth cd C hr hnm
  have C : mx_C p s mt args meth cd cX9_undo 4 RX9 G base := C
  first | refine mx_aload_n C dX9_undo_0 (pc' := 1) rfl rfl ?_ | refine mx_aload_nq C dX9_undo_0 (pc' := 1) rfl rfl ?_
  refine mx_iconst C (v := nI 0) (by decide) dX9_undo_1 (pc' := 2) rfl ?_
  refine pX9_64 C dX9_undo_2 (pc' := 5) rfl (m.2.2.1) (Nat.le_of_ble_eq_true rfl) rfl rfl (fs' := [_, _, _, _, _, _, _, _, _, _, _, _, _, _, _, _, _, _, _, _, _, _, _, _, _]) rfl ?_
  refine mx_heap (h' := va_up h (P 0) (some (.inr (9, mm P σ (nI 0) kc pu pd)))) rfl ?_
  first | refine mx_aload_n C dX9_undo_5 (pc' := 6) rfl rfl ?_ | refine mx_aload_nq C dX9_undo_5 (pc' := 6) rfl rfl ?_
  refine mx_iload_n C dX9_undo_6 (pc' := 7) rfl rfl ?_
  refine cX9_75 C dX9_undo_7 (pc' := 10) rfl (m1.2.2.1) (c_X9_isTop l G base _ m1) ⟨by decide, by decide, by decide, by decide, Nat.le_of_ble_eq_true rfl⟩ ?_
  rintro _ _ ⟨rfl, rfl⟩
  rw [hx0]
  refine mx_B_ne C dX9_undo_10 (tgt := 15) (by decide) (pc' := 13) rfl (fun g1 => ?_) (fun g1 => ?_)
  rotate_left
  · skip
    refine mx_iconst C (v := nI 0) (by decide) dX9_undo_13 (pc' := 14) rfl ?_
    exact mx_iret C hr dX9_undo_14 (by omega) (by omega) (⟨ho, fun _ => ⟨rfl, m1⟩, fun z => absurd (Decidable.not_not.mp (of_decide_eq_false g1)) z⟩)
  have g1 := of_decide_eq_true g1
  obtain ⟨ea, x2, x3⟩ := ixS_at hn hx0 g1
  subst ea
  have m3 := m1.2.2.1
  have loop : ∀ (d j b : Nat), st_n σ - j = d → j ≤ st_n σ → b ≤ j → (b = 0 → ∀ q, 1 ≤ q → q ≤ j → st_in σ q ≠ x) → (b ≠ 0 → st_in σ b = x ∧ ∀ q, 1 ≤ q → q ≤ j → st_in σ q = x → st_wh σ q ≤ st_wh σ b) → mx_V p l ev { frames := 2, cells := 0, slots := 0, locals := 42 } s mt args below meth cd G base 4 (MQ below (mx_Qc G base (fun v h' => OUM P h h' ∧ (x = 0 ∨ (∀ q, 1 ≤ q → q ≤ st_n σ → st_in σ q ≠ x) → v = some (.int (nI 0)) ∧ MI G P h' σ (nI 0) kc pu pd) ∧ (x ≠ 0 → ∀ g, 1 ≤ g → g ≤ st_n σ → st_in σ g = x → (∀ q, 1 ≤ q → q ≤ st_n σ → st_in σ q = x → st_wh σ q ≤ st_wh σ g) → v = some (.int (nI 1)) ∧ MI G P h' (su_un σ g) (nI 0) kc pu pd))) args s 0 0 (mx_A base)) (va_up h (P 0) (some (.inr (9, mm P σ (nI 0) kc pu pd)))) 0 0 19 [some (.ref (P 0)), some (.int (nI x)), some (.int (nI b)), some (.int (nI (j + 1)))] [] := by
    intro d
    induction d using Nat.strongRecOn with
    | ind d ih =>
    intro j b hd hj hb hb0 hb1
    refine mx_iload_n C dX9_undo_19 (pc' := 20) rfl rfl ?_
    first | refine mx_aload_n C dX9_undo_20 (pc' := 21) rfl rfl ?_ | refine mx_aload_nq C dX9_undo_20 (pc' := 21) rfl rfl ?_
    refine gX9_68 C dX9_undo_21 (pc' := 24) rfl (m3) rfl ?_
    refine mx_N_gt C dX9_undo_24 (tgt := 68) (by decide) (pc' := 27) rfl (by omega) (by omega) (fun g2 => ?_) (fun g2 => ?_)
    · have e1 : j = st_n σ := by omega
      subst e1
      refine mx_iload_n C dX9_undo_68 (pc' := 69) rfl rfl ?_
      refine mx_N0_ne C dX9_undo_69 (tgt := 74) (by decide) (pc' := 72) rfl (by omega) (fun g3 => ?_) (fun g3 => ?_)
      rotate_left
      · skip
        refine mx_iconst C (v := nI 0) (by decide) dX9_undo_72 (pc' := 73) rfl ?_
        exact mx_iret C hr dX9_undo_73 (by omega) (by omega) (⟨ho, fun _ => ⟨rfl, m1⟩, fun _ g u1 u2 u3 _ => absurd u3 (hb0 g3 g u1 u2)⟩)
      obtain ⟨c1, c2⟩ := hb1 g3
      first | refine mx_aload_n C dX9_undo_74 (pc' := 75) rfl rfl ?_ | refine mx_aload_nq C dX9_undo_74 (pc' := 75) rfl rfl ?_
      refine gX9_17 C dX9_undo_75 (pc' := 78) rfl (m3) rfl ?_
      refine mx_iload_n C dX9_undo_78 (pc' := 79) rfl rfl ?_
      refine mx_iconst C (v := nI 0) (by decide) dX9_undo_79 (pc' := 80) rfl ?_
      refine mx_iast C dX9_undo_80 (pc' := 81) rfl (hI) (rfl) (show b < 41 by omega) (by decide) ?_
      have e : ∀ j, j < 18 → j ≠ 3 → ∀ w, va_up (va_up h (P 0) (some (.inr (9, mm P σ (nI 0) kc pu pd)))) (P 3) w (P j) = va_up h (P 0) (some (.inr (9, mm P σ (nI 0) kc pu pd))) (P j) := fun j hj h5 w => by rw [va_up_ne _ _ (m.2.1.ne hj (by decide) h5)]
      refine mx_iconst C (v := nI 1) (by decide) dX9_undo_81 (pc' := 82) rfl ?_
      refine mx_iret C hr dX9_undo_82 (by omega) (by omega) ⟨ho.tr (OUM.up (by decide)), fun z => ?_, fun _ g u1 u2 u3 u4 => ?_⟩
      · exfalso
        rcases z with z | z
        · exact g1 z
        · exact z b (by omega) (by omega) c1
      · have eg : b = g := by
          have h1 := c2 g u1 u2 u3
          have h2 := u4 b (by omega) (by omega) c1
          exact hs.2.1 b g (by omega) (by omega) u1 u2 (by rw [c1]; exact g1) (by rw [u3]; exact g1) (by omega)
        subst eg
        refine ⟨rfl, si_un m.1, m.2.1, (e 0 (by decide) (by decide) _).trans m3, ⟨R, L, _, W, (e 1 (by decide) (by decide) _).trans hR, (e 2 (by decide) (by decide) _).trans hL, va_up_self _ _ _, (e 4 (by decide) (by decide) _).trans hW, fun r r1 r2 => ?_⟩, m1.2.2.2.2.1.kept (fun j _ _ => e j (by omega) (by omega) _), m1.2.2.2.2.2.1.kept (fun j _ _ => e j (by omega) (by omega) _), m1.2.2.2.2.2.2.kept (fun j _ _ => e j (by omega) (by omega) _)⟩
        obtain ⟨p1, p2, p3, p4⟩ := hok r r1 r2
        refine ⟨p1, p2, ?_, p4⟩
        by_cases e1 : r = b
        · rw [e1, pk_us, un_ins]
        · rw [pk_un e1, un_inn e1]; exact p3
    obtain ⟨-, -, o3, o4⟩ := hok (j + 1) (by omega) (by omega)
    obtain ⟨i1, i2⟩ := hs.1 (j + 1) (by omega) g2
    have k60 : (st_in σ (j + 1) = x → b ≠ 0 ∧ st_wh σ (j + 1) ≤ st_wh σ b) → mx_V p l ev { frames := 2, cells := 0, slots := 0, locals := 42 } s mt args below meth cd G base 4 (MQ below (mx_Qc G base (fun v h' => OUM P h h' ∧ (x = 0 ∨ (∀ q, 1 ≤ q → q ≤ st_n σ → st_in σ q ≠ x) → v = some (.int (nI 0)) ∧ MI G P h' σ (nI 0) kc pu pd) ∧ (x ≠ 0 → ∀ g, 1 ≤ g → g ≤ st_n σ → st_in σ g = x → (∀ q, 1 ≤ q → q ≤ st_n σ → st_in σ q = x → st_wh σ q ≤ st_wh σ g) → v = some (.int (nI 1)) ∧ MI G P h' (su_un σ g) (nI 0) kc pu pd))) args s 0 0 (mx_A base)) (va_up h (P 0) (some (.inr (9, mm P σ (nI 0) kc pu pd)))) 0 0 60 [some (.ref (P 0)), some (.int (nI x)), some (.int (nI b)), some (.int (nI (j + 1)))] [] := by
      intro hc
      refine mx_iload_n C dX9_undo_60 (pc' := 61) rfl rfl ?_
      refine mx_istore_n C dX9_undo_61 (pc' := 62) rfl (by first | exact mx_c1_0 | exact mx_c1_int rfl | exact mx_c1_ref rfl | exact mx_c1_none rfl | exact mx_c1_rf rfl | exact mx_c1_null rfl) (by decide) (lo' := [_, _, _, _]) rfl ?_
      refine mx_iinc C dX9_undo_62 (pc' := 65) rfl rfl (mx_inc _) (by first | exact mx_c1_0 | exact mx_c1_int rfl | exact mx_c1_ref rfl | exact mx_c1_none rfl | exact mx_c1_rf rfl | exact mx_c1_null rfl) (by decide) (lo' := [_, _, _, _]) rfl ?_
      refine mx_goto C dX9_undo_65 (tgt := 19) (by decide) ?_
      refine ih _ (by omega) (j + 1) b rfl g2 (by omega) (fun z q q1 q2 => ?_) (fun z => ⟨(hb1 z).1, fun q q1 q2 q3 => ?_⟩)
      · by_cases e : q = j + 1
        · rw [e]; exact fun w => (hc w).1 z
        · exact hb0 z q q1 (by omega)
      · by_cases e : q = j + 1
        · rw [e]; rw [e] at q3; exact (hc q3).2
        · exact (hb1 z).2 q q1 (by omega) q3
    have k56 : st_in σ (j + 1) = x → (b ≠ 0 → st_wh σ b < st_wh σ (j + 1)) → mx_V p l ev { frames := 2, cells := 0, slots := 0, locals := 42 } s mt args below meth cd G base 4 (MQ below (mx_Qc G base (fun v h' => OUM P h h' ∧ (x = 0 ∨ (∀ q, 1 ≤ q → q ≤ st_n σ → st_in σ q ≠ x) → v = some (.int (nI 0)) ∧ MI G P h' σ (nI 0) kc pu pd) ∧ (x ≠ 0 → ∀ g, 1 ≤ g → g ≤ st_n σ → st_in σ g = x → (∀ q, 1 ≤ q → q ≤ st_n σ → st_in σ q = x → st_wh σ q ≤ st_wh σ g) → v = some (.int (nI 1)) ∧ MI G P h' (su_un σ g) (nI 0) kc pu pd))) args s 0 0 (mx_A base)) (va_up h (P 0) (some (.inr (9, mm P σ (nI 0) kc pu pd)))) 0 0 56 [some (.ref (P 0)), some (.int (nI x)), some (.int (nI b)), some (.int (nI (j + 1)))] [] := by
      intro hc hlt
      refine mx_iload_n C dX9_undo_56 (pc' := 57) rfl rfl ?_
      refine mx_goto C dX9_undo_57 (tgt := 61) (by decide) ?_
      refine mx_istore_n C dX9_undo_61 (pc' := 62) rfl (by first | exact mx_c1_0 | exact mx_c1_int rfl | exact mx_c1_ref rfl | exact mx_c1_none rfl | exact mx_c1_rf rfl | exact mx_c1_null rfl) (by decide) (lo' := [_, _, _, _]) rfl ?_
      refine mx_iinc C dX9_undo_62 (pc' := 65) rfl rfl (mx_inc _) (by first | exact mx_c1_0 | exact mx_c1_int rfl | exact mx_c1_ref rfl | exact mx_c1_none rfl | exact mx_c1_rf rfl | exact mx_c1_null rfl) (by decide) (lo' := [_, _, _, _]) rfl ?_
      refine mx_goto C dX9_undo_65 (tgt := 19) (by decide) ?_
      refine ih _ (by omega) (j + 1) (j + 1) rfl g2 (by omega) (fun z => absurd z (by omega)) (fun _ => ⟨hc, fun q q1 q2 q3 => ?_⟩)
      by_cases e : q = j + 1
      · rw [e]; exact Nat.le_refl _
      · by_cases e0 : b = 0
        · exact absurd q3 (hb0 e0 q q1 (by omega))
        · have := (hb1 e0).2 q q1 (by omega) q3
          have := hlt e0
          omega
    first | refine mx_aload_n C dX9_undo_27 (pc' := 28) rfl rfl ?_ | refine mx_aload_nq C dX9_undo_27 (pc' := 28) rfl rfl ?_
    refine gX9_17 C dX9_undo_28 (pc' := 31) rfl (m3) rfl ?_
    refine mx_iload_n C dX9_undo_31 (pc' := 32) rfl rfl ?_
    refine mx_iald C dX9_undo_32 (pc' := 33) rfl (hI) (rfl) (show j + 1 < 41 by omega) (by decide) ?_
    rw [o3]
    refine mx_iload_n C dX9_undo_33 (pc' := 34) rfl rfl ?_
    refine mx_N_ne C dX9_undo_34 (tgt := 60) (by decide) (pc' := 37) rfl (by omega) (by omega) (fun g3 => ?_) (fun g3 => ?_)
    · exact k60 (fun z => absurd z g3)
    refine mx_iload_n C dX9_undo_37 (pc' := 38) rfl rfl ?_
    refine mx_N0_eq C dX9_undo_38 (tgt := 56) (by decide) (pc' := 41) rfl (by omega) (fun g4 => ?_) (fun g4 => ?_)
    · exact k56 g3 (fun z => absurd g4 z)
    obtain ⟨-, -, -, ob4⟩ := hok b (by omega) (by omega)
    obtain ⟨-, j2⟩ := hs.1 b (by omega) (by omega)
    have w1 := (i2 (by rw [g3]; exact g1)).2.1
    have w2 := (j2 (by rw [(hb1 g4).1]; exact g1)).2.1
    first | refine mx_aload_n C dX9_undo_41 (pc' := 42) rfl rfl ?_ | refine mx_aload_nq C dX9_undo_41 (pc' := 42) rfl rfl ?_
    refine gX9_20 C dX9_undo_42 (pc' := 45) rfl (m3) rfl ?_
    refine mx_iload_n C dX9_undo_45 (pc' := 46) rfl rfl ?_
    refine mx_iald C dX9_undo_46 (pc' := 47) rfl (hW) (rfl) (show j + 1 < 41 by omega) (by decide) ?_
    rw [o4]
    first | refine mx_aload_n C dX9_undo_47 (pc' := 48) rfl rfl ?_ | refine mx_aload_nq C dX9_undo_47 (pc' := 48) rfl rfl ?_
    refine gX9_20 C dX9_undo_48 (pc' := 51) rfl (m3) rfl ?_
    refine mx_iload_n C dX9_undo_51 (pc' := 52) rfl rfl ?_
    refine mx_iald C dX9_undo_52 (pc' := 53) rfl (hW) (rfl) (show b < 41 by omega) (by decide) ?_
    rw [ob4]
    refine mx_N_le C dX9_undo_53 (tgt := 60) (by decide) (pc' := 56) rfl (by omega) (by omega) (fun g5 => ?_) (fun g5 => ?_)
    · exact k60 (fun _ => ⟨g4, by omega⟩)
    · exact k56 g3 (fun _ => by omega)
  refine mx_iconst C (v := nI 0) (by decide) dX9_undo_15 (pc' := 16) rfl ?_
  refine mx_istore_n C dX9_undo_16 (pc' := 17) rfl (by first | exact mx_c1_0 | exact mx_c1_int rfl | exact mx_c1_ref rfl | exact mx_c1_none rfl | exact mx_c1_rf rfl | exact mx_c1_null rfl) (by decide) (lo' := [_, _, _, _]) rfl ?_
  refine mx_iconst C (v := nI 1) (by decide) dX9_undo_17 (pc' := 18) rfl ?_
  refine mx_istore_n C dX9_undo_18 (pc' := 19) rfl (by first | exact mx_c1_0 | exact mx_c1_int rfl | exact mx_c1_ref rfl | exact mx_c1_none rfl | exact mx_c1_rf rfl | exact mx_c1_null rfl) (by decide) (lo' := [_, _, _, _]) rfl ?_
  exact loop _ 0 0 rfl (by omega) (by omega) (fun _ q q1 q2 => by omega) (fun z => absurd rfl z)
theorem c_X9_locked (h : mx_H) {P : Nat → Nat} {σ : mxS} {th kc : Int32} {pu pd : Int64} (m : MI G P h σ th kc pu pd) {a : Int32} {b : Bool} {r : Nat} (hr0 : ixR (st_n σ) a = r) : mx_M l G base yX9_locked cX9_locked 4 (some .int) 1 21 0 0 [.ref (P 0), .int a, .int (mx_b b)] h (fun v h' => OUM P h h' ∧ (r = 0 → v = some (.int (-1)) ∧ MI G P h' σ (nI 0) kc pu pd) ∧ (r ≠ 0 → v = some (.int (mx_b (st_lk σ r))) ∧ MI G P h' (su_lk σ r b) (nI 0) kc pu pd)) := by
  have hn := m.1.1
  have m1 := m.p0 (nI 0) kc pu pd
  have m3 := m1.2.2.1
  have ho : OUM P h (va_up h (P 0) (some (.inr (9, mm P σ (nI 0) kc pu pd)))) := OUM.up (by decide)
  obtain ⟨R, L, I, W, hR, hL, hI, hW, hok⟩ := m1.2.2.2.1
  refine mx_enter (lo := [some (.ref (P 0)), some (.int a), some (.int (mx_b b)), none]) (by decide) (mx_in wd_code_yX9_locked rfl) (Nat.le_of_ble_eq_true rfl) rfl ?_
  intro p ev s mt args below meth cd C hr hnm
  have C : mx_C p s mt args meth cd cX9_locked 4 RX9 G base := C
  first | refine mx_aload_n C dX9_locked_0 (pc' := 1) rfl rfl ?_ | refine mx_aload_nq C dX9_locked_0 (pc' := 1) rfl rfl ?_
  refine mx_iconst C (v := nI 0) (by decide) dX9_locked_1 (pc' := 2) rfl ?_
  refine pX9_64 C dX9_locked_2 (pc' := 5) rfl (m.2.2.1) (Nat.le_of_ble_eq_true rfl) rfl rfl (fs' := [_, _, _, _, _, _, _, _, _, _, _, _, _, _, _, _, _, _, _, _, _, _, _, _, _]) rfl ?_
  refine mx_heap (h' := va_up h (P 0) (some (.inr (9, mm P σ (nI 0) kc pu pd)))) rfl ?_
  first | refine mx_aload_n C dX9_locked_5 (pc' := 6) rfl rfl ?_ | refine mx_aload_nq C dX9_locked_5 (pc' := 6) rfl rfl ?_
  refine mx_iload_n C dX9_locked_6 (pc' := 7) rfl rfl ?_
  refine cX9_71 C dX9_locked_7 (pc' := 10) rfl (m1.2.2.1) (c_X9_isRecord l G base _ m1) ⟨by decide, by decide, by decide, by decide, Nat.le_of_ble_eq_true rfl⟩ ?_
  rintro _ _ ⟨rfl, rfl⟩
  rw [hr0]
  refine mx_B_ne C dX9_locked_10 (tgt := 15) (by decide) (pc' := 13) rfl (fun g1 => ?_) (fun g1 => ?_)
  rotate_left
  · skip
    refine mx_iconst C (v := (-1)) (by decide) dX9_locked_13 (pc' := 14) rfl ?_
    exact mx_iret C hr dX9_locked_14 (by omega) (by omega) (⟨ho, fun _ => ⟨rfl, m1⟩, fun z => absurd (Decidable.not_not.mp (of_decide_eq_false g1)) z⟩)
  have g1 := of_decide_eq_true g1
  have hle := @ixR_le (st_n σ) a
  have ea := ixR_eq (n := st_n σ) (i := a) (by omega) (by rw [hr0]; exact g1)
  rw [hr0] at hle ea
  subst ea
  obtain ⟨o1, o2, o3, o4⟩ := hok r (by omega) (by omega)
  have k29 : ∀ X : Bool, X = st_lk σ r → mx_V p l ev { frames := 1, cells := 0, slots := 0, locals := 21 } s mt args below meth cd G base 4 (MQ below (mx_Qc G base (fun v h' => OUM P h h' ∧ (r = 0 → v = some (.int (-1)) ∧ MI G P h' σ (nI 0) kc pu pd) ∧ (r ≠ 0 → v = some (.int (mx_b (st_lk σ r))) ∧ MI G P h' (su_lk σ r b) (nI 0) kc pu pd))) args s 0 0 (mx_A base)) (va_up h (P 0) (some (.inr (9, mm P σ (nI 0) kc pu pd)))) 0 0 29 [some (.ref (P 0)), some (.int (nI r)), some (.int (mx_b b)), none] [.int (mx_b X)] := by
    intro X hX
    subst hX
    refine mx_istore_n C dX9_locked_29 (pc' := 30) rfl (by first | exact mx_c1_0 | exact mx_c1_int rfl | exact mx_c1_ref rfl | exact mx_c1_none rfl | exact mx_c1_rf rfl | exact mx_c1_null rfl) (by decide) (lo' := [_, _, _, _]) rfl ?_
    first | refine mx_aload_n C dX9_locked_30 (pc' := 31) rfl rfl ?_ | refine mx_aload_nq C dX9_locked_30 (pc' := 31) rfl rfl ?_
    refine gX9_13 C dX9_locked_31 (pc' := 34) rfl (m3) rfl ?_
    refine mx_iload_n C dX9_locked_34 (pc' := 35) rfl rfl ?_
    refine mx_iload_n C dX9_locked_35 (pc' := 36) rfl rfl ?_
    refine mx_zast C dX9_locked_36 (pc' := 37) rfl hL rfl (show r < 41 by omega) (by decide) ?_
    rw [narZ]
    have e : ∀ j, j < 18 → j ≠ 2 → ∀ w, va_up (va_up h (P 0) (some (.inr (9, mm P σ (nI 0) kc pu pd)))) (P 2) w (P j) = va_up h (P 0) (some (.inr (9, mm P σ (nI 0) kc pu pd))) (P j) := fun j hj h5 w => by rw [va_up_ne _ _ (m.2.1.ne hj (by decide) h5)]
    refine mx_iload_n C dX9_locked_37 (pc' := 38) rfl rfl ?_
    refine mx_iret C hr dX9_locked_38 (by omega) (by omega) ⟨ho.tr (OUM.up (by decide)), fun z => absurd z g1, fun _ => ⟨rfl, si_lk m.1 (by omega) hle, m.2.1, (e 0 (by decide) (by decide) _).trans m3, ⟨R, _, I, W, (e 1 (by decide) (by decide) _).trans hR, va_up_self _ _ _, (e 3 (by decide) (by decide) _).trans hI, (e 4 (by decide) (by decide) _).trans hW, fun q q1 q2 => ?_⟩, m1.2.2.2.2.1.kept (fun j _ _ => e j (by omega) (by omega) _), m1.2.2.2.2.2.1.kept (fun j _ _ => e j (by omega) (by omega) _), m1.2.2.2.2.2.2.kept (fun j _ _ => e j (by omega) (by omega) _)⟩⟩
    obtain ⟨p1, p2, p3, p4⟩ := hok q q1 q2
    refine ⟨p1, ?_, p3, p4⟩
    show _ = mx_b (if q = r then b else st_lk σ q)
    by_cases e1 : q = r
    · rw [e1, pk_us, if_pos rfl]
    · rw [pk_un e1, if_neg e1]; exact p2
  first | refine mx_aload_n C dX9_locked_15 (pc' := 16) rfl rfl ?_ | refine mx_aload_nq C dX9_locked_15 (pc' := 16) rfl rfl ?_
  refine gX9_13 C dX9_locked_16 (pc' := 19) rfl (m3) rfl ?_
  refine mx_iload_n C dX9_locked_19 (pc' := 20) rfl rfl ?_
  refine mx_zald C dX9_locked_20 (pc' := 21) rfl hL rfl (show r < 41 by omega) (by decide) ?_
  rw [o2]
  refine mx_B_eq C dX9_locked_21 (tgt := 28) (by decide) (pc' := 24) rfl (fun g2 => ?_) (fun g2 => ?_)
  · skip
    refine mx_iconst C (v := nI 0) (by decide) dX9_locked_28 (pc' := 29) rfl ?_
    exact k29 false g2.symm
  · skip
    refine mx_iconst C (v := nI 1) (by decide) dX9_locked_24 (pc' := 25) rfl ?_
    refine mx_goto C dX9_locked_25 (tgt := 29) (by decide) ?_
    exact k29 true g2.symm
theorem c_X9_beats (h : mx_H) {P : Nat → Nat} {σ : mxS} {th kc : Int32} {pu pd : Int64} (m : MI G P h σ th kc pu pd) {f g : Nat} (f1 : 1 ≤ f) (f2 : f ≤ st_k σ) (g1 : 1 ≤ g) (g2 : g ≤ st_k σ) : mx_M l G base yX9_beats cX9_beats 5 (some .boolean) 0 0 0 0 [.ref (P 0), .int (nI f), .int (nI g)] h (fun v h' => v = some (.int (mx_b (btw σ f g))) ∧ h = h') := by
  have hn := m.1.1
  have hk := m.1.2.1
  have m3 := m.2.2.1
  obtain ⟨R, L, I, W, hR, -, -, -, hok⟩ := m.2.2.2.1
  obtain ⟨O, T, S, Z, hO, -, -, hZ, o1, o2, -⟩ := m.2.2.2.2.1
  obtain ⟨-, a1, a2, a3, -⟩ := m.1.2.2.2.2.2.1.1 f f1 f2
  obtain ⟨-, b1, b2, b3, -⟩ := m.1.2.2.2.2.2.1.1 g g1 g2
  have ef := (o1 f f1 f2).1
  have eg := (o1 g g1 g2).1
  have zf := o2 f f1 (by omega)
  have zg := o2 g g1 (by omega)
  have rf := (hok _ a1 (by omega)).1 a2
  have rg := (hok _ b1 (by omega)).1 b2
  refine mx_enter (lo := [some (.ref (P 0)), some (.int (nI f)), some (.int (nI g)), none, none]) (by decide) (mx_in wd_code_yX9_beats rfl) (Nat.le_of_ble_eq_true rfl) rfl ?_
  intro p ev s mt args below meth cd C hr hnm
  have C : mx_C p s mt args meth cd cX9_beats 5 RX9 G base := C
  first | refine mx_aload_n C dX9_beats_0 (pc' := 1) rfl rfl ?_ | refine mx_aload_nq C dX9_beats_0 (pc' := 1) rfl rfl ?_
  refine gX9_33 C dX9_beats_1 (pc' := 4) rfl (m3) rfl ?_
  refine mx_iload_n C dX9_beats_4 (pc' := 5) rfl rfl ?_
  refine mx_iald C dX9_beats_5 (pc' := 6) rfl (hZ) (rfl) (show f < 201 by omega) (by decide) ?_
  rw [zf]
  first | refine mx_aload_n C dX9_beats_6 (pc' := 7) rfl rfl ?_ | refine mx_aload_nq C dX9_beats_6 (pc' := 7) rfl rfl ?_
  refine gX9_33 C dX9_beats_7 (pc' := 10) rfl (m3) rfl ?_
  refine mx_iload_n C dX9_beats_10 (pc' := 11) rfl rfl ?_
  refine mx_iald C dX9_beats_11 (pc' := 12) rfl (hZ) (rfl) (show g < 201 by omega) (by decide) ?_
  rw [zg]
  refine mx_N_eq C dX9_beats_12 (tgt := 36) (by decide) (pc' := 15) rfl (by omega) (by omega) (fun c1 => ?_) (fun c1 => ?_)
  rotate_left
  · skip
    first | refine mx_aload_n C dX9_beats_15 (pc' := 16) rfl rfl ?_ | refine mx_aload_nq C dX9_beats_15 (pc' := 16) rfl rfl ?_
    refine gX9_33 C dX9_beats_16 (pc' := 19) rfl (m3) rfl ?_
    refine mx_iload_n C dX9_beats_19 (pc' := 20) rfl rfl ?_
    refine mx_iald C dX9_beats_20 (pc' := 21) rfl (hZ) (rfl) (show f < 201 by omega) (by decide) ?_
    rw [zf]
    first | refine mx_aload_n C dX9_beats_21 (pc' := 22) rfl rfl ?_ | refine mx_aload_nq C dX9_beats_21 (pc' := 22) rfl rfl ?_
    refine gX9_33 C dX9_beats_22 (pc' := 25) rfl (m3) rfl ?_
    refine mx_iload_n C dX9_beats_25 (pc' := 26) rfl rfl ?_
    refine mx_iald C dX9_beats_26 (pc' := 27) rfl (hZ) (rfl) (show g < 201 by omega) (by decide) ?_
    rw [zg]
    refine mx_N_le C dX9_beats_27 (tgt := 34) (by decide) (pc' := 30) rfl (by omega) (by omega) (fun c2 => ?_) (fun c2 => ?_)
    · skip
      refine mx_iconst C (v := nI 0) (by decide) dX9_beats_34 (pc' := 35) rfl ?_
      first | exact mx_zret C hr (mx_b_nz _) dX9_beats_35 (by omega) (by omega) (⟨mx_ok0 (by unfold btw; rw [if_neg c1]; exact decide_eq_false (by omega)), rfl⟩) | exact mx_zret C hr rfl dX9_beats_35 (by omega) (by omega) (⟨mx_ok0 (by unfold btw; rw [if_neg c1]; exact decide_eq_false (by omega)), rfl⟩)
    · skip
      refine mx_iconst C (v := nI 1) (by decide) dX9_beats_30 (pc' := 31) rfl ?_
      refine mx_goto C dX9_beats_31 (tgt := 35) (by decide) ?_
      first | exact mx_zret C hr (mx_b_nz _) dX9_beats_35 (by omega) (by omega) (⟨mx_ok1 (by unfold btw; rw [if_neg c1]; exact decide_eq_true (by omega)), rfl⟩) | exact mx_zret C hr rfl dX9_beats_35 (by omega) (by omega) (⟨mx_ok1 (by unfold btw; rw [if_neg c1]; exact decide_eq_true (by omega)), rfl⟩)
  first | refine mx_aload_n C dX9_beats_36 (pc' := 37) rfl rfl ?_ | refine mx_aload_nq C dX9_beats_36 (pc' := 37) rfl rfl ?_
  refine gX9_7 C dX9_beats_37 (pc' := 40) rfl (m3) rfl ?_
  first | refine mx_aload_n C dX9_beats_40 (pc' := 41) rfl rfl ?_ | refine mx_aload_nq C dX9_beats_40 (pc' := 41) rfl rfl ?_
  refine gX9_23 C dX9_beats_41 (pc' := 44) rfl (m3) rfl ?_
  refine mx_iload_n C dX9_beats_44 (pc' := 45) rfl rfl ?_
  refine mx_iald C dX9_beats_45 (pc' := 46) rfl (hO) (rfl) (show f < 201 by omega) (by decide) ?_
  rw [ef]
  refine mx_iald C dX9_beats_46 (pc' := 47) rfl (hR) (rfl) (show st_ow σ f < 41 by omega) (by decide) ?_
  rw [rf]
  refine mx_istore_n C dX9_beats_47 (pc' := 48) rfl (by first | exact mx_c1_0 | exact mx_c1_int rfl | exact mx_c1_ref rfl | exact mx_c1_none rfl | exact mx_c1_rf rfl | exact mx_c1_null rfl) (by decide) (lo' := [_, _, _, _, _]) rfl ?_
  first | refine mx_aload_n C dX9_beats_48 (pc' := 49) rfl rfl ?_ | refine mx_aload_nq C dX9_beats_48 (pc' := 49) rfl rfl ?_
  refine gX9_7 C dX9_beats_49 (pc' := 52) rfl (m3) rfl ?_
  first | refine mx_aload_n C dX9_beats_52 (pc' := 53) rfl rfl ?_ | refine mx_aload_nq C dX9_beats_52 (pc' := 53) rfl rfl ?_
  refine gX9_23 C dX9_beats_53 (pc' := 56) rfl (m3) rfl ?_
  refine mx_iload_n C dX9_beats_56 (pc' := 57) rfl rfl ?_
  refine mx_iald C dX9_beats_57 (pc' := 58) rfl (hO) (rfl) (show g < 201 by omega) (by decide) ?_
  rw [eg]
  refine mx_iald C dX9_beats_58 (pc' := 59) rfl (hR) (rfl) (show st_ow σ g < 41 by omega) (by decide) ?_
  rw [rg]
  refine mx_istore C dX9_beats_59 (pc' := 61) rfl (by first | exact mx_c1_0 | exact mx_c1_int rfl | exact mx_c1_ref rfl | exact mx_c1_none rfl | exact mx_c1_rf rfl | exact mx_c1_null rfl) (by decide) (lo' := [_, _, _, _, _]) rfl ?_
  refine mx_iload_n C dX9_beats_61 (pc' := 62) rfl rfl ?_
  refine mx_iload C dX9_beats_62 (pc' := 64) rfl rfl ?_
  refine mx_icmp_gt C dX9_beats_64 (tgt := 78) (by decide) (pc' := 67) rfl (fun c2 => ?_) (fun c2 => ?_)
  · have e : ¬ st_rk σ (st_ow σ f) = st_rk σ (st_ow σ g) := fun z => by rw [z] at c2; exact Int32.lt_irrefl c2
    refine mx_iconst C (v := nI 1) (by decide) dX9_beats_78 (pc' := 79) rfl ?_
    refine mx_goto C dX9_beats_79 (tgt := 83) (by decide) ?_
    first | exact mx_zret C hr (mx_b_nz _) dX9_beats_83 (by omega) (by omega) (⟨mx_ok1 (by unfold btw; rw [if_pos c1, if_neg e]; exact decide_eq_true c2), rfl⟩) | exact mx_zret C hr rfl dX9_beats_83 (by omega) (by omega) (⟨mx_ok1 (by unfold btw; rw [if_pos c1, if_neg e]; exact decide_eq_true c2), rfl⟩)
  refine mx_iload_n C dX9_beats_67 (pc' := 68) rfl rfl ?_
  refine mx_iload C dX9_beats_68 (pc' := 70) rfl rfl ?_
  refine mx_icmp_ne C dX9_beats_70 (tgt := 82) (by decide) (pc' := 73) rfl (fun c3 => ?_) (fun c3 => ?_)
  · skip
    refine mx_iconst C (v := nI 0) (by decide) dX9_beats_82 (pc' := 83) rfl ?_
    first | exact mx_zret C hr (mx_b_nz _) dX9_beats_83 (by omega) (by omega) (⟨mx_ok0 (by unfold btw; rw [if_pos c1, if_neg c3]; exact decide_eq_false c2), rfl⟩) | exact mx_zret C hr rfl dX9_beats_83 (by omega) (by omega) (⟨mx_ok0 (by unfold btw; rw [if_pos c1, if_neg c3]; exact decide_eq_false c2), rfl⟩)
  refine mx_iload_n C dX9_beats_73 (pc' := 74) rfl rfl ?_
  refine mx_iload_n C dX9_beats_74 (pc' := 75) rfl rfl ?_
  refine mx_N_ge C dX9_beats_75 (tgt := 82) (by decide) (pc' := 78) rfl (by omega) (by omega) (fun c4 => ?_) (fun c4 => ?_)
  · skip
    refine mx_iconst C (v := nI 0) (by decide) dX9_beats_82 (pc' := 83) rfl ?_
    first | exact mx_zret C hr (mx_b_nz _) dX9_beats_83 (by omega) (by omega) (⟨mx_ok0 (by unfold btw; rw [if_pos c1, if_pos c3]; exact decide_eq_false (by omega)), rfl⟩) | exact mx_zret C hr rfl dX9_beats_83 (by omega) (by omega) (⟨mx_ok0 (by unfold btw; rw [if_pos c1, if_pos c3]; exact decide_eq_false (by omega)), rfl⟩)
  · skip
    refine mx_iconst C (v := nI 1) (by decide) dX9_beats_78 (pc' := 79) rfl ?_
    refine mx_goto C dX9_beats_79 (tgt := 83) (by decide) ?_
    first | exact mx_zret C hr (mx_b_nz _) dX9_beats_83 (by omega) (by omega) (⟨mx_ok1 (by unfold btw; rw [if_pos c1, if_pos c3]; exact decide_eq_true (by omega)), rfl⟩) | exact mx_zret C hr rfl dX9_beats_83 (by omega) (by omega) (⟨mx_ok1 (by unfold btw; rw [if_pos c1, if_pos c3]; exact decide_eq_true (by omega)), rfl⟩)
theorem c_X9_winner (h : mx_H) {P : Nat → Nat} {σ : mxS} {th kc : Int32} {pu pd : Int64} (m : MI G P h σ th kc pu pd) {a i : Int32} {r f : Nat} (hr0 : ixS σ a = r) (hf0 : ixR (st_k σ) i = f) : mx_M l G base yX9_winner cX9_winner 5 (some .int) 2 44 0 0 [.ref (P 0), .int a, .int i] h (fun v h' => v = some (.int (nI (if r ≠ 0 ∧ f ≠ 0 ∧ tp σ (st_ow σ f) = r then wnn σ r f (st_k σ) else 0))) ∧ MI G P h' σ (nI 0) kc pu pd ∧ OUM P h h') := by
  have hn := m.1.1
  have hk := m.1.2.1
  have m1 := m.p0 (nI 0) kc pu pd
  have m3 := m1.2.2.1
  have ho : OUM P h (va_up h (P 0) (some (.inr (9, mm P σ (nI 0) kc pu pd)))) := OUM.up (by decide)
  obtain ⟨O, T, S, Z, hO, hT, -, hZ, o1, o2, -⟩ := m1.2.2.2.2.1
  have hnz := @ixR_nz (st_k σ) i
  rw [hf0] at hnz
  have q1 : i < nI 1 ↔ i.toInt < 1 := by rw [Int32.lt_iff_toInt_lt, nI_toInt (by decide)]; rfl
  have q2 : nI (st_k σ) < i ↔ (st_k σ : Int) < i.toInt := by rw [Int32.lt_iff_toInt_lt, nI_toInt (by omega)]
  refine mx_enter (lo := [some (.ref (P 0)), some (.int a), some (.int i), none, none]) (by decide) (mx_in wd_code_yX9_winner rfl) (Nat.le_of_ble_eq_true rfl) rfl ?_
  intro p ev s mt args below meth cd C hr hnm
  have C : mx_C p s mt args meth cd cX9_winner 5 RX9 G base := C
  first | refine mx_aload_n C dX9_winner_0 (pc' := 1) rfl rfl ?_ | refine mx_aload_nq C dX9_winner_0 (pc' := 1) rfl rfl ?_
  refine mx_iconst C (v := nI 0) (by decide) dX9_winner_1 (pc' := 2) rfl ?_
  refine pX9_64 C dX9_winner_2 (pc' := 5) rfl (m.2.2.1) (Nat.le_of_ble_eq_true rfl) rfl rfl (fs' := [_, _, _, _, _, _, _, _, _, _, _, _, _, _, _, _, _, _, _, _, _, _, _, _, _]) rfl ?_
  refine mx_heap (h' := va_up h (P 0) (some (.inr (9, mm P σ (nI 0) kc pu pd)))) rfl ?_
  first | refine mx_aload_n C dX9_winner_5 (pc' := 6) rfl rfl ?_ | refine mx_aload_nq C dX9_winner_5 (pc' := 6) rfl rfl ?_
  refine mx_iload_n C dX9_winner_6 (pc' := 7) rfl rfl ?_
  refine cX9_75 C dX9_winner_7 (pc' := 10) rfl (m1.2.2.1) (c_X9_isTop l G base _ m1) ⟨by decide, by decide, by decide, by decide, Nat.le_of_ble_eq_true rfl⟩ ?_
  rintro _ _ ⟨rfl, rfl⟩
  rw [hr0]
  refine mx_B_eq C dX9_winner_10 (tgt := 35) (by decide) (pc' := 13) rfl (fun g1 => ?_) (fun g1 => ?_)
  · skip
    refine mx_iconst C (v := nI 0) (by decide) dX9_winner_35 (pc' := 36) rfl ?_
    exact mx_iret C hr dX9_winner_36 (by omega) (by omega) (⟨by rw [if_neg (fun z => of_decide_eq_false g1 z.1)], m1, ho⟩)
  have g1 := of_decide_eq_true g1
  obtain ⟨ea, x2, x3⟩ := ixS_at hn hr0 g1
  subst ea
  refine mx_iload_n C dX9_winner_13 (pc' := 14) rfl rfl ?_
  refine mx_iconst C (v := nI 1) (by decide) dX9_winner_14 (pc' := 15) rfl ?_
  refine mx_icmp_lt C dX9_winner_15 (tgt := 35) (by decide) (pc' := 18) rfl (fun g2 => ?_) (fun g2 => ?_)
  · rw [q1] at g2
    refine mx_iconst C (v := nI 0) (by decide) dX9_winner_35 (pc' := 36) rfl ?_
    exact mx_iret C hr dX9_winner_36 (by omega) (by omega) (⟨by rw [if_neg (fun z => absurd (hnz.mp z.2.1).1 (by omega))], m1, ho⟩)
  rw [q1] at g2
  refine mx_iload_n C dX9_winner_18 (pc' := 19) rfl rfl ?_
  first | refine mx_aload_n C dX9_winner_19 (pc' := 20) rfl rfl ?_ | refine mx_aload_nq C dX9_winner_19 (pc' := 20) rfl rfl ?_
  refine gX9_78 C dX9_winner_20 (pc' := 23) rfl (m3) rfl ?_
  refine mx_icmp_gt C dX9_winner_23 (tgt := 35) (by decide) (pc' := 26) rfl (fun g3 => ?_) (fun g3 => ?_)
  · rw [q2] at g3
    refine mx_iconst C (v := nI 0) (by decide) dX9_winner_35 (pc' := 36) rfl ?_
    exact mx_iret C hr dX9_winner_36 (by omega) (by omega) (⟨by rw [if_neg (fun z => absurd (hnz.mp z.2.1).2 (by omega))], m1, ho⟩)
  rw [q2] at g3
  have hf : f ≠ 0 := hnz.mpr ⟨by omega, by omega⟩
  have ei : i = nI f := by have := ixR_eq (n := st_k σ) (i := i) (by omega) (by rw [hf0]; exact hf); rw [hf0] at this; exact this
  subst ei
  have hle : f ≤ st_k σ := by rw [← hf0]; exact ixR_le
  have s9 := (m.1.2.2.2.2.2.1.1 f (by omega) hle).1
  first | refine mx_aload_n C dX9_winner_26 (pc' := 27) rfl rfl ?_ | refine mx_aload_nq C dX9_winner_26 (pc' := 27) rfl rfl ?_
  refine mx_iload_n C dX9_winner_27 (pc' := 28) rfl rfl ?_
  refine mx_iload_n C dX9_winner_28 (pc' := 29) rfl rfl ?_
  refine cX9_104 C dX9_winner_29 (pc' := 32) rfl (m3) (c_X9_isOf l G base _ m1 (show 1 ≤ f by omega) hle x2) ⟨by decide, by decide, by decide, by decide, Nat.le_of_ble_eq_true rfl⟩ ?_
  rintro _ _ ⟨rfl, rfl⟩
  refine mx_B_ne C dX9_winner_32 (tgt := 37) (by decide) (pc' := 35) rfl (fun g4 => ?_) (fun g4 => ?_)
  rotate_left
  · skip
    refine mx_iconst C (v := nI 0) (by decide) dX9_winner_35 (pc' := 36) rfl ?_
    exact mx_iret C hr dX9_winner_36 (by omega) (by omega) (⟨by rw [if_neg (fun z => of_decide_eq_false g4 z.2.2)], m1, ho⟩)
  rw [if_pos ⟨g1, hf, of_decide_eq_true g4⟩]
  have loop : ∀ (d j : Nat), st_k σ - j = d → j ≤ st_k σ → mx_V p l ev { frames := 2, cells := 0, slots := 0, locals := 44 } s mt args below meth cd G base 5 (MQ below (mx_Qc G base (fun v h' => v = some (.int (nI (wnn σ r f (st_k σ)))) ∧ MI G P h' σ (nI 0) kc pu pd ∧ OUM P h h')) args s 0 0 (mx_A base)) (va_up h (P 0) (some (.inr (9, mm P σ (nI 0) kc pu pd)))) 0 0 42 [some (.ref (P 0)), some (.int (nI r)), some (.int (nI f)), some (.int (nI (wnn σ r f j))), some (.int (nI (j + 1)))] [] := by
    intro d
    induction d using Nat.strongRecOn with
    | ind d ih =>
    intro j hd hj
    obtain ⟨w1, w2⟩ := wnn_in (r := r) (show 1 ≤ f by omega) hle j hj
    refine mx_iload C dX9_winner_42 (pc' := 44) rfl rfl ?_
    first | refine mx_aload_n C dX9_winner_44 (pc' := 45) rfl rfl ?_ | refine mx_aload_nq C dX9_winner_44 (pc' := 45) rfl rfl ?_
    refine gX9_78 C dX9_winner_45 (pc' := 48) rfl (m3) rfl ?_
    refine mx_N_gt C dX9_winner_48 (tgt := 100) (by decide) (pc' := 51) rfl (by omega) (by omega) (fun g5 => ?_) (fun g5 => ?_)
    · have e1 : j = st_k σ := by omega
      subst e1
      refine mx_iload_n C dX9_winner_100 (pc' := 101) rfl rfl ?_
      exact mx_iret C hr dX9_winner_101 (by omega) (by omega) (⟨rfl, m1, ho⟩)
    have t9 := (m.1.2.2.2.2.2.1.1 (j + 1) (by omega) g5).1
    have key := ih _ (show st_k σ - (j + 1) < d by omega) (j + 1) rfl g5
    have e2 : wnn σ r f (j + 1) = if decide (st_tg σ (j + 1) = st_tg σ f) && decide (tp σ (st_ow σ (j + 1)) = r) && btw σ (j + 1) (wnn σ r f j) then j + 1 else wnn σ r f j := rfl
    rw [e2] at key
    first | refine mx_aload_n C dX9_winner_51 (pc' := 52) rfl rfl ?_ | refine mx_aload_nq C dX9_winner_51 (pc' := 52) rfl rfl ?_
    refine mx_iload C dX9_winner_52 (pc' := 54) rfl rfl ?_
    refine mx_iload_n C dX9_winner_54 (pc' := 55) rfl rfl ?_
    refine cX9_104 C dX9_winner_55 (pc' := 58) rfl (m3) (c_X9_isOf l G base _ m1 (show 1 ≤ j + 1 by omega) g5 x2) ⟨by decide, by decide, by decide, by decide, Nat.le_of_ble_eq_true rfl⟩ ?_
    rintro _ _ ⟨rfl, rfl⟩
    refine mx_B_eq C dX9_winner_58 (tgt := 92) (by decide) (pc' := 61) rfl (fun g6 => ?_) (fun g6 => ?_)
    · rw [g6, Bool.and_false, Bool.false_and] at key
      refine mx_iload_n C dX9_winner_92 (pc' := 93) rfl rfl ?_
      refine mx_istore_n C dX9_winner_93 (pc' := 94) rfl (by first | exact mx_c1_0 | exact mx_c1_int rfl | exact mx_c1_ref rfl | exact mx_c1_none rfl | exact mx_c1_rf rfl | exact mx_c1_null rfl) (by decide) (lo' := [_, _, _, _, _]) rfl ?_
      refine mx_iinc C dX9_winner_94 (pc' := 97) rfl rfl (mx_inc _) (by first | exact mx_c1_0 | exact mx_c1_int rfl | exact mx_c1_ref rfl | exact mx_c1_none rfl | exact mx_c1_rf rfl | exact mx_c1_null rfl) (by decide) (lo' := [_, _, _, _, _]) rfl ?_
      refine mx_goto C dX9_winner_97 (tgt := 42) (by decide) ?_
      exact key
    rw [g6, Bool.and_true] at key
    first | refine mx_aload_n C dX9_winner_61 (pc' := 62) rfl rfl ?_ | refine mx_aload_nq C dX9_winner_61 (pc' := 62) rfl rfl ?_
    refine gX9_26 C dX9_winner_62 (pc' := 65) rfl (m3) rfl ?_
    refine mx_iload C dX9_winner_65 (pc' := 67) rfl rfl ?_
    refine mx_iald C dX9_winner_67 (pc' := 68) rfl (hT) (rfl) (show j + 1 < 201 by omega) (by decide) ?_
    rw [(o1 (j + 1) (by omega) g5).2]
    first | refine mx_aload_n C dX9_winner_68 (pc' := 69) rfl rfl ?_ | refine mx_aload_nq C dX9_winner_68 (pc' := 69) rfl rfl ?_
    refine gX9_26 C dX9_winner_69 (pc' := 72) rfl (m3) rfl ?_
    refine mx_iload_n C dX9_winner_72 (pc' := 73) rfl rfl ?_
    refine mx_iald C dX9_winner_73 (pc' := 74) rfl (hT) (rfl) (show f < 201 by omega) (by decide) ?_
    rw [(o1 f (by omega) hle).2]
    refine mx_N_ne C dX9_winner_74 (tgt := 92) (by decide) (pc' := 77) rfl (by omega) (by omega) (fun g7 => ?_) (fun g7 => ?_)
    · rw [decide_eq_false g7, Bool.false_and] at key
      refine mx_iload_n C dX9_winner_92 (pc' := 93) rfl rfl ?_
      refine mx_istore_n C dX9_winner_93 (pc' := 94) rfl (by first | exact mx_c1_0 | exact mx_c1_int rfl | exact mx_c1_ref rfl | exact mx_c1_none rfl | exact mx_c1_rf rfl | exact mx_c1_null rfl) (by decide) (lo' := [_, _, _, _, _]) rfl ?_
      refine mx_iinc C dX9_winner_94 (pc' := 97) rfl rfl (mx_inc _) (by first | exact mx_c1_0 | exact mx_c1_int rfl | exact mx_c1_ref rfl | exact mx_c1_none rfl | exact mx_c1_rf rfl | exact mx_c1_null rfl) (by decide) (lo' := [_, _, _, _, _]) rfl ?_
      refine mx_goto C dX9_winner_97 (tgt := 42) (by decide) ?_
      exact key
    rw [decide_eq_true g7, Bool.true_and] at key
    first | refine mx_aload_n C dX9_winner_77 (pc' := 78) rfl rfl ?_ | refine mx_aload_nq C dX9_winner_77 (pc' := 78) rfl rfl ?_
    refine mx_iload C dX9_winner_78 (pc' := 80) rfl rfl ?_
    refine mx_iload_n C dX9_winner_80 (pc' := 81) rfl rfl ?_
    refine cX9_178 C dX9_winner_81 (pc' := 84) rfl (m3) (c_X9_beats l G base _ m1 (show 1 ≤ j + 1 by omega) g5 w1 w2) ⟨by decide, by decide, by decide, by decide, Nat.le_of_ble_eq_true rfl⟩ ?_
    rintro _ _ ⟨rfl, rfl⟩
    refine mx_B_eq C dX9_winner_84 (tgt := 92) (by decide) (pc' := 87) rfl (fun g8 => ?_) (fun g8 => ?_)
    · rw [g8] at key
      refine mx_iload_n C dX9_winner_92 (pc' := 93) rfl rfl ?_
      refine mx_istore_n C dX9_winner_93 (pc' := 94) rfl (by first | exact mx_c1_0 | exact mx_c1_int rfl | exact mx_c1_ref rfl | exact mx_c1_none rfl | exact mx_c1_rf rfl | exact mx_c1_null rfl) (by decide) (lo' := [_, _, _, _, _]) rfl ?_
      refine mx_iinc C dX9_winner_94 (pc' := 97) rfl rfl (mx_inc _) (by first | exact mx_c1_0 | exact mx_c1_int rfl | exact mx_c1_ref rfl | exact mx_c1_none rfl | exact mx_c1_rf rfl | exact mx_c1_null rfl) (by decide) (lo' := [_, _, _, _, _]) rfl ?_
      refine mx_goto C dX9_winner_97 (tgt := 42) (by decide) ?_
      exact key
    · rw [g8] at key
      refine mx_iload C dX9_winner_87 (pc' := 89) rfl rfl ?_
      refine mx_goto C dX9_winner_89 (tgt := 93) (by decide) ?_
      refine mx_istore_n C dX9_winner_93 (pc' := 94) rfl (by first | exact mx_c1_0 | exact mx_c1_int rfl | exact mx_c1_ref rfl | exact mx_c1_none rfl | exact mx_c1_rf rfl | exact mx_c1_null rfl) (by decide) (lo' := [_, _, _, _, _]) rfl ?_
      refine mx_iinc C dX9_winner_94 (pc' := 97) rfl rfl (mx_inc _) (by first | exact mx_c1_0 | exact mx_c1_int rfl | exact mx_c1_ref rfl | exact mx_c1_none rfl | exact mx_c1_rf rfl | exact mx_c1_null rfl) (by decide) (lo' := [_, _, _, _, _]) rfl ?_
      refine mx_goto C dX9_winner_97 (tgt := 42) (by decide) ?_
      exact key
  refine mx_iload_n C dX9_winner_37 (pc' := 38) rfl rfl ?_
  refine mx_istore_n C dX9_winner_38 (pc' := 39) rfl (by first | exact mx_c1_0 | exact mx_c1_int rfl | exact mx_c1_ref rfl | exact mx_c1_none rfl | exact mx_c1_rf rfl | exact mx_c1_null rfl) (by decide) (lo' := [_, _, _, _, _]) rfl ?_
  refine mx_iconst C (v := nI 1) (by decide) dX9_winner_39 (pc' := 40) rfl ?_
  refine mx_istore C dX9_winner_40 (pc' := 42) rfl (by first | exact mx_c1_0 | exact mx_c1_int rfl | exact mx_c1_ref rfl | exact mx_c1_none rfl | exact mx_c1_rf rfl | exact mx_c1_null rfl) (by decide) (lo' := [_, _, _, _, _]) rfl ?_
  exact loop _ 0 rfl (by omega)
end R5
