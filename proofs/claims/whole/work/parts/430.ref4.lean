/-! the reference: record, field, sign, isbn, weight, at -/
theorem MI.p0 {G : mx_G} {P : Nat → Nat} {h : mx_H} {σ : mxS} {th kc : Int32} {pu pd : Int64} (m : MI G P h σ th kc pu pd) (th' kc' : Int32) (pu' pd' : Int64) : MI G P (va_up h (P 0) (some (.inr (9, mm P σ th' kc' pu' pd')))) σ th' kc' pu' pd' := by
  obtain ⟨m1, m2, m3, m4, m5, m6, m7⟩ := m
  have e : ∀ j, j < 18 → j ≠ 0 → ∀ z, va_up h (P 0) z (P j) = h (P j) := fun j hj hn z => va_up_ne _ _ (m2.ne hj (by omega) hn)
  exact ⟨m1, m2, va_up_self _ _ _, m4.kept (fun j _ _ => e j (by omega) (by omega) _), m5.kept (fun j _ _ => e j (by omega) (by omega) _), m6.kept (fun j _ _ => e j (by omega) (by omega) _), m7.kept (fun j _ _ => e j (by omega) (by omega) _)⟩
theorem ix_toNat {i : Int32} {n : Nat} (h : ixR n i ≠ 0) : i.toInt.toNat = ixR n i := by
  have h1 := ixR_nz.mp h
  exact (if_pos (show 1 ≤ i.toInt ∧ i.toInt ≤ n by omega)).symm
theorem cb_b (x : Int32) : x.toInt8.toInt32 = sb_b (cb x) := by
  unfold sb_b
  congr 1
  apply Int8.toBitVec_inj.mp
  apply BitVec.eq_of_toNat_eq
  rw [Int32.toBitVec_toInt8, Int32.toBitVec_toInt8, BitVec.signExtend_eq_setWidth_of_le _ (by decide), BitVec.signExtend_eq_setWidth_of_le _ (by decide), BitVec.toNat_setWidth, BitVec.toNat_setWidth, pk_tn (show cb x < 2 ^ 32 from by have : cb x < 256 := Nat.mod_lt _ (by decide); omega)]
  unfold cb
  omega
section R4
variable (l : Launch) (G : mx_G) (base : Nat)
set_option maxRecDepth 20000
theorem c_X9_record (h : mx_H) {P : Nat → Nat} {σ : mxS} {th kc : Int32} {pu pd : Int64} (m : MI G P h σ th kc pu pd) {k : Int32} : mx_M l G base yX9_record cX9_record 2 (some .int) 0 0 0 0 [.ref (P 0), .int k] h (fun v h' => OUM P h h' ∧ (¬ st_n σ < 40 → v = some (.int (nI 0)) ∧ MI G P h' σ (nI 0) kc pu pd) ∧ (st_n σ < 40 → v = some (.int (nI (st_n σ + 1))) ∧ MI G P h' (su_rc σ k) (nI 0) kc pu pd)) := by
  have hn := m.1.1
  have m1 := m.p0 (nI 0) kc pu pd
  have ne : ∀ j, 1 ≤ j → j < 18 → P j ≠ P 0 := fun j j1 j2 => m.2.1.ne j2 (by decide) (by omega)
  refine mx_enter (lo := [some (.ref (P 0)), some (.int k)]) (by decide) (mx_in wd_code_yX9_record rfl) (Nat.le_of_ble_eq_true rfl) rfl ?_
  intro p ev s mt args below meth cd C hr hnm
  have C : mx_C p s mt args meth cd cX9_record 2 RX9 G base := C
  first | refine mx_aload_n C dX9_record_0 (pc' := 1) rfl rfl ?_ | refine mx_aload_nq C dX9_record_0 (pc' := 1) rfl rfl ?_
  refine mx_iconst C (v := nI 0) (by decide) dX9_record_1 (pc' := 2) rfl ?_
  refine pX9_64 C dX9_record_2 (pc' := 5) rfl (m.2.2.1) (Nat.le_of_ble_eq_true rfl) rfl rfl (fs' := [_, _, _, _, _, _, _, _, _, _, _, _, _, _, _, _, _, _, _, _, _, _, _, _, _]) rfl ?_
  refine mx_heap (h' := va_up h (P 0) (some (.inr (9, mm P σ (nI 0) kc pu pd)))) rfl ?_
  first | refine mx_aload_n C dX9_record_5 (pc' := 6) rfl rfl ?_ | refine mx_aload_nq C dX9_record_5 (pc' := 6) rfl rfl ?_
  refine gX9_68 C dX9_record_6 (pc' := 9) rfl (m1.2.2.1) rfl ?_
  refine mx_bipush C (v := nI 40) (by decide) dX9_record_9 (pc' := 11) rfl ?_
  refine mx_N_ne C dX9_record_11 (tgt := 16) (by decide) (pc' := 14) rfl (by omega) (by omega) (fun g1 => ?_) (fun g1 => ?_)
  rotate_left
  · skip
    refine mx_iconst C (v := nI 0) (by decide) dX9_record_14 (pc' := 15) rfl ?_
    exact mx_iret C hr dX9_record_15 (by omega) (by omega) (⟨OUM.up (by decide), fun _ => ⟨rfl, m1⟩, fun z => absurd z (by omega)⟩)
  first | refine mx_aload_n C dX9_record_16 (pc' := 17) rfl rfl ?_ | refine mx_aload_nq C dX9_record_16 (pc' := 17) rfl rfl ?_
  refine mx_dup C rfl dX9_record_17 (pc' := 18) rfl ?_
  refine gX9_68 C dX9_record_18 (pc' := 21) rfl (m1.2.2.1) rfl ?_
  refine mx_iconst C (v := nI 1) (by decide) dX9_record_21 (pc' := 22) rfl ?_
  refine mx_iadd C dX9_record_22 (pc' := 23) rfl ?_
  rw [nI_add]
  refine pX9_68 C dX9_record_23 (pc' := 26) rfl (m1.2.2.1) (Nat.le_of_ble_eq_true rfl) rfl rfl (fs' := [_, _, _, _, _, _, _, _, _, _, _, _, _, _, _, _, _, _, _, _, _, _, _, _, _]) rfl ?_
  refine mx_heap (bx_uu _ _ _ _) ?_
  refine mx_heap (h' := va_up h (P 0) (some (.inr (9, mm P (su_rc σ k) (nI 0) kc pu pd)))) rfl ?_
  obtain ⟨R, L, I, W, hR, hL, hI, hW, hok⟩ := m.2.2.2.1
  have E0 : va_up h (P 0) (some (.inr (9, mm P (su_rc σ k) (nI 0) kc pu pd))) (P 0) = some (.inr (9, mm P (su_rc σ k) (nI 0) kc pu pd)) := va_up_self _ _ _
  have E1 : va_up h (P 0) (some (.inr (9, mm P (su_rc σ k) (nI 0) kc pu pd))) (P 1) = some (.inl (G.2 0, 41, .inl R)) := by rw [va_up_ne _ _ (ne 1 (by decide) (by decide))]; exact hR
  first | refine mx_aload_n C dX9_record_26 (pc' := 27) rfl rfl ?_ | refine mx_aload_nq C dX9_record_26 (pc' := 27) rfl rfl ?_
  refine gX9_7 C dX9_record_27 (pc' := 30) rfl (E0) rfl ?_
  first | refine mx_aload_n C dX9_record_30 (pc' := 31) rfl rfl ?_ | refine mx_aload_nq C dX9_record_30 (pc' := 31) rfl rfl ?_
  refine gX9_68 C dX9_record_31 (pc' := 34) rfl (E0) rfl ?_
  refine mx_iload_n C dX9_record_34 (pc' := 35) rfl rfl ?_
  refine mx_iast C dX9_record_35 (pc' := 36) rfl (E1) (rfl) (show st_n σ + 1 < 41 by omega) (by decide) ?_
  have E2 : ∀ z, va_up (va_up h (P 0) (some (.inr (9, mm P (su_rc σ k) (nI 0) kc pu pd)))) (P 1) z (P 0) = some (.inr (9, mm P (su_rc σ k) (nI 0) kc pu pd)) := fun z => by rw [va_up_ne _ _ (fun z => ne 1 (by decide) (by decide) z.symm)]; exact E0
  first | refine mx_aload_n C dX9_record_36 (pc' := 37) rfl rfl ?_ | refine mx_aload_nq C dX9_record_36 (pc' := 37) rfl rfl ?_
  refine gX9_68 C dX9_record_37 (pc' := 40) rfl (E2 _) rfl ?_
  have e : ∀ j, j < 18 → 2 ≤ j → ∀ z w, va_up (va_up h (P 0) z) (P 1) w (P j) = h (P j) := fun j hj hn z w => by rw [va_up_ne _ _ (m.2.1.ne hj (by decide) (by omega)), va_up_ne _ _ (m.2.1.ne hj (by decide) (by omega))]
  refine mx_iret C hr dX9_record_40 (by omega) (by omega) ⟨(OUM.up (by decide)).tr (OUM.up (by decide)), fun z => absurd (show st_n σ < 40 by omega) z, fun _ => ⟨rfl, si_rc m.1 (by omega), m.2.1, E2 _, ⟨_, L, I, W, va_up_self _ _ _, (e 2 (by decide) (by decide) _ _).trans hL, (e 3 (by decide) (by decide) _ _).trans hI, (e 4 (by decide) (by decide) _ _).trans hW, fun r r1 r2 => ?_⟩, m.2.2.2.2.1.kept (fun j _ _ => e j (by omega) (by omega) _ _), m.2.2.2.2.2.1.kept (fun j _ _ => e j (by omega) (by omega) _ _), m.2.2.2.2.2.2.kept (fun j _ _ => e j (by omega) (by omega) _ _)⟩⟩
  obtain ⟨o1, o2, o3, o4⟩ := hok r r1 r2
  refine ⟨fun hle => ?_, o2, o3, o4⟩
  have hle : r ≤ st_n σ + 1 := hle
  rw [show st_n (su_rc σ k) = st_n σ + 1 from rfl]
  by_cases e1 : r = st_n σ + 1
  · rw [e1, pk_us, rc_rks]
  · rw [pk_un e1, rc_rkn e1]; exact o1 (by omega)
theorem c_X9_field (h : mx_H) {P : Nat → Nat} {σ : mxS} {th kc : Int32} {pu pd : Int64} (m : MI G P h σ th kc pu pd) {a k : Int32} {r : Nat} (hr0 : ixS σ a = r) : mx_M l G base yX9_field cX9_field 3 (some .int) 2 42 0 0 [.ref (P 0), .int a, .int k] h (fun v h' => OUM P h h' ∧ (¬ (r ≠ 0 ∧ ¬ k < 0 ∧ ¬ nI 9 < k ∧ st_k σ < 200) → v = some (.int (nI 0)) ∧ MI G P h' σ (nI 0) kc pu pd) ∧ (r ≠ 0 ∧ ¬ k < 0 ∧ ¬ nI 9 < k ∧ st_k σ < 200 → v = some (.int (nI (st_k σ + 1))) ∧ MI G P h' (su_fl σ r k.toInt.toNat) (nI 0) kc pu pd)) := by
  have hk := m.1.2.1
  have hn := m.1.1
  have m1 := m.p0 (nI 0) kc pu pd
  have ne : ∀ j, 1 ≤ j → j < 18 → P j ≠ P 0 := fun j j1 j2 => m.2.1.ne j2 (by decide) (by omega)
  refine mx_enter (lo := [some (.ref (P 0)), some (.int a), some (.int k)]) (by decide) (mx_in wd_code_yX9_field rfl) (Nat.le_of_ble_eq_true rfl) rfl ?_
  intro p ev s mt args below meth cd C hr hnm
  have C : mx_C p s mt args meth cd cX9_field 3 RX9 G base := C
  first | refine mx_aload_n C dX9_field_0 (pc' := 1) rfl rfl ?_ | refine mx_aload_nq C dX9_field_0 (pc' := 1) rfl rfl ?_
  refine mx_iconst C (v := nI 0) (by decide) dX9_field_1 (pc' := 2) rfl ?_
  refine pX9_64 C dX9_field_2 (pc' := 5) rfl (m.2.2.1) (Nat.le_of_ble_eq_true rfl) rfl rfl (fs' := [_, _, _, _, _, _, _, _, _, _, _, _, _, _, _, _, _, _, _, _, _, _, _, _, _]) rfl ?_
  refine mx_heap (h' := va_up h (P 0) (some (.inr (9, mm P σ (nI 0) kc pu pd)))) rfl ?_
  first | refine mx_aload_n C dX9_field_5 (pc' := 6) rfl rfl ?_ | refine mx_aload_nq C dX9_field_5 (pc' := 6) rfl rfl ?_
  refine mx_iload_n C dX9_field_6 (pc' := 7) rfl rfl ?_
  refine cX9_75 C dX9_field_7 (pc' := 10) rfl (m1.2.2.1) (c_X9_isTop l G base _ m1) ⟨by decide, by decide, by decide, by decide, Nat.le_of_ble_eq_true rfl⟩ ?_
  rintro _ _ ⟨rfl, rfl⟩
  rw [hr0]
  refine mx_B_eq C dX9_field_10 (tgt := 33) (by decide) (pc' := 13) rfl (fun g1 => ?_) (fun g1 => ?_)
  · skip
    refine mx_iconst C (v := nI 0) (by decide) dX9_field_33 (pc' := 34) rfl ?_
    exact mx_iret C hr dX9_field_34 (by omega) (by omega) (⟨OUM.up (by decide), fun _ => ⟨rfl, m1⟩, fun z => absurd z.1 (of_decide_eq_false g1)⟩)
  have g1 := of_decide_eq_true g1
  refine mx_iload_n C dX9_field_13 (pc' := 14) rfl rfl ?_
  refine mx_if_lt C dX9_field_14 (tgt := 33) (by decide) (pc' := 17) rfl (fun g2 => ?_) (fun g2 => ?_)
  · skip
    refine mx_iconst C (v := nI 0) (by decide) dX9_field_33 (pc' := 34) rfl ?_
    exact mx_iret C hr dX9_field_34 (by omega) (by omega) (⟨OUM.up (by decide), fun _ => ⟨rfl, m1⟩, fun z => absurd g2 z.2.1⟩)
  refine mx_iload_n C dX9_field_17 (pc' := 18) rfl rfl ?_
  refine mx_bipush C (v := nI 9) (by decide) dX9_field_18 (pc' := 20) rfl ?_
  refine mx_icmp_gt C dX9_field_20 (tgt := 33) (by decide) (pc' := 23) rfl (fun g3 => ?_) (fun g3 => ?_)
  · skip
    refine mx_iconst C (v := nI 0) (by decide) dX9_field_33 (pc' := 34) rfl ?_
    exact mx_iret C hr dX9_field_34 (by omega) (by omega) (⟨OUM.up (by decide), fun _ => ⟨rfl, m1⟩, fun z => absurd g3 z.2.2.1⟩)
  first | refine mx_aload_n C dX9_field_23 (pc' := 24) rfl rfl ?_ | refine mx_aload_nq C dX9_field_23 (pc' := 24) rfl rfl ?_
  refine gX9_78 C dX9_field_24 (pc' := 27) rfl (m1.2.2.1) rfl ?_
  refine mx_sipush C (v := nI 200) (by decide) dX9_field_27 (pc' := 30) rfl ?_
  refine mx_N_ne C dX9_field_30 (tgt := 35) (by decide) (pc' := 33) rfl (by omega) (by omega) (fun g4 => ?_) (fun g4 => ?_)
  rotate_left
  · skip
    refine mx_iconst C (v := nI 0) (by decide) dX9_field_33 (pc' := 34) rfl ?_
    exact mx_iret C hr dX9_field_34 (by omega) (by omega) (⟨OUM.up (by decide), fun _ => ⟨rfl, m1⟩, fun z => absurd z.2.2.2 (by omega)⟩)
  obtain ⟨w, hw, ew⟩ : ∃ j : Nat, j ≤ 9 ∧ k = nI j := nI_of2 (M := nI 9) (n := 9) (by decide) g2 (Int32.not_lt.mp g3)
  have ekw : k.toInt.toNat = w := by rw [ew, nI_toInt (by omega)]; rfl
  rw [ekw]
  have hr1 : ixS σ a ≠ 0 := by rw [hr0]; exact g1
  obtain ⟨t1, t2⟩ := ixS_top hr1
  have ea : a = nI r := by rw [t2] at hr1; have := ixR_eq (by omega) hr1; rw [← t2, hr0] at this; exact this
  have hle := @ixS_le σ a
  rw [hr0] at hle
  first | refine mx_aload_n C dX9_field_35 (pc' := 36) rfl rfl ?_ | refine mx_aload_nq C dX9_field_35 (pc' := 36) rfl rfl ?_
  refine mx_dup C rfl dX9_field_36 (pc' := 37) rfl ?_
  refine gX9_78 C dX9_field_37 (pc' := 40) rfl (m1.2.2.1) rfl ?_
  refine mx_iconst C (v := nI 1) (by decide) dX9_field_40 (pc' := 41) rfl ?_
  refine mx_iadd C dX9_field_41 (pc' := 42) rfl ?_
  rw [nI_add]
  refine pX9_78 C dX9_field_42 (pc' := 45) rfl (m1.2.2.1) (Nat.le_of_ble_eq_true rfl) rfl rfl (fs' := [_, _, _, _, _, _, _, _, _, _, _, _, _, _, _, _, _, _, _, _, _, _, _, _, _]) rfl ?_
  refine mx_heap (bx_uu _ _ _ _) ?_
  refine mx_heap (h' := va_up h (P 0) (some (.inr (9, mm P (su_fl σ r w) (nI 0) kc pu pd)))) rfl ?_
  obtain ⟨O, T, S, Z, hO, hT, hS, hZ, o1, o2, o3⟩ := m.2.2.2.2.1
  have E0 : va_up h (P 0) (some (.inr (9, mm P (su_fl σ r w) (nI 0) kc pu pd))) (P 0) = some (.inr (9, mm P (su_fl σ r w) (nI 0) kc pu pd)) := va_up_self _ _ _
  have E1 : va_up h (P 0) (some (.inr (9, mm P (su_fl σ r w) (nI 0) kc pu pd))) (P 5) = some (.inl (G.2 0, 201, .inl O)) := by rw [va_up_ne _ _ (ne 5 (by decide) (by decide))]; exact hO
  first | refine mx_aload_n C dX9_field_45 (pc' := 46) rfl rfl ?_ | refine mx_aload_nq C dX9_field_45 (pc' := 46) rfl rfl ?_
  refine gX9_23 C dX9_field_46 (pc' := 49) rfl (E0) rfl ?_
  first | refine mx_aload_n C dX9_field_49 (pc' := 50) rfl rfl ?_ | refine mx_aload_nq C dX9_field_49 (pc' := 50) rfl rfl ?_
  refine gX9_78 C dX9_field_50 (pc' := 53) rfl (E0) rfl ?_
  refine mx_iload_n C dX9_field_53 (pc' := 54) rfl rfl ?_
  refine mx_iast C dX9_field_54 (pc' := 55) rfl (E1) (rfl) (show st_k σ + 1 < 201 by omega) (by decide) ?_
  have E2 : ∀ z, va_up (va_up h (P 0) (some (.inr (9, mm P (su_fl σ r w) (nI 0) kc pu pd)))) (P 5) z (P 0) = some (.inr (9, mm P (su_fl σ r w) (nI 0) kc pu pd)) := fun z => by rw [va_up_ne _ _ (fun z => ne 5 (by decide) (by decide) z.symm)]; exact E0
  have E3 : ∀ z, va_up (va_up h (P 0) (some (.inr (9, mm P (su_fl σ r w) (nI 0) kc pu pd)))) (P 5) z (P 6) = some (.inl (G.2 0, 201, .inl T)) := fun z => by rw [va_up_ne _ _ (m.2.1.ne (by decide) (by decide) (by decide)), va_up_ne _ _ (ne 6 (by decide) (by decide))]; exact hT
  first | refine mx_aload_n C dX9_field_55 (pc' := 56) rfl rfl ?_ | refine mx_aload_nq C dX9_field_55 (pc' := 56) rfl rfl ?_
  refine gX9_26 C dX9_field_56 (pc' := 59) rfl (E2 _) rfl ?_
  first | refine mx_aload_n C dX9_field_59 (pc' := 60) rfl rfl ?_ | refine mx_aload_nq C dX9_field_59 (pc' := 60) rfl rfl ?_
  refine gX9_78 C dX9_field_60 (pc' := 63) rfl (E2 _) rfl ?_
  refine mx_iload_n C dX9_field_63 (pc' := 64) rfl rfl ?_
  refine mx_iast C dX9_field_64 (pc' := 65) rfl (E3 _) (rfl) (show st_k σ + 1 < 201 by omega) (by decide) ?_
  have e : ∀ j, j < 18 → j ≠ 0 → j ≠ 5 → j ≠ 6 → ∀ z w q, va_up (va_up (va_up h (P 0) z) (P 5) w) (P 6) q (P j) = h (P j) := fun j hj h0 h5 h6 z w q => by rw [va_up_ne _ _ (m.2.1.ne hj (by decide) h6), va_up_ne _ _ (m.2.1.ne hj (by decide) h5), va_up_ne _ _ (m.2.1.ne hj (by decide) h0)]
  have E4 : ∀ z q, va_up (va_up (va_up h (P 0) (some (.inr (9, mm P (su_fl σ r w) (nI 0) kc pu pd)))) (P 5) z) (P 6) q (P 0) = some (.inr (9, mm P (su_fl σ r w) (nI 0) kc pu pd)) := fun z q => by rw [va_up_ne _ _ (fun z => ne 6 (by decide) (by decide) z.symm)]; exact E2 _
  first | refine mx_aload_n C dX9_field_65 (pc' := 66) rfl rfl ?_ | refine mx_aload_nq C dX9_field_65 (pc' := 66) rfl rfl ?_
  refine gX9_78 C dX9_field_66 (pc' := 69) rfl (E4 _ _) rfl ?_
  refine mx_iret C hr dX9_field_69 (by omega) (by omega) ⟨((OUM.up (by decide)).tr (OUM.up (by decide))).tr (OUM.up (by decide)), fun z => absurd ⟨g1, g2, g3, show st_k σ < 200 by omega⟩ z, fun _ => ⟨rfl, si_fl m.1 (by omega) (by omega) hle hw, m.2.1, E4 _ _, m.2.2.2.1.kept (fun j _ _ => e j (by omega) (by omega) (by omega) (by omega) _ _ _), ⟨_, _, S, Z, by rw [va_up_ne _ _ (m.2.1.ne (by decide) (by decide) (by decide)), va_up_self], va_up_self _ _ _, (e 7 (by decide) (by decide) (by decide) (by decide) _ _ _).trans hS, (e 8 (by decide) (by decide) (by decide) (by decide) _ _ _).trans hZ, fun f f1 f2 => ?_, o2, fun f f1 f2 j hj => ?_⟩, m.2.2.2.2.2.1.kept (fun j _ _ => e j (by omega) (by omega) (by omega) (by omega) _ _ _), m.2.2.2.2.2.2.kept (fun j _ _ => e j (by omega) (by omega) (by omega) (by omega) _ _ _)⟩⟩
  · have f2 : f ≤ st_k σ + 1 := f2
    show _ = nI (if f = st_k σ + 1 then r else st_ow σ f) ∧ _ = nI (if f = st_k σ + 1 then w else st_tg σ f)
    rw [show st_k (su_fl σ r w) = st_k σ + 1 from rfl]
    by_cases e1 : f = st_k σ + 1
    · rw [e1, pk_us, pk_us, if_pos rfl, if_pos rfl]; exact ⟨ea, ew⟩
    · rw [pk_un e1, pk_un e1, if_neg e1, if_neg e1]; exact o1 f f1 (by omega)
  · have f2 : f ≤ st_k σ + 1 := f2
    have hj : j < st_sz σ f := hj
    by_cases e1 : f = st_k σ + 1
    · have := m.1.2.2.2.2.2.1.2 f (by omega)
      omega
    · exact o3 f f1 (by omega) j hj
theorem c_X9_sign (h : mx_H) {P : Nat → Nat} {σ : mxS} {th kc : Int32} {pu pd : Int64} (m : MI G P h σ th kc pu pd) {i x : Int32} {f : Nat} (hf0 : ixR (st_k σ) i = f) : mx_M l G base yX9_sign cX9_sign 3 none 0 0 0 0 [.ref (P 0), .int i, .int x] h (fun v h' => v = none ∧ OUM P h h' ∧ (f ≠ 0 ∧ st_sz σ f < 60 → MI G P h' (su_sg σ f (cb x)) (nI 0) kc pu pd) ∧ (¬ (f ≠ 0 ∧ st_sz σ f < 60) → MI G P h' σ (nI 0) kc pu pd)) := by
  have hk := m.1.2.1
  have m1 := m.p0 (nI 0) kc pu pd
  have hnz := @ixR_nz (st_k σ) i
  rw [hf0] at hnz
  have q1 : i ≤ 0 ↔ i.toInt ≤ 0 := Int32.le_iff_toInt_le
  have q2 : nI (st_k σ) < i ↔ (st_k σ : Int) < i.toInt := by rw [Int32.lt_iff_toInt_lt, nI_toInt (by omega)]
  have ne : ∀ j, 1 ≤ j → j < 18 → P j ≠ P 0 := fun j j1 j2 => m.2.1.ne j2 (by decide) (by omega)
  refine mx_enter (lo := [some (.ref (P 0)), some (.int i), some (.int x)]) (by decide) (mx_in wd_code_yX9_sign rfl) (Nat.le_of_ble_eq_true rfl) rfl ?_
  intro p ev s mt args below meth cd C hr hnm
  have C : mx_C p s mt args meth cd cX9_sign 3 RX9 G base := C
  first | refine mx_aload_n C dX9_sign_0 (pc' := 1) rfl rfl ?_ | refine mx_aload_nq C dX9_sign_0 (pc' := 1) rfl rfl ?_
  refine mx_iconst C (v := nI 0) (by decide) dX9_sign_1 (pc' := 2) rfl ?_
  refine pX9_64 C dX9_sign_2 (pc' := 5) rfl (m.2.2.1) (Nat.le_of_ble_eq_true rfl) rfl rfl (fs' := [_, _, _, _, _, _, _, _, _, _, _, _, _, _, _, _, _, _, _, _, _, _, _, _, _]) rfl ?_
  refine mx_heap (h' := va_up h (P 0) (some (.inr (9, mm P σ (nI 0) kc pu pd)))) rfl ?_
  refine mx_iload_n C dX9_sign_5 (pc' := 6) rfl rfl ?_
  refine mx_if_le C dX9_sign_6 (tgt := 56) (by decide) (pc' := 9) rfl (fun g1 => ?_) (fun g1 => ?_)
  · skip
    exact mx_vret C hr dX9_sign_56 (by omega) (by omega) (⟨rfl, OUM.up (by decide), fun z => absurd (hnz.mp z.1).1 (by rw [q1] at g1; omega), fun _ => m1⟩)
  refine mx_iload_n C dX9_sign_9 (pc' := 10) rfl rfl ?_
  first | refine mx_aload_n C dX9_sign_10 (pc' := 11) rfl rfl ?_ | refine mx_aload_nq C dX9_sign_10 (pc' := 11) rfl rfl ?_
  refine gX9_78 C dX9_sign_11 (pc' := 14) rfl (m1.2.2.1) rfl ?_
  refine mx_icmp_gt C dX9_sign_14 (tgt := 56) (by decide) (pc' := 17) rfl (fun g2 => ?_) (fun g2 => ?_)
  · skip
    exact mx_vret C hr dX9_sign_56 (by omega) (by omega) (⟨rfl, OUM.up (by decide), fun z => absurd (hnz.mp z.1).2 (by rw [q2] at g2; omega), fun _ => m1⟩)
  rw [q1] at g1
  rw [q2] at g2
  have hf : f ≠ 0 := hnz.mpr ⟨by omega, by omega⟩
  have ei : i = nI f := by have := ixR_eq (n := st_k σ) (i := i) (by omega) (by rw [hf0]; exact hf); rw [hf0] at this; exact this
  subst ei
  have hle : f ≤ st_k σ := by rw [← hf0]; exact ixR_le
  obtain ⟨s1, s2, s3, h60, h256⟩ := m.1.2.2.2.2.2.1.1 f (by omega) hle
  obtain ⟨O, T, S, Z, hO, hT, hS, hZ, o1, o2, o3⟩ := m1.2.2.2.2.1
  have ez := o2 f (by omega) (by omega)
  first | refine mx_aload_n C dX9_sign_17 (pc' := 18) rfl rfl ?_ | refine mx_aload_nq C dX9_sign_17 (pc' := 18) rfl rfl ?_
  refine gX9_33 C dX9_sign_18 (pc' := 21) rfl (m1.2.2.1) rfl ?_
  refine mx_iload_n C dX9_sign_21 (pc' := 22) rfl rfl ?_
  refine mx_iald C dX9_sign_22 (pc' := 23) rfl (hZ) (rfl) (show f < 201 by omega) (by decide) ?_
  rw [ez]
  refine mx_bipush C (v := nI 60) (by decide) dX9_sign_23 (pc' := 25) rfl ?_
  refine mx_N_ge C dX9_sign_25 (tgt := 56) (by decide) (pc' := 28) rfl (by omega) (by omega) (fun g3 => ?_) (fun g3 => ?_)
  · skip
    exact mx_vret C hr dX9_sign_56 (by omega) (by omega) (⟨rfl, OUM.up (by decide), fun z => absurd z.2 (by omega), fun _ => m1⟩)
  have hx0 : vp_nar .byte (sb_b (cb x)) = sb_b (cb x) := pk_vb _
  first | refine mx_aload_n C dX9_sign_28 (pc' := 29) rfl rfl ?_ | refine mx_aload_nq C dX9_sign_28 (pc' := 29) rfl rfl ?_
  refine gX9_29 C dX9_sign_29 (pc' := 32) rfl (m1.2.2.1) rfl ?_
  refine mx_bipush C (v := nI 60) (by decide) dX9_sign_32 (pc' := 34) rfl ?_
  refine mx_iload_n C dX9_sign_34 (pc' := 35) rfl rfl ?_
  refine mx_imul C dX9_sign_35 (pc' := 36) rfl ?_
  rw [pk_mul]
  first | refine mx_aload_n C dX9_sign_36 (pc' := 37) rfl rfl ?_ | refine mx_aload_nq C dX9_sign_36 (pc' := 37) rfl rfl ?_
  refine gX9_33 C dX9_sign_37 (pc' := 40) rfl (m1.2.2.1) rfl ?_
  refine mx_iload_n C dX9_sign_40 (pc' := 41) rfl rfl ?_
  refine mx_iald C dX9_sign_41 (pc' := 42) rfl (hZ) (rfl) (show f < 201 by omega) (by decide) ?_
  rw [ez]
  refine mx_iadd C dX9_sign_42 (pc' := 43) rfl ?_
  rw [nI_add]
  refine mx_iload_n C dX9_sign_43 (pc' := 44) rfl rfl ?_
  refine mx_i2b C (cb_b x) dX9_sign_44 (pc' := 45) rfl ?_
  refine mx_bast C dX9_sign_45 (pc' := 46) rfl hS rfl (show 60 * f + st_sz σ f < 12060 by omega) (by decide) ?_
  rw [hx0]
  have E0 : ∀ z, va_up (va_up h (P 0) (some (.inr (9, mm P σ (nI 0) kc pu pd)))) (P 7) z (P 0) = some (.inr (9, mm P σ (nI 0) kc pu pd)) := fun z => by rw [va_up_ne _ _ (fun z => ne 7 (by decide) (by decide) z.symm)]; exact m1.2.2.1
  have E8 : ∀ z, va_up (va_up h (P 0) (some (.inr (9, mm P σ (nI 0) kc pu pd)))) (P 7) z (P 8) = some (.inl (G.2 0, 201, .inl Z)) := fun z => by rw [va_up_ne _ _ (m.2.1.ne (by decide) (by decide) (by decide))]; exact hZ
  first | refine mx_aload_n C dX9_sign_46 (pc' := 47) rfl rfl ?_ | refine mx_aload_nq C dX9_sign_46 (pc' := 47) rfl rfl ?_
  refine gX9_33 C dX9_sign_47 (pc' := 50) rfl (E0 _) rfl ?_
  refine mx_iload_n C dX9_sign_50 (pc' := 51) rfl rfl ?_
  refine mx_dup2 C rfl rfl dX9_sign_51 (pc' := 52) rfl ?_
  refine mx_iald C dX9_sign_52 (pc' := 53) rfl (E8 _) (rfl) (show f < 201 by omega) (by decide) ?_
  rw [ez]
  refine mx_iconst C (v := nI 1) (by decide) dX9_sign_53 (pc' := 54) rfl ?_
  refine mx_iadd C dX9_sign_54 (pc' := 55) rfl ?_
  rw [nI_add]
  refine mx_iast C dX9_sign_55 (pc' := 56) rfl (E8 _) (rfl) (show f < 201 by omega) (by decide) ?_
  have e : ∀ j, j < 18 → j ≠ 7 → j ≠ 8 → ∀ w q, va_up (va_up (va_up h (P 0) (some (.inr (9, mm P σ (nI 0) kc pu pd)))) (P 7) w) (P 8) q (P j) = va_up h (P 0) (some (.inr (9, mm P σ (nI 0) kc pu pd))) (P j) := fun j hj h5 h6 w q => by rw [va_up_ne _ _ (m.2.1.ne hj (by decide) h6), va_up_ne _ _ (m.2.1.ne hj (by decide) h5)]
  have hcb : cb x < 256 := Nat.mod_lt _ (by decide)
  refine mx_vret C hr dX9_sign_56 (by omega) (by omega) ⟨rfl, ((OUM.up (by decide)).tr (OUM.up (by decide))).tr (OUM.up (by decide)), fun _ => ⟨si_sg m.1 (by omega) hle g3 hcb, m.2.1, (e 0 (by decide) (by decide) (by decide) _ _).trans m1.2.2.1, m1.2.2.2.1.kept (fun j _ _ => e j (by omega) (by omega) (by omega) _ _), ⟨O, T, _, _, (e 5 (by decide) (by decide) (by decide) _ _).trans hO, (e 6 (by decide) (by decide) (by decide) _ _).trans hT, by rw [va_up_ne _ _ (m.2.1.ne (by decide) (by decide) (by decide)), va_up_self], va_up_self _ _ _, o1, fun q q1 q2 => ?_, fun q q1 q2 j hj => ?_⟩, m1.2.2.2.2.2.1.kept (fun j _ _ => e j (by omega) (by omega) (by omega) _ _), m1.2.2.2.2.2.2.kept (fun j _ _ => e j (by omega) (by omega) (by omega) _ _)⟩, fun z => absurd ⟨hf, g3⟩ z⟩
  · show _ = nI (if q = f then st_sz σ f + 1 else st_sz σ q)
    by_cases e1 : q = f
    · rw [e1, pk_us, if_pos rfl]
    · rw [pk_un e1, if_neg e1]; exact o2 q q1 q2
  · have q2 : q ≤ st_k σ := q2
    have hj : j < (if q = f then st_sz σ f + 1 else st_sz σ q) := hj
    show _ = sb_b ((if q = f then va_up (st_sg σ f) (st_sz σ f) (cb x) else st_sg σ q) j)
    by_cases e1 : q = f
    · rw [if_pos e1] at hj
      rw [if_pos e1, e1]
      by_cases e2 : j = st_sz σ f
      · rw [e2, pk_us, va_up_self]
      · rw [pk_un (by omega), va_up_ne _ _ e2]; exact o3 f (by omega) hle j (by omega)
    · rw [if_neg e1] at hj
      rw [if_neg e1]
      have hq60 := (m.1.2.2.2.2.2.1.1 q q1 q2).2.2.2.1
      rw [pk_un (by omega)]
      exact o3 q q1 q2 j hj
theorem c_X9_isbn (h : mx_H) {P : Nat → Nat} {σ : mxS} {th kc : Int32} {pu pd : Int64} (m : MI G P h σ th kc pu pd) {a i : Int32} {r : Nat} (hr0 : ixS σ a = r) : mx_M l G base yX9_isbn cX9_isbn 5 (some .int) 2 57 0 0 [.ref (P 0), .int a, .int i] h (fun v h' => v = some (.int (if r = 0 ∨ i < 0 then -1 else isbA σ r i)) ∧ MI G P h' σ (nI 0) kc pu pd ∧ OUM P h h') := by
  have hk := m.1.2.1
  have hn := m.1.1
  have m1 := m.p0 (nI 0) kc pu pd
  have ho : OUM P h (va_up h (P 0) (some (.inr (9, mm P σ (nI 0) kc pu pd)))) := OUM.up (by decide)
  obtain ⟨O, T, S, Z, hO, hT, hS, hZ, o1, o2, o3⟩ := m1.2.2.2.2.1
  refine mx_enter (lo := [some (.ref (P 0)), some (.int a), some (.int i), none, none]) (by decide) (mx_in wd_code_yX9_isbn rfl) (Nat.le_of_ble_eq_true rfl) rfl ?_
  intro p ev s mt args below meth cd C hr hnm
  have C : mx_C p s mt args meth cd cX9_isbn 5 RX9 G base := C
  first | refine mx_aload_n C dX9_isbn_0 (pc' := 1) rfl rfl ?_ | refine mx_aload_nq C dX9_isbn_0 (pc' := 1) rfl rfl ?_
  refine mx_iconst C (v := nI 0) (by decide) dX9_isbn_1 (pc' := 2) rfl ?_
  refine pX9_64 C dX9_isbn_2 (pc' := 5) rfl (m.2.2.1) (Nat.le_of_ble_eq_true rfl) rfl rfl (fs' := [_, _, _, _, _, _, _, _, _, _, _, _, _, _, _, _, _, _, _, _, _, _, _, _, _]) rfl ?_
  refine mx_heap (h' := va_up h (P 0) (some (.inr (9, mm P σ (nI 0) kc pu pd)))) rfl ?_
  generalize va_up h (P 0) (some (.inr (9, mm P σ (nI 0) kc pu pd))) = h1 at *
  have loop : ∀ (d j : Nat), st_k σ - j = d → j ≤ st_k σ → (r ≠ 0 ∧ ¬ i < 0 → fiB (fun j => isT σ r 2 j && decide (nI (cntB (isT σ r 2) j) = i)) j = none) → (¬ (r ≠ 0 ∧ ¬ i < 0) → j = 0) → mx_V p l ev { frames := 2, cells := 0, slots := 0, locals := 57 } s mt args below meth cd G base 5 (MQ below (mx_Qc G base (fun v h' => v = some (.int (if r = 0 ∨ i < 0 then -1 else isbA σ r i)) ∧ MI G P h' σ (nI 0) kc pu pd ∧ OUM P h h')) args s 0 0 (mx_A base)) h1 0 0 10 [some (.ref (P 0)), some (.int a), some (.int i), some (.int (nI (cntB (isT σ r 2) j))), some (.int (nI (j + 1)))] [] := by
    intro d
    induction d using Nat.strongRecOn with
    | ind d ih =>
    intro j hd hj hno hz
    refine mx_iload C dX9_isbn_10 (pc' := 12) rfl rfl ?_
    first | refine mx_aload_n C dX9_isbn_12 (pc' := 13) rfl rfl ?_ | refine mx_aload_nq C dX9_isbn_12 (pc' := 13) rfl rfl ?_
    refine gX9_78 C dX9_isbn_13 (pc' := 16) rfl (m1.2.2.1) rfl ?_
    have none_ : (r = 0 ∨ i < 0 ∨ j = st_k σ) → mx_V p l ev { frames := 2, cells := 0, slots := 0, locals := 57 } s mt args below meth cd G base 5 (MQ below (mx_Qc G base (fun v h' => v = some (.int (if r = 0 ∨ i < 0 then -1 else isbA σ r i)) ∧ MI G P h' σ (nI 0) kc pu pd ∧ OUM P h h')) args s 0 0 (mx_A base)) h1 0 0 85 [some (.ref (P 0)), some (.int a), some (.int i), some (.int (nI (cntB (isT σ r 2) j))), some (.int (nI (j + 1)))] [] := by
      intro hc
      refine mx_iconst C (v := (-1)) (by decide) dX9_isbn_85 (pc' := 86) rfl ?_
      refine mx_iret C hr dX9_isbn_86 (by omega) (by omega) ⟨?_, m1, ho⟩
      by_cases e : r = 0 ∨ i < 0
      · rw [if_pos e]
      · rw [if_neg e]
        have e2 : j = st_k σ := by
          rcases hc with z | z | z
          · exact absurd (Or.inl z) e
          · exact absurd (Or.inr z) e
          · exact z
        have := hno ⟨fun z => e (Or.inl z), fun z => e (Or.inr z)⟩
        rw [e2] at this
        unfold isbA isb
        rw [this]
    refine mx_N_gt C dX9_isbn_16 (tgt := 85) (by decide) (pc' := 19) rfl (by omega) (by omega) (fun g1 => ?_) (fun g1 => ?_)
    · exact none_ (Or.inr (Or.inr (by omega)))
    refine mx_iload_n C dX9_isbn_19 (pc' := 20) rfl rfl ?_
    refine mx_if_lt C dX9_isbn_20 (tgt := 85) (by decide) (pc' := 23) rfl (fun g2 => ?_) (fun g2 => ?_)
    · exact none_ (Or.inr (Or.inl g2))
    first | refine mx_aload_n C dX9_isbn_23 (pc' := 24) rfl rfl ?_ | refine mx_aload_nq C dX9_isbn_23 (pc' := 24) rfl rfl ?_
    refine mx_iload_n C dX9_isbn_24 (pc' := 25) rfl rfl ?_
    refine cX9_75 C dX9_isbn_25 (pc' := 28) rfl (m1.2.2.1) (c_X9_isTop l G base _ m1) ⟨by decide, by decide, by decide, by decide, Nat.le_of_ble_eq_true rfl⟩ ?_
    rintro _ _ ⟨rfl, rfl⟩
    rw [hr0]
    refine mx_B_eq C dX9_isbn_28 (tgt := 85) (by decide) (pc' := 31) rfl (fun g3 => ?_) (fun g3 => ?_)
    · exact none_ (Or.inl (Decidable.not_not.mp (of_decide_eq_false g3)))
    have g3 := of_decide_eq_true g3
    have hno := hno ⟨g3, g2⟩
    have hr1 : ixS σ a ≠ 0 := by rw [hr0]; exact g3
    obtain ⟨t1, t2⟩ := ixS_top hr1
    have ea : a = nI r := by rw [t2] at hr1; have := ixR_eq (by omega) hr1; rw [← t2, hr0] at this; exact this
    have hle := @ixS_le σ a
    rw [hr0] at hle
    subst ea
    have hlt : j + 1 ≤ st_k σ := g1
    have hcl := cntB_le (isT σ r 2) j
    have s9 := (m.1.2.2.2.2.2.1.1 (j + 1) (by omega) hlt).1
    first | refine mx_aload_n C dX9_isbn_31 (pc' := 32) rfl rfl ?_ | refine mx_aload_nq C dX9_isbn_31 (pc' := 32) rfl rfl ?_
    refine mx_iload C dX9_isbn_32 (pc' := 34) rfl rfl ?_
    refine mx_iload_n C dX9_isbn_34 (pc' := 35) rfl rfl ?_
    refine cX9_104 C dX9_isbn_35 (pc' := 38) rfl (m1.2.2.1) (c_X9_isOf l G base _ m1 (show 1 ≤ j + 1 by omega) hlt hle) ⟨by decide, by decide, by decide, by decide, Nat.le_of_ble_eq_true rfl⟩ ?_
    rintro _ _ ⟨rfl, rfl⟩
    refine mx_B_eq C dX9_isbn_38 (tgt := 79) (by decide) (pc' := 41) rfl (fun g4 => ?_) (fun g4 => ?_)
    · have e1 : isT σ r 2 j = false := by unfold isT; rw [g4, Bool.and_false]
      have := ih _ (show st_k σ - (j + 1) < d by omega) (j + 1) rfl hlt (fun _ => fiB_s hno (by rw [e1]; rfl)) (fun z => absurd ⟨g3, g2⟩ z)
      rw [cntB_n e1] at this
      refine mx_iinc C dX9_isbn_79 (pc' := 82) rfl rfl (mx_inc _) (by first | exact mx_c1_0 | exact mx_c1_int rfl | exact mx_c1_ref rfl | exact mx_c1_none rfl | exact mx_c1_rf rfl | exact mx_c1_null rfl) (by decide) (lo' := [_, _, _, _, _]) rfl ?_
      refine mx_goto C dX9_isbn_82 (tgt := 10) (by decide) ?_
      exact this
    first | refine mx_aload_n C dX9_isbn_41 (pc' := 42) rfl rfl ?_ | refine mx_aload_nq C dX9_isbn_41 (pc' := 42) rfl rfl ?_
    refine gX9_26 C dX9_isbn_42 (pc' := 45) rfl (m1.2.2.1) rfl ?_
    refine mx_iload C dX9_isbn_45 (pc' := 47) rfl rfl ?_
    refine mx_iald C dX9_isbn_47 (pc' := 48) rfl (hT) (rfl) (show j + 1 < 201 by omega) (by decide) ?_
    rw [(o1 (j + 1) (by omega) hlt).2]
    refine mx_iconst C (v := nI 2) (by decide) dX9_isbn_48 (pc' := 49) rfl ?_
    refine mx_N_ne C dX9_isbn_49 (tgt := 79) (by decide) (pc' := 52) rfl (by omega) (by omega) (fun g5 => ?_) (fun g5 => ?_)
    · have e1 : isT σ r 2 j = false := by unfold isT; rw [decide_eq_false g5]; rfl
      have := ih _ (show st_k σ - (j + 1) < d by omega) (j + 1) rfl hlt (fun _ => fiB_s hno (by rw [e1]; rfl)) (fun z => absurd ⟨g3, g2⟩ z)
      rw [cntB_n e1] at this
      refine mx_iinc C dX9_isbn_79 (pc' := 82) rfl rfl (mx_inc _) (by first | exact mx_c1_0 | exact mx_c1_int rfl | exact mx_c1_ref rfl | exact mx_c1_none rfl | exact mx_c1_rf rfl | exact mx_c1_null rfl) (by decide) (lo' := [_, _, _, _, _]) rfl ?_
      refine mx_goto C dX9_isbn_82 (tgt := 10) (by decide) ?_
      exact this
    have e1 : isT σ r 2 j = true := by unfold isT; rw [g4, decide_eq_true g5]; rfl
    refine mx_iload_n C dX9_isbn_52 (pc' := 53) rfl rfl ?_
    refine mx_iload_n C dX9_isbn_53 (pc' := 54) rfl rfl ?_
    refine mx_icmp_ne C dX9_isbn_54 (tgt := 76) (by decide) (pc' := 57) rfl (fun g6 => ?_) (fun g6 => ?_)
    · have := ih _ (show st_k σ - (j + 1) < d by omega) (j + 1) rfl hlt (fun _ => fiB_s hno (by rw [e1, decide_eq_false g6]; rfl)) (fun z => absurd ⟨g3, g2⟩ z)
      rw [cntB_t e1] at this
      refine mx_iinc C dX9_isbn_76 (pc' := 79) rfl rfl (mx_inc _) (by first | exact mx_c1_0 | exact mx_c1_int rfl | exact mx_c1_ref rfl | exact mx_c1_none rfl | exact mx_c1_rf rfl | exact mx_c1_null rfl) (by decide) (lo' := [_, _, _, _, _]) rfl ?_
      refine mx_iinc C dX9_isbn_79 (pc' := 82) rfl rfl (mx_inc _) (by first | exact mx_c1_0 | exact mx_c1_int rfl | exact mx_c1_ref rfl | exact mx_c1_none rfl | exact mx_c1_rf rfl | exact mx_c1_null rfl) (by decide) (lo' := [_, _, _, _, _]) rfl ?_
      refine mx_goto C dX9_isbn_82 (tgt := 10) (by decide) ?_
      exact this
    have e2 : isbA σ r i = mx_b (bform (st_sg σ (j + 1)) (st_sz σ (j + 1))).isSome := by
      unfold isbA isb
      rw [fiB_m (fiB_t hno (by rw [e1, decide_eq_true g6]; rfl)) hlt]
    have hno2 : ¬ (r = 0 ∨ i < 0) := by
      rintro (z | z)
      · exact g3 z
      · exact g2 z
    rw [if_neg hno2, e2]
    first | refine mx_aload_n C dX9_isbn_57 (pc' := 58) rfl rfl ?_ | refine mx_aload_nq C dX9_isbn_57 (pc' := 58) rfl rfl ?_
    refine mx_iload C dX9_isbn_58 (pc' := 60) rfl rfl ?_
    refine cX9_108 C dX9_isbn_60 (pc' := 63) rfl (m1.2.2.1) (c_X9_form l G base _ m1 (show 1 ≤ j + 1 by omega) hlt rfl rfl) ⟨by decide, by decide, by decide, by decide, Nat.le_of_ble_eq_true rfl⟩ ?_
    rintro _ _ ⟨rfl, rfl⟩
    refine kX9_99 C dX9_isbn_63 (pc' := 66) rfl ?_
    refine mx_lcmp C dX9_isbn_66 (pc' := 67) rfl ?_
    refine mx_L_eq C dX9_isbn_67 (tgt := 74) (by decide) (pc' := 70) rfl (fun g7 => ?_) (fun g7 => ?_)
    · skip
      refine mx_iconst C (v := nI 0) (by decide) dX9_isbn_74 (pc' := 75) rfl ?_
      exact mx_iret C hr dX9_isbn_75 (by omega) (by omega) (⟨mx_ok0 (by rw [bfL_none.mp g7]; rfl), m1, ho⟩)
    · skip
      refine mx_iconst C (v := nI 1) (by decide) dX9_isbn_70 (pc' := 71) rfl ?_
      refine mx_goto C dX9_isbn_71 (tgt := 75) (by decide) ?_
      exact mx_iret C hr dX9_isbn_75 (by omega) (by omega) (⟨mx_ok1 (by cases hf : bform (st_sg σ (j + 1)) (st_sz σ (j + 1)) with | none => exact absurd (bfL_none.mpr hf) g7 | some f => rfl), m1, ho⟩)
  refine mx_iconst C (v := nI 0) (by decide) dX9_isbn_5 (pc' := 6) rfl ?_
  refine mx_istore_n C dX9_isbn_6 (pc' := 7) rfl (by first | exact mx_c1_0 | exact mx_c1_int rfl | exact mx_c1_ref rfl | exact mx_c1_none rfl | exact mx_c1_rf rfl | exact mx_c1_null rfl) (by decide) (lo' := [_, _, _, _, _]) rfl ?_
  refine mx_iconst C (v := nI 1) (by decide) dX9_isbn_7 (pc' := 8) rfl ?_
  refine mx_istore C dX9_isbn_8 (pc' := 10) rfl (by first | exact mx_c1_0 | exact mx_c1_int rfl | exact mx_c1_ref rfl | exact mx_c1_none rfl | exact mx_c1_rf rfl | exact mx_c1_null rfl) (by decide) (lo' := [_, _, _, _, _]) rfl ?_
  exact loop _ 0 rfl (by omega) (fun _ => rfl) (fun _ => rfl)
theorem c_X9_weight (h : mx_H) {P : Nat → Nat} {σ : mxS} {th kc : Int32} {pu pd : Int64} (m : MI G P h σ th kc pu pd) {i : Int32} {u d : Int64} : mx_M l G base yX9_weight cX9_weight 6 (some .int) 0 0 0 0 [.ref (P 0), .int i, .long u, .long d] h (fun v h' => OUM P h h' ∧ (i < 0 ∨ nI 5 ≤ i ∨ u < lN 0 ∨ lN 100 < u ∨ d < lN 1 ∨ lN 10 < d → v = some (.int (nI 0)) ∧ MI G P h' σ (nI 0) kc pu pd) ∧ (¬ (i < 0 ∨ nI 5 ≤ i ∨ u < lN 0 ∨ lN 100 < u ∨ d < lN 1 ∨ lN 10 < d) → v = some (.int (nI 1)) ∧ MI G P h' (su_wt σ i.toInt.toNat u.toInt.toNat d.toInt.toNat) (nI 0) kc pu pd)) := by
  have m1 := m.p0 (nI 0) kc pu pd
  have ho : OUM P h (va_up h (P 0) (some (.inr (9, mm P σ (nI 0) kc pu pd)))) := OUM.up (by decide)
  have ne : ∀ j, 1 ≤ j → j < 18 → P j ≠ P 0 := fun j j1 j2 => m.2.1.ne j2 (by decide) (by omega)
  have q5 : nI 5 ≤ i ↔ nI 4 < i := by rw [Int32.le_iff_toInt_le, Int32.lt_iff_toInt_lt, nI_toInt (by decide), nI_toInt (by decide)]; omega
  refine mx_enter (lo := [some (.ref (P 0)), some (.int i), some (.long u), none, some (.long d), none]) (by decide) (mx_in wd_code_yX9_weight rfl) (Nat.le_of_ble_eq_true rfl) rfl ?_
  intro p ev s mt args below meth cd C hr hnm
  have C : mx_C p s mt args meth cd cX9_weight 6 RX9 G base := C
  first | refine mx_aload_n C dX9_weight_0 (pc' := 1) rfl rfl ?_ | refine mx_aload_nq C dX9_weight_0 (pc' := 1) rfl rfl ?_
  refine mx_iconst C (v := nI 0) (by decide) dX9_weight_1 (pc' := 2) rfl ?_
  refine pX9_64 C dX9_weight_2 (pc' := 5) rfl (m.2.2.1) (Nat.le_of_ble_eq_true rfl) rfl rfl (fs' := [_, _, _, _, _, _, _, _, _, _, _, _, _, _, _, _, _, _, _, _, _, _, _, _, _]) rfl ?_
  refine mx_heap (h' := va_up h (P 0) (some (.inr (9, mm P σ (nI 0) kc pu pd)))) rfl ?_
  refine mx_iload_n C dX9_weight_5 (pc' := 6) rfl rfl ?_
  refine mx_if_lt C dX9_weight_6 (tgt := 44) (by decide) (pc' := 9) rfl (fun h1 => ?_) (fun h1 => ?_)
  · skip
    refine mx_iconst C (v := nI 0) (by decide) dX9_weight_44 (pc' := 45) rfl ?_
    exact mx_iret C hr dX9_weight_45 (by omega) (by omega) (⟨ho, fun _ => ⟨rfl, m1⟩, fun z => absurd (Or.inl h1) z⟩)
  refine mx_iload_n C dX9_weight_9 (pc' := 10) rfl rfl ?_
  refine mx_iconst C (v := nI 4) (by decide) dX9_weight_10 (pc' := 11) rfl ?_
  refine mx_icmp_gt C dX9_weight_11 (tgt := 44) (by decide) (pc' := 14) rfl (fun h6 => ?_) (fun h6 => ?_)
  · skip
    refine mx_iconst C (v := nI 0) (by decide) dX9_weight_44 (pc' := 45) rfl ?_
    exact mx_iret C hr dX9_weight_45 (by omega) (by omega) (⟨ho, fun _ => ⟨rfl, m1⟩, fun z => absurd (Or.inr (Or.inl (q5.mpr h6))) z⟩)
  refine mx_lload_n C dX9_weight_14 (pc' := 15) rfl rfl ?_
  refine mx_lconst C (v := lN 0) (by decide) dX9_weight_15 (pc' := 16) rfl ?_
  refine mx_lcmp C dX9_weight_16 (pc' := 17) rfl ?_
  refine mx_L_lt C dX9_weight_17 (tgt := 44) (by decide) (pc' := 20) rfl (fun h12 => ?_) (fun h12 => ?_)
  · skip
    refine mx_iconst C (v := nI 0) (by decide) dX9_weight_44 (pc' := 45) rfl ?_
    exact mx_iret C hr dX9_weight_45 (by omega) (by omega) (⟨ho, fun _ => ⟨rfl, m1⟩, fun z => absurd (Or.inr (Or.inr (Or.inl h12))) z⟩)
  refine mx_lload_n C dX9_weight_20 (pc' := 21) rfl rfl ?_
  refine kX9_112 C dX9_weight_21 (pc' := 24) rfl ?_
  refine mx_lcmp C dX9_weight_24 (pc' := 25) rfl ?_
  refine mx_L_gt C dX9_weight_25 (tgt := 44) (by decide) (pc' := 28) rfl (fun h20 => ?_) (fun h20 => ?_)
  · skip
    refine mx_iconst C (v := nI 0) (by decide) dX9_weight_44 (pc' := 45) rfl ?_
    exact mx_iret C hr dX9_weight_45 (by omega) (by omega) (⟨ho, fun _ => ⟨rfl, m1⟩, fun z => absurd (Or.inr (Or.inr (Or.inr (Or.inl h20)))) z⟩)
  refine mx_lload C dX9_weight_28 (pc' := 30) rfl rfl ?_
  refine mx_lconst C (v := lN 1) (by decide) dX9_weight_30 (pc' := 31) rfl ?_
  refine mx_lcmp C dX9_weight_31 (pc' := 32) rfl ?_
  refine mx_L_lt C dX9_weight_32 (tgt := 44) (by decide) (pc' := 35) rfl (fun h27 => ?_) (fun h27 => ?_)
  · skip
    refine mx_iconst C (v := nI 0) (by decide) dX9_weight_44 (pc' := 45) rfl ?_
    exact mx_iret C hr dX9_weight_45 (by omega) (by omega) (⟨ho, fun _ => ⟨rfl, m1⟩, fun z => absurd (Or.inr (Or.inr (Or.inr (Or.inr (Or.inl h27))))) z⟩)
  refine mx_lload C dX9_weight_35 (pc' := 37) rfl rfl ?_
  refine kX9_95 C dX9_weight_37 (pc' := 40) rfl ?_
  refine mx_lcmp C dX9_weight_40 (pc' := 41) rfl ?_
  refine mx_L_le C dX9_weight_41 (tgt := 46) (by decide) (pc' := 44) rfl (fun h36 => ?_) (fun h36 => ?_)
  rotate_left
  · skip
    refine mx_iconst C (v := nI 0) (by decide) dX9_weight_44 (pc' := 45) rfl ?_
    exact mx_iret C hr dX9_weight_45 (by omega) (by omega) (⟨ho, fun _ => ⟨rfl, m1⟩, fun z => absurd (Or.inr (Or.inr (Or.inr (Or.inr (Or.inr (Int64.not_le.mp h36)))))) z⟩)
  have hno : ¬ (i < 0 ∨ nI 5 ≤ i ∨ u < lN 0 ∨ lN 100 < u ∨ d < lN 1 ∨ lN 10 < d) := by
    rintro (z | z | z | z | z | z)
    · exact h1 z
    · exact h6 (q5.mp z)
    · exact h12 z
    · exact h20 z
    · exact h27 z
    · exact absurd h36 (Int64.not_le.mpr z)
  obtain ⟨j, hj, ej⟩ : ∃ j : Nat, j < 5 ∧ i = nI j := by
    rcases pk_ix i (n := 5) (by decide) with z | z | z
    · exact absurd z h1
    · exact absurd (q5.mp z) h6
    · exact z
  have e2 : i.toInt.toNat = j := by rw [ej, nI_toInt (by omega)]; rfl
  obtain ⟨u', hu1, eu⟩ := pk_lOf h12
  have e3 : u.toInt.toNat = u' := by rw [eu, pk_lT (by omega)]; rfl
  have hu2 : u' ≤ 100 := Nat.not_lt.mp (fun z => h20 (by rw [eu]; exact (pk_lLT (by decide) hu1).mpr z))
  obtain ⟨d', hd1, ed⟩ := pk_lOf (x := d) (fun z => h27 (Int64.lt_trans z (by decide)))
  have e4 : d.toInt.toNat = d' := by rw [ed, pk_lT (by omega)]; rfl
  have hd2 : d' ≤ 10 := by rw [ed] at h36; exact (pk_lLE hd1 (by decide)).mp h36
  have hd3 : 1 ≤ d' := Nat.not_lt.mp (fun z => h27 (by rw [ed]; exact (pk_lLT hd1 (by decide)).mpr z))
  rw [e2, e3, e4]
  subst ej; subst eu; subst ed
  obtain ⟨U, D, F, hU, hD, hF, o1, o2⟩ := m1.2.2.2.2.2.1
  have E0 : ∀ z, va_up (va_up h (P 0) (some (.inr (9, mm P σ (nI 0) kc pu pd)))) (P 9) z (P 0) = some (.inr (9, mm P σ (nI 0) kc pu pd)) := fun z => by rw [va_up_ne _ _ (fun z => ne 9 (by decide) (by decide) z.symm)]; exact m1.2.2.1
  have E8 : ∀ z, va_up (va_up h (P 0) (some (.inr (9, mm P σ (nI 0) kc pu pd)))) (P 9) z (P 10) = some (.inl (G.2 0, 5, .inl D)) := fun z => by rw [va_up_ne _ _ (m.2.1.ne (by decide) (by decide) (by decide))]; exact hD
  first | refine mx_aload_n C dX9_weight_46 (pc' := 47) rfl rfl ?_ | refine mx_aload_nq C dX9_weight_46 (pc' := 47) rfl rfl ?_
  refine gX9_36 C dX9_weight_47 (pc' := 50) rfl (m1.2.2.1) rfl ?_
  refine mx_iload_n C dX9_weight_50 (pc' := 51) rfl rfl ?_
  refine mx_lload_n C dX9_weight_51 (pc' := 52) rfl rfl ?_
  refine mx_l2i C (lN_i u') dX9_weight_52 (pc' := 53) rfl ?_
  refine mx_iast C dX9_weight_53 (pc' := 54) rfl (hU) (rfl) (hj) (by decide) ?_
  first | refine mx_aload_n C dX9_weight_54 (pc' := 55) rfl rfl ?_ | refine mx_aload_nq C dX9_weight_54 (pc' := 55) rfl rfl ?_
  refine gX9_39 C dX9_weight_55 (pc' := 58) rfl (E0 _) rfl ?_
  refine mx_iload_n C dX9_weight_58 (pc' := 59) rfl rfl ?_
  refine mx_lload C dX9_weight_59 (pc' := 61) rfl rfl ?_
  refine mx_l2i C (lN_i d') dX9_weight_61 (pc' := 62) rfl ?_
  refine mx_iast C dX9_weight_62 (pc' := 63) rfl (E8 _) (rfl) (hj) (by decide) ?_
  refine mx_iconst C (v := nI 1) (by decide) dX9_weight_63 (pc' := 64) rfl ?_
  have e : ∀ j, j < 18 → j ≠ 9 → j ≠ 10 → ∀ w q, va_up (va_up (va_up h (P 0) (some (.inr (9, mm P σ (nI 0) kc pu pd)))) (P 9) w) (P 10) q (P j) = va_up h (P 0) (some (.inr (9, mm P σ (nI 0) kc pu pd))) (P j) := fun j hj h5 h6 w q => by rw [va_up_ne _ _ (m.2.1.ne hj (by decide) h6), va_up_ne _ _ (m.2.1.ne hj (by decide) h5)]
  refine mx_iret C hr dX9_weight_64 (by omega) (by omega) ⟨(ho.tr (OUM.up (by decide))).tr (OUM.up (by decide)), fun z => absurd z hno, fun _ => ⟨rfl, si_wt m.1 hu2 hd3 hd2, m.2.1, (e 0 (by decide) (by decide) (by decide) _ _).trans m1.2.2.1, m1.2.2.2.1.kept (fun j _ _ => e j (by omega) (by omega) (by omega) _ _), m1.2.2.2.2.1.kept (fun j _ _ => e j (by omega) (by omega) (by omega) _ _), ⟨_, _, F, by rw [va_up_ne _ _ (m.2.1.ne (by decide) (by decide) (by decide)), va_up_self], va_up_self _ _ _, (e 11 (by decide) (by decide) (by decide) _ _).trans hF, fun q hq => ?_, o2⟩, m1.2.2.2.2.2.2.kept (fun j _ _ => e j (by omega) (by omega) (by omega) _ _)⟩⟩
  show _ = nI (up1 (st_up σ) j u' q) ∧ _ = nI (up1 (st_dn σ) j d' q)
  by_cases e1 : q = j
  · rw [e1, pk_us, pk_us, up1_s, up1_s]; exact ⟨rfl, rfl⟩
  · rw [pk_un e1, pk_un e1, up1_n e1, up1_n e1]; exact o1 q hq
theorem c_X9_at_ (h : mx_H) {P : Nat → Nat} {σ : mxS} {th kc : Int32} {pu pd : Int64} (m : MI G P h σ th kc pu pd) {i : Int32} : mx_M l G base yX9_at_ cX9_at_ 2 (some .int) 0 0 0 0 [.ref (P 0), .int i] h (fun v h' => v = some (.int (if i < 0 ∨ nI (st_f σ) ≤ i then -1 else nI (st_fd σ i.toInt.toNat))) ∧ MI G P h' σ (nI 0) kc pu pd ∧ OUM P h h') := by
  have m1 := m.p0 (nI 0) kc pu pd
  have hf := m.1.2.2.2.1
  have ho : OUM P h (va_up h (P 0) (some (.inr (9, mm P σ (nI 0) kc pu pd)))) := OUM.up (by decide)
  refine mx_enter (lo := [some (.ref (P 0)), some (.int i)]) (by decide) (mx_in wd_code_yX9_at_ rfl) (Nat.le_of_ble_eq_true rfl) rfl ?_
  intro p ev s mt args below meth cd C hr hnm
  have C : mx_C p s mt args meth cd cX9_at_ 2 RX9 G base := C
  first | refine mx_aload_n C dX9_at__0 (pc' := 1) rfl rfl ?_ | refine mx_aload_nq C dX9_at__0 (pc' := 1) rfl rfl ?_
  refine mx_iconst C (v := nI 0) (by decide) dX9_at__1 (pc' := 2) rfl ?_
  refine pX9_64 C dX9_at__2 (pc' := 5) rfl (m.2.2.1) (Nat.le_of_ble_eq_true rfl) rfl rfl (fs' := [_, _, _, _, _, _, _, _, _, _, _, _, _, _, _, _, _, _, _, _, _, _, _, _, _]) rfl ?_
  refine mx_heap (h' := va_up h (P 0) (some (.inr (9, mm P σ (nI 0) kc pu pd)))) rfl ?_
  refine mx_iload_n C dX9_at__5 (pc' := 6) rfl rfl ?_
  refine mx_if_lt C dX9_at__6 (tgt := 17) (by decide) (pc' := 9) rfl (fun g1 => ?_) (fun g1 => ?_)
  · skip
    refine mx_iconst C (v := (-1)) (by decide) dX9_at__17 (pc' := 18) rfl ?_
    refine mx_goto C dX9_at__18 (tgt := 27) (by decide) ?_
    exact mx_iret C hr dX9_at__27 (by omega) (by omega) (⟨by rw [if_pos (Or.inl g1)], m1, ho⟩)
  refine mx_iload_n C dX9_at__9 (pc' := 10) rfl rfl ?_
  first | refine mx_aload_n C dX9_at__10 (pc' := 11) rfl rfl ?_ | refine mx_aload_nq C dX9_at__10 (pc' := 11) rfl rfl ?_
  refine gX9_129 C dX9_at__11 (pc' := 14) rfl (m1.2.2.1) rfl ?_
  refine mx_icmp_lt C dX9_at__14 (tgt := 21) (by decide) (pc' := 17) rfl (fun g2 => ?_) (fun g2 => ?_)
  rotate_left
  · skip
    refine mx_iconst C (v := (-1)) (by decide) dX9_at__17 (pc' := 18) rfl ?_
    refine mx_goto C dX9_at__18 (tgt := 27) (by decide) ?_
    exact mx_iret C hr dX9_at__27 (by omega) (by omega) (⟨by rw [if_pos (Or.inr (Int32.not_lt.mp g2))], m1, ho⟩)
  have hno : ¬ (i < 0 ∨ nI (st_f σ) ≤ i) := by
    rintro (z | z)
    · exact g1 z
    · exact absurd g2 (Int32.not_lt.mpr z)
  obtain ⟨j, hj, ej⟩ : ∃ j : Nat, j < st_f σ ∧ i = nI j := by
    rcases pk_ix i (n := st_f σ) (by omega) with z | z | z
    · exact absurd (Or.inl z) hno
    · exact absurd (Or.inr z) hno
    · exact z
  have e2 : i.toInt.toNat = j := by rw [ej, nI_toInt (by omega)]; rfl
  rw [if_neg hno, e2]
  subst ej
  obtain ⟨U, D, F, hU, hD, hF, o1, o2⟩ := m1.2.2.2.2.2.1
  first | refine mx_aload_n C dX9_at__21 (pc' := 22) rfl rfl ?_ | refine mx_aload_nq C dX9_at__21 (pc' := 22) rfl rfl ?_
  refine gX9_42 C dX9_at__22 (pc' := 25) rfl (m1.2.2.1) rfl ?_
  refine mx_iload_n C dX9_at__25 (pc' := 26) rfl rfl ?_
  refine mx_iald C dX9_at__26 (pc' := 27) rfl (hF) (rfl) (show j < 40 by omega) (by decide) ?_
  rw [o2 j hj]
  exact mx_iret C hr dX9_at__27 (by omega) (by omega) (⟨rfl, m1, ho⟩)
end R4
