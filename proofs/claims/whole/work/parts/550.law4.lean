/-! the law: its loop, its start -/
theorem LI.up {G : mx_G} {A : mxA} {P : Nat → Nat} {z n : Nat} {h : mx_H} {σ : mxS} (k : LI G A P z h σ n) : LI G A P z h σ (n + 1) := ⟨k.1, k.2.1, k.2.2.1, k.2.2.2.1, k.2.2.2.2.1, k.2.2.2.2.2.1, Nat.le_succ_of_le k.2.2.2.2.2.2⟩
section LW
variable {p : Program} {l : Launch} {e : Env} {s : State} {mt : MethodId} {args : Array Value} {below : List Frame} {meth : Method} {cd : Code} {G : mx_G} {base b L n : Nat} {xs : Nat → Int32} {Q : State → Prop} {h : mx_H} {kc ks : Nat} {A : mxA} {P : Nat → Nat} {z : Nat} {σ : mxS}
set_option maxRecDepth 20000
theorem lw_op (K : LC p l s mt args meth cd G base b L n xs) (li : LI G A P z h σ n) (hkc : kc ≤ 42 + 2 * n) (hks : ks ≤ 14214 + 66 * n) (next : LNext p l e s mt args below meth cd G base b n (aK A 0) P z Q) : mx_V p l e { frames := 11, cells := 601024, slots := 7293033, locals := 392 } s mt args below meth cd G base 8 Q h kc ks 33 [some (.ref b), some (.ref (aK A 0)), some (.ref (P 0)), some (.ref z), some (.int (nI (6 * n))), none, none, none] [] := by
  have K0 := K
  obtain ⟨C, hX, hbl, hbA, hL3, hn6, hZ, hl⟩ := K
  first | refine mx_aload_n C dL_law_33 (pc' := 34) rfl rfl ?_ | refine mx_aload_nq C dL_law_33 (pc' := 34) rfl rfl ?_
  refine mx_iload C dL_law_34 (pc' := 36) rfl rfl ?_
  refine mx_sld C dL_law_36 (pc' := 37) rfl hX hbl hbA rfl (show 6 * n < L by omega) hL3 ?_
  refine mx_bipush C (v := nI 15) (by decide) dL_law_37 (pc' := 39) rfl ?_
  refine mx_iand C dL_law_39 (pc' := 40) rfl ?_
  obtain ⟨j, hj, ej⟩ := pk_andE (xs (6 * n)) (m := nI 15) 4 (by decide)
  rw [ej]
  have hj : j < 16 := hj
  by_cases h13 : j < 13
  · rcases (show j = 0 ∨ j = 1 ∨ j = 2 ∨ j = 3 ∨ j = 4 ∨ j = 5 ∨ j = 6 ∨ j = 7 ∨ j = 8 ∨ j = 9 ∨ j = 10 ∨ j = 11 ∨ j = 12 by omega) with rfl | rfl | rfl | rfl | rfl | rfl | rfl | rfl | rfl | rfl | rfl | rfl | rfl
    · exact mx_tabIn C dL_law_40 (by decide +kernel) (by decide +kernel) (off := 68) (by decide +kernel) (tgt := 108) (by decide) (lw_record K0 li hkc hks next)
    · exact mx_tabIn C dL_law_40 (by decide +kernel) (by decide +kernel) (off := 93) (by decide +kernel) (tgt := 133) (by decide) (lw_field K0 li hkc hks next)
    · exact mx_tabIn C dL_law_40 (by decide +kernel) (by decide +kernel) (off := 130) (by decide +kernel) (tgt := 170) (by decide) (lw_sign K0 li hkc hks next)
    · exact mx_tabIn C dL_law_40 (by decide +kernel) (by decide +kernel) (off := 165) (by decide +kernel) (tgt := 205) (by decide) (lw_isbn K0 li hkc hks next)
    · exact mx_tabIn C dL_law_40 (by decide +kernel) (by decide +kernel) (off := 202) (by decide +kernel) (tgt := 242) (by decide) (lw_weight K0 li hkc hks next)
    · exact mx_tabIn C dL_law_40 (by decide +kernel) (by decide +kernel) (off := 315) (by decide +kernel) (tgt := 355) (by decide) (lw_score K0 li hkc hks next)
    · exact mx_tabIn C dL_law_40 (by decide +kernel) (by decide +kernel) (off := 394) (by decide +kernel) (tgt := 434) (by decide) (lw_cand K0 li hkc hks next)
    · exact mx_tabIn C dL_law_40 (by decide +kernel) (by decide +kernel) (off := 419) (by decide +kernel) (tgt := 459) (by decide) (lw_at K0 li hkc hks next)
    · exact mx_tabIn C dL_law_40 (by decide +kernel) (by decide +kernel) (off := 444) (by decide +kernel) (tgt := 484) (by decide) (lw_merge K0 li hkc hks next)
    · exact mx_tabIn C dL_law_40 (by decide +kernel) (by decide +kernel) (off := 481) (by decide +kernel) (tgt := 521) (by decide) (lw_winner K0 li hkc hks next)
    · exact mx_tabIn C dL_law_40 (by decide +kernel) (by decide +kernel) (off := 518) (by decide +kernel) (tgt := 558) (by decide) (lw_undo K0 li hkc hks next)
    · exact mx_tabIn C dL_law_40 (by decide +kernel) (by decide +kernel) (off := 543) (by decide +kernel) (tgt := 583) (by decide) (lw_locked K0 li hkc hks next)
    · exact mx_tabIn C dL_law_40 (by decide +kernel) (by decide +kernel) (off := 596) (by decide +kernel) (tgt := 636) (by decide) (lw_index K0 li hkc hks next)
  · exact mx_tabOut C dL_law_40 (Or.inr (by rw [nI_toInt (by omega)]; omega)) (tgt := 704) (by decide) (next A σ h kc ks none none none rfl li.up (by omega) (by omega))
theorem lw_head (C : mx_C p s mt args meth cd cL_law 8 RL G base) (hX : va_X b L xs s s.heap) (hbl : b < s.heap.size) (hbA : ¬ mx_A base b) (hL3 : L ≤ 3072) (hn : 6 * n ≤ L) {k0 P0 : Nat} {o5 o6 o7 : Option Value} (fin : mx_V p l e { frames := 11, cells := 601024, slots := 7293033, locals := 392 } s mt args below meth cd G base 8 Q h kc ks 710 [some (.ref b), some (.ref k0), some (.ref P0), some (.ref z), some (.int (nI (6 * n))), o5, o6, o7] []) (go : 6 * n + 6 ≤ L → mx_V p l e { frames := 11, cells := 601024, slots := 7293033, locals := 392 } s mt args below meth cd G base 8 Q h kc ks 33 [some (.ref b), some (.ref k0), some (.ref P0), some (.ref z), some (.int (nI (6 * n))), o5, o6, o7] []) : mx_V p l e { frames := 11, cells := 601024, slots := 7293033, locals := 392 } s mt args below meth cd G base 8 Q h kc ks 23 [some (.ref b), some (.ref k0), some (.ref P0), some (.ref z), some (.int (nI (6 * n))), o5, o6, o7] [] := by
  refine mx_iload C dL_law_23 (pc' := 25) rfl rfl ?_
  first | refine mx_aload_n C dL_law_25 (pc' := 26) rfl rfl ?_ | refine mx_aload_nq C dL_law_25 (pc' := 26) rfl rfl ?_
  refine mx_slen C dL_law_26 (pc' := 27) rfl hX hbl hbA ?_
  refine mx_bipush C (v := nI 6) (by decide) dL_law_27 (pc' := 29) rfl ?_
  refine mx_isub C dL_law_29 (pc' := 30) rfl ?_
  refine mx_icmp_gt C dL_law_30 (tgt := 710) (by decide) (pc' := 33) rfl (fun q1 => ?_) (fun q1 => ?_)
  · exact fin
  · refine go ?_
    rw [Int32.lt_iff_toInt_lt, pk_sub_toInt (by omega) (by omega), nI_toInt (by omega)] at q1
    omega
theorem lw_loop (C : mx_C p s mt args meth cd cL_law 8 RL G base) (hX : va_X b L xs s s.heap) (hbl : b < s.heap.size) (hbA : ¬ mx_A base b) (hL3 : L ≤ 3072) (hZ : mx_Z base s s.heap) (hl : l.stackTraces = false) (k0 : Nat)
    (fin : ∀ (h : mx_H) (kc ks : Nat) (lo : List (Option Value)), kc ≤ 601024 → ks ≤ 7293033 → mx_V p l e { frames := 11, cells := 601024, slots := 7293033, locals := 392 } s mt args below meth cd G base 8 Q h kc ks 710 lo []) : ∀ (f n : Nat) (A : mxA) (σ : mxS) (h : mx_H) (kc ks : Nat) (o5 o6 o7 : Option Value), aK A 0 = k0 → LI G A P z h σ n → 6 * n ≤ L → L ≤ 6 * n + 6 * f → kc ≤ 42 + 2 * n → ks ≤ 14214 + 66 * n → mx_V p l e { frames := 11, cells := 601024, slots := 7293033, locals := 392 } s mt args below meth cd G base 8 Q h kc ks 23 [some (.ref b), some (.ref k0), some (.ref (P 0)), some (.ref z), some (.int (nI (6 * n))), o5, o6, o7] [] := by
  intro f
  induction f with
  | zero =>
    intro n A σ h kc ks o5 o6 o7 hk li hn hf hkc hks
    exact lw_head C hX hbl hbA hL3 hn (fin _ _ _ _ (by omega) (by omega)) (fun q => absurd q (by omega))
  | succ f ih =>
    intro n A σ h kc ks o5 o6 o7 hk li hn hf hkc hks
    refine lw_head C hX hbl hbA hL3 hn (fin _ _ _ _ (by omega) (by omega)) (fun q => ?_)
    refine mx_weak (mx_le_keep (mx_le_keep (mx_le_keep (mx_le_keep (mx_le_keep (mx_le_drop (mx_le_drop (mx_le_drop mx_le_nil)))))))) ?_
    subst hk
    refine lw_op ⟨C, hX, hbl, hbA, hL3, q, hZ, hl⟩ li hkc hks ?_
    intro A1 σ1 h1 kc1 ks1 p5 p6 p7 hk1 li1 hkc1 hks1
    refine mx_iinc C dL_law_704 (pc' := 707) rfl rfl (v := nI (6 * (n + 1))) (nI_add (6 * n) 6) (by first | exact mx_c1_0 | exact mx_c1_int rfl | exact mx_c1_ref rfl | exact mx_c1_none rfl | exact mx_c1_rf rfl | exact mx_c1_null rfl) (by decide) (lo' := [_, _, _, _, _, _, _, _]) rfl ?_
    refine mx_goto C dL_law_707 (tgt := 23) (by decide) ?_
    exact ih (n + 1) A1 σ1 h1 kc1 ks1 p5 p6 p7 hk1 li1 (by omega) (by omega) hkc1 hks1
theorem lw_init (hl : l.stackTraces = false) (C : mx_C p s mt args meth cd cL_law 8 RL G base) (hX : va_X b L xs s s.heap) (hbl : b < s.heap.size) (hbA : ¬ mx_A base b) (hL3 : L ≤ 3072) (hZ : mx_Z base s s.heap)
    (fin : ∀ (h : mx_H) (kc ks : Nat) (lo : List (Option Value)), kc ≤ 601024 → ks ≤ 7293033 → mx_V p l e { frames := 11, cells := 601024, slots := 7293033, locals := 392 } s mt args below meth cd G base 8 Q h kc ks 710 lo []) : mx_V p l e { frames := 11, cells := 601024, slots := 7293033, locals := 392 } s mt args below meth cd G base 8 Q (fun _ => none) 0 0 0 [some (.ref b), none, none, none, none, none, none, none] [] := by
  refine nL_8 C dL_law_0 (pc' := 3) rfl (by decide) (by decide) ?_
  intro q0 hq0
  refine mx_dup C rfl dL_law_3 (pc' := 4) rfl ?_
  refine cL_21 C dL_law_4 (pc' := 7) rfl (c_X8_init l G base _ (va_up_self _ _ _)) ⟨by decide, by decide, by show _ + _ ≤ 601024; omega, by show _ + _ ≤ 7293033; omega, Nat.le_of_ble_eq_true rfl⟩ ?_
  rintro _ h1 ⟨rfl, A, la, ea, mk, hA0, c1, hA1, hf1⟩
  first | refine mx_astore_n C dL_law_7 (pc' := 8) rfl (by first | exact mx_c1_0 | exact mx_c1_int rfl | exact mx_c1_ref rfl | exact mx_c1_none rfl | exact mx_c1_rf rfl | exact mx_c1_null rfl) (by decide) (lo' := [_, _, _, _, _, _, _, _]) rfl ?_ | refine mx_astore_nq C dL_law_7 (pc' := 8) rfl (by first | exact mx_c1_0 | exact mx_c1_int rfl | exact mx_c1_ref rfl | exact mx_c1_none rfl | exact mx_c1_rf rfl | exact mx_c1_null rfl) (by decide) (lo' := [_, _, _, _, _, _, _, _]) rfl ?_
  refine nL_22 C dL_law_8 (pc' := 11) rfl (by decide) (by decide) ?_
  intro q1 hq1
  refine mx_dup C rfl dL_law_11 (pc' := 12) rfl ?_
  refine cL_24 C dL_law_12 (pc' := 15) rfl (c_X9_init l G base _ (va_up_self _ _ _)) ⟨by decide, by decide, by show _ + _ ≤ 601024; omega, by show _ + _ ≤ 7293033; omega, Nat.le_of_ble_eq_true rfl⟩ ?_
  rintro _ h2 ⟨rfl, P, hP0, m2, hP1, hf2⟩
  first | refine mx_astore_n C dL_law_15 (pc' := 16) rfl (by first | exact mx_c1_0 | exact mx_c1_int rfl | exact mx_c1_ref rfl | exact mx_c1_none rfl | exact mx_c1_rf rfl | exact mx_c1_null rfl) (by decide) (lo' := [_, _, _, _, _, _, _, _]) rfl ?_ | refine mx_astore_nq C dL_law_15 (pc' := 16) rfl (by first | exact mx_c1_0 | exact mx_c1_int rfl | exact mx_c1_ref rfl | exact mx_c1_none rfl | exact mx_c1_rf rfl | exact mx_c1_null rfl) (by decide) (lo' := [_, _, _, _, _, _, _, _]) rfl ?_
  refine mx_iconst C (v := nI 1) (by decide) dL_law_16 (pc' := 17) rfl ?_
  refine mx_newal C (mx_in wd_arr_long rfl) (N := 1) (by rfl) (by decide) dL_law_17 (pc' := 19) rfl (by decide) (by decide) ?_
  intro z hz
  first | refine mx_astore_n C dL_law_19 (pc' := 20) rfl (by first | exact mx_c1_0 | exact mx_c1_int rfl | exact mx_c1_ref rfl | exact mx_c1_none rfl | exact mx_c1_rf rfl | exact mx_c1_null rfl) (by decide) (lo' := [_, _, _, _, _, _, _, _]) rfl ?_ | refine mx_astore_nq C dL_law_19 (pc' := 20) rfl (by first | exact mx_c1_0 | exact mx_c1_int rfl | exact mx_c1_ref rfl | exact mx_c1_none rfl | exact mx_c1_rf rfl | exact mx_c1_null rfl) (by decide) (lo' := [_, _, _, _, _, _, _, _]) rfl ?_
  refine mx_iconst C (v := nI 0) (by decide) dL_law_20 (pc' := 21) rfl ?_
  refine mx_istore C dL_law_21 (pc' := 23) rfl (by first | exact mx_c1_0 | exact mx_c1_int rfl | exact mx_c1_ref rfl | exact mx_c1_none rfl | exact mx_c1_rf rfl | exact mx_c1_null rfl) (by decide) (lo' := [_, _, _, _, _, _, _, _]) rfl ?_
  have hin : ∀ a, inA A s0 a → ∃ i, i < 23 ∧ a = aK A i := by
    rintro a (k | ⟨r, r1, r2, -⟩ | ⟨f, f1, f2, -⟩)
    · exact k
    · exact absurd (Nat.le_trans r1 r2) (by decide)
    · exact absurd (Nat.le_trans f1 f2) (by decide)
  have n1 : ∀ a, inA A s0 a → h1 a ≠ none := by
    intro a ha e0
    obtain ⟨i, hi, ea⟩ := hin a ha
    obtain ⟨x, hx, -⟩ := ci_K c1 i hi
    rw [ea, hx] at e0
    cases e0
  have nq : ∀ a, inA A s0 a → a ≠ q1 := fun a ha e0 => n1 a ha (by rw [e0]; exact hq1)
  have n2 : ∀ a, inA A s0 a → h2 a = h1 a := fun a ha => (hf2 a (by rw [va_up_ne _ _ (nq a ha)]; exact n1 a ha) (nq a ha)).trans (va_up_ne _ _ (nq a ha))
  have nz : ∀ a, inA A s0 a → a ≠ z := fun a ha e0 => n1 a ha (by rw [← n2 a ha, e0]; exact hz)
  have pz : ∀ i, i < 18 → P i ≠ z := fun i hi e0 => m2.some i hi (by rw [e0]; exact hz)
  have pA : ∀ i, i < 18 → ¬ inA A s0 (P i) := by
    intro i hi ha
    by_cases i0 : i = 0
    · rw [i0, hP0] at ha
      exact nq q1 ha rfl
    · have h5 := hP1 i (by omega) hi
      by_cases eq : P i = q1
      · rw [eq] at ha
        exact nq q1 ha rfl
      · rw [va_up_ne _ _ eq] at h5
        exact n1 _ ha h5
  subst hP0
  refine lw_loop C hX hbl hbA hL3 hZ hl _ fin L 0 A s0 _ _ _ _ _ _ hA0 ⟨⟨la, ea, mk, c1.far (fun a ha => (va_up_ne _ _ (nz a ha)).trans (n2 a ha))⟩, ⟨_, _, _, _, m2.far (fun i hi => va_up_ne _ _ (pz i hi))⟩, pA, fun ha => nz z ha rfl, pz, ⟨_, va_up_self _ _ _⟩, Nat.le_refl 0⟩ (Nat.zero_le L) (by omega) (by decide) (by decide)
end LW
