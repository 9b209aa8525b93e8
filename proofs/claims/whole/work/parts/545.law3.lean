/-! the law: the two calls that may throw -/
theorem klS {σ : mxS} (h : si σ) {a : Int32} (hr : ixR (st_n σ) a ≠ 0) : (if ixS σ a = 0 then [] else kl σ (ixS σ a) (st_k σ)) = kl σ (ixR (st_n σ) a) (st_k σ) := by
  by_cases h0 : ixS σ a = 0
  · rw [if_pos h0]
    cases hk : kl σ (ixR (st_n σ) a) (st_k σ) with
    | nil => rfl
    | cons q t =>
      have ht := kl_top h (r := ixR (st_n σ) a) (q := q) (by rw [hk]; exact List.mem_cons_self)
      exact absurd h0 (by unfold ixS; rw [if_pos ⟨hr, ht⟩]; exact hr)
  · rw [if_neg h0, (ixS_top h0).2]
section LW
variable {p : Program} {l : Launch} {e : Env} {s : State} {mt : MethodId} {args : Array Value} {below : List Frame} {meth : Method} {cd : Code} {G : mx_G} {base b L n : Nat} {xs : Nat → Int32} {Q : State → Prop} {h : mx_H} {kc ks : Nat} {A : mxA} {P : Nat → Nat} {z : Nat} {σ : mxS}
set_option maxRecDepth 20000
theorem lw_score (K : LC p l s mt args meth cd G base b L n xs) (li : LI G A P z h σ n) (hkc : kc ≤ 42 + 2 * n) (hks : ks ≤ 14214 + 66 * n) (next : LNext p l e s mt args below meth cd G base b n (aK A 0) P z Q) : mx_V p l e { frames := 11, cells := 601024, slots := 7293033, locals := 392 } s mt args below meth cd G base 8 Q h kc ks 355 [some (.ref b), some (.ref (aK A 0)), some (.ref (P 0)), some (.ref z), some (.int (nI (6 * n))), none, none, none] [] := by
  obtain ⟨C, hX, hbl, hbA, hL3, hn6, hZ, hl⟩ := K
  obtain ⟨⟨la, ea, mk, c⟩, ⟨th, kcr, pu, pd, m⟩, hd, hz, hpz, ⟨g, hg⟩, hm⟩ := li
  first | refine mx_aload_n C dL_law_355 (pc' := 356) rfl rfl ?_ | refine mx_aload_nq C dL_law_355 (pc' := 356) rfl rfl ?_
  first | refine mx_aload_n C dL_law_356 (pc' := 357) rfl rfl ?_ | refine mx_aload_nq C dL_law_356 (pc' := 357) rfl rfl ?_
  refine mx_iload C dL_law_357 (pc' := 359) rfl rfl ?_
  refine mx_iconst C (v := nI 1) (by decide) dL_law_359 (pc' := 360) rfl ?_
  refine mx_iadd C dL_law_360 (pc' := 361) rfl ?_
  rw [nI_add]
  refine mx_sld C dL_law_361 (pc' := 362) rfl hX hbl hbA rfl (show 6 * n + 1 < L by omega) hL3 ?_
  first | refine mx_aload_n C dL_law_362 (pc' := 363) rfl rfl ?_ | refine mx_aload_nq C dL_law_362 (pc' := 363) rfl rfl ?_
  refine mx_iload C dL_law_363 (pc' := 365) rfl rfl ?_
  refine mx_iconst C (v := nI 2) (by decide) dL_law_365 (pc' := 366) rfl ?_
  refine mx_iadd C dL_law_366 (pc' := 367) rfl ?_
  rw [nI_add]
  refine mx_sld C dL_law_367 (pc' := 368) rfl hX hbl hbA rfl (show 6 * n + 2 < L by omega) hL3 ?_
  first | refine mx_aload_n C dL_law_368 (pc' := 369) rfl rfl ?_ | refine mx_aload_nq C dL_law_368 (pc' := 369) rfl rfl ?_
  refine mx_iload C dL_law_369 (pc' := 371) rfl rfl ?_
  refine mx_iconst C (v := nI 3) (by decide) dL_law_371 (pc' := 372) rfl ?_
  refine mx_iadd C dL_law_372 (pc' := 373) rfl ?_
  rw [nI_add]
  refine mx_sld C dL_law_373 (pc' := 374) rfl hX hbl hbA rfl (show 6 * n + 3 < L by omega) hL3 ?_
  first | refine mx_aload_n C dL_law_374 (pc' := 375) rfl rfl ?_ | refine mx_aload_nq C dL_law_374 (pc' := 375) rfl rfl ?_
  refine cLS_50 C hZ dL_law_375 (pc' := 378) rfl (c_L_score l G base hl h c rfl rfl rfl rfl rfl hg hz) ⟨by decide, by decide, by show _ + _ ≤ 601024; omega, by show _ + _ ≤ 7293033; omega, Nat.le_of_ble_eq_true rfl⟩ ?_
  rintro v1 h1 ⟨o1, ⟨g1, hg1, p1, p2⟩, mk1, c1⟩
  have m1 := m.far (fun i hi => o1 _ (hd i hi) (hpz i hi))
  by_cases hno : ixS σ (xs (6 * n + 1)) = 0 ∨ ixS σ (xs (6 * n + 2)) = 0
  · obtain ⟨rfl, g0⟩ := p1 hno
    refine mx_istore C dL_law_378 (pc' := 380) rfl (by first | exact mx_c1_0 | exact mx_c1_int rfl | exact mx_c1_ref rfl | exact mx_c1_none rfl | exact mx_c1_rf rfl | exact mx_c1_null rfl) (by decide) (lo' := [_, _, _, _, _, _, _, _]) rfl ?_
    first | refine mx_aload_n C dL_law_380 (pc' := 381) rfl rfl ?_ | refine mx_aload_nq C dL_law_380 (pc' := 381) rfl rfl ?_
    first | refine mx_aload_n C dL_law_381 (pc' := 382) rfl rfl ?_ | refine mx_aload_nq C dL_law_381 (pc' := 382) rfl rfl ?_
    refine mx_iload C dL_law_382 (pc' := 384) rfl rfl ?_
    refine mx_iconst C (v := nI 1) (by decide) dL_law_384 (pc' := 385) rfl ?_
    refine mx_iadd C dL_law_385 (pc' := 386) rfl ?_
    rw [nI_add]
    refine mx_sld C dL_law_386 (pc' := 387) rfl hX hbl hbA rfl (show 6 * n + 1 < L by omega) hL3 ?_
    first | refine mx_aload_n C dL_law_387 (pc' := 388) rfl rfl ?_ | refine mx_aload_nq C dL_law_387 (pc' := 388) rfl rfl ?_
    refine mx_iload C dL_law_388 (pc' := 390) rfl rfl ?_
    refine mx_iconst C (v := nI 2) (by decide) dL_law_390 (pc' := 391) rfl ?_
    refine mx_iadd C dL_law_391 (pc' := 392) rfl ?_
    rw [nI_add]
    refine mx_sld C dL_law_392 (pc' := 393) rfl hX hbl hbA rfl (show 6 * n + 2 < L by omega) hL3 ?_
    first | refine mx_aload_n C dL_law_393 (pc' := 394) rfl rfl ?_ | refine mx_aload_nq C dL_law_393 (pc' := 394) rfl rfl ?_
    refine mx_iload C dL_law_394 (pc' := 396) rfl rfl ?_
    refine mx_iconst C (v := nI 3) (by decide) dL_law_396 (pc' := 397) rfl ?_
    refine mx_iadd C dL_law_397 (pc' := 398) rfl ?_
    rw [nI_add]
    refine mx_sld C dL_law_398 (pc' := 399) rfl hX hbl hbA rfl (show 6 * n + 3 < L by omega) hL3 ?_
    refine cL_55 C dL_law_399 (pc' := 402) rfl (m1.2.2.1) (c_X9_score l G base h1 m1 rfl rfl rfl rfl rfl) ⟨by decide, by decide, by show _ + _ ≤ 601024; omega, by show _ + _ ≤ 7293033; omega, Nat.le_of_ble_eq_true rfl⟩ ?_
    rintro v2 h2 ⟨o2, r1, r2⟩
    obtain ⟨rfl, m2⟩ := r1 hno
    have hg2 := (o2.z hpz).trans hg1
    refine mx_lstore C dL_law_402 (pc' := 404) rfl (by first | exact mx_c1_0 | exact mx_c1_int rfl | exact mx_c1_ref rfl | exact mx_c1_none rfl | exact mx_c1_rf rfl | exact mx_c1_null rfl) (by decide) (lo' := [_, _, _, _, _, _, _, _]) rfl ?_
    first | refine mx_aload_n C dL_law_404 (pc' := 405) rfl rfl ?_ | refine mx_aload_nq C dL_law_404 (pc' := 405) rfl rfl ?_
    refine cL_56 C dL_law_405 (pc' := 408) rfl (m2.2.2.1) (c_X9_thrown l G base h2 m2) ⟨by decide, by decide, by show _ + _ ≤ 601024; omega, by show _ + _ ≤ 7293033; omega, Nat.le_of_ble_eq_true rfl⟩ ?_
    rintro _ _ ⟨rfl, rfl⟩
    refine mx_iload C dL_law_408 (pc' := 410) rfl rfl ?_
    refine mx_icmp_eq C dL_law_410 (tgt := 415) (by decide) (pc' := 413) rfl (fun q1 => ?_) (fun q1 => ?_)
    · skip
      refine mx_iload C dL_law_415 (pc' := 417) rfl rfl ?_
      refine mx_if_ne C dL_law_417 (tgt := 431) (by decide) (pc' := 420) rfl (fun q2 => ?_) (fun q2 => ?_)
      · exact absurd (by decide) q2
      · skip
        first | refine mx_aload_n C dL_law_420 (pc' := 421) rfl rfl ?_ | refine mx_aload_nq C dL_law_420 (pc' := 421) rfl rfl ?_
        refine mx_iconst C (v := nI 0) (by decide) dL_law_421 (pc' := 422) rfl ?_
        refine mx_lald C dL_law_422 (pc' := 423) rfl (hg2) (rfl) (show 0 < 1 by decide) (by decide) ?_
        refine mx_lload C dL_law_423 (pc' := 425) rfl rfl ?_
        refine mx_lcmp C dL_law_425 (pc' := 426) rfl ?_
        refine mx_L_eq C dL_law_426 (tgt := 431) (by decide) (pc' := 429) rfl (fun q3 => ?_) (fun q3 => ?_)
        · skip
          refine mx_goto C dL_law_431 (tgt := 704) (by decide) ?_
          exact next A _ h2 _ _ _ _ _ rfl (LI.mk2 c1 m2 o2 hd hz hpz hg1 (show st_m σ ≤ n + 1 by omega)) (by omega) (by omega)
        · exact absurd (g0) q3
    · exact absurd rfl q1
  · by_cases hW : (lkS σ (ixS σ (xs (6 * n + 1))) (ixS σ (xs (6 * n + 2))) 5).2.2 = 0
    · obtain rfl := (p2 hno).1 hW
      refine mx_istore C dL_law_378 (pc' := 380) rfl (by first | exact mx_c1_0 | exact mx_c1_int rfl | exact mx_c1_ref rfl | exact mx_c1_none rfl | exact mx_c1_rf rfl | exact mx_c1_null rfl) (by decide) (lo' := [_, _, _, _, _, _, _, _]) rfl ?_
      first | refine mx_aload_n C dL_law_380 (pc' := 381) rfl rfl ?_ | refine mx_aload_nq C dL_law_380 (pc' := 381) rfl rfl ?_
      first | refine mx_aload_n C dL_law_381 (pc' := 382) rfl rfl ?_ | refine mx_aload_nq C dL_law_381 (pc' := 382) rfl rfl ?_
      refine mx_iload C dL_law_382 (pc' := 384) rfl rfl ?_
      refine mx_iconst C (v := nI 1) (by decide) dL_law_384 (pc' := 385) rfl ?_
      refine mx_iadd C dL_law_385 (pc' := 386) rfl ?_
      rw [nI_add]
      refine mx_sld C dL_law_386 (pc' := 387) rfl hX hbl hbA rfl (show 6 * n + 1 < L by omega) hL3 ?_
      first | refine mx_aload_n C dL_law_387 (pc' := 388) rfl rfl ?_ | refine mx_aload_nq C dL_law_387 (pc' := 388) rfl rfl ?_
      refine mx_iload C dL_law_388 (pc' := 390) rfl rfl ?_
      refine mx_iconst C (v := nI 2) (by decide) dL_law_390 (pc' := 391) rfl ?_
      refine mx_iadd C dL_law_391 (pc' := 392) rfl ?_
      rw [nI_add]
      refine mx_sld C dL_law_392 (pc' := 393) rfl hX hbl hbA rfl (show 6 * n + 2 < L by omega) hL3 ?_
      first | refine mx_aload_n C dL_law_393 (pc' := 394) rfl rfl ?_ | refine mx_aload_nq C dL_law_393 (pc' := 394) rfl rfl ?_
      refine mx_iload C dL_law_394 (pc' := 396) rfl rfl ?_
      refine mx_iconst C (v := nI 3) (by decide) dL_law_396 (pc' := 397) rfl ?_
      refine mx_iadd C dL_law_397 (pc' := 398) rfl ?_
      rw [nI_add]
      refine mx_sld C dL_law_398 (pc' := 399) rfl hX hbl hbA rfl (show 6 * n + 3 < L by omega) hL3 ?_
      refine cL_55 C dL_law_399 (pc' := 402) rfl (m1.2.2.1) (c_X9_score l G base h1 m1 rfl rfl rfl rfl rfl) ⟨by decide, by decide, by show _ + _ ≤ 601024; omega, by show _ + _ ≤ 7293033; omega, Nat.le_of_ble_eq_true rfl⟩ ?_
      rintro v2 h2 ⟨o2, r1, r2⟩
      obtain ⟨rfl, pu2, pd2, m2⟩ := (r2 hno).1 hW
      have hg2 := (o2.z hpz).trans hg1
      refine mx_lstore C dL_law_402 (pc' := 404) rfl (by first | exact mx_c1_0 | exact mx_c1_int rfl | exact mx_c1_ref rfl | exact mx_c1_none rfl | exact mx_c1_rf rfl | exact mx_c1_null rfl) (by decide) (lo' := [_, _, _, _, _, _, _, _]) rfl ?_
      first | refine mx_aload_n C dL_law_404 (pc' := 405) rfl rfl ?_ | refine mx_aload_nq C dL_law_404 (pc' := 405) rfl rfl ?_
      refine cL_56 C dL_law_405 (pc' := 408) rfl (m2.2.2.1) (c_X9_thrown l G base h2 m2) ⟨by decide, by decide, by show _ + _ ≤ 601024; omega, by show _ + _ ≤ 7293033; omega, Nat.le_of_ble_eq_true rfl⟩ ?_
      rintro _ _ ⟨rfl, rfl⟩
      refine mx_iload C dL_law_408 (pc' := 410) rfl rfl ?_
      refine mx_icmp_eq C dL_law_410 (tgt := 415) (by decide) (pc' := 413) rfl (fun q1 => ?_) (fun q1 => ?_)
      · skip
        refine mx_iload C dL_law_415 (pc' := 417) rfl rfl ?_
        refine mx_if_ne C dL_law_417 (tgt := 431) (by decide) (pc' := 420) rfl (fun q2 => ?_) (fun q2 => ?_)
        · skip
          refine mx_goto C dL_law_431 (tgt := 704) (by decide) ?_
          exact next A _ h2 _ _ _ _ _ rfl (LI.mk2 c1 m2 o2 hd hz hpz hg1 (show st_m σ ≤ n + 1 by omega)) (by omega) (by omega)
        · exact absurd q2 (by decide)
      · exact absurd rfl q1
    · obtain ⟨rfl, g0⟩ := (p2 hno).2 hW
      refine mx_istore C dL_law_378 (pc' := 380) rfl (by first | exact mx_c1_0 | exact mx_c1_int rfl | exact mx_c1_ref rfl | exact mx_c1_none rfl | exact mx_c1_rf rfl | exact mx_c1_null rfl) (by decide) (lo' := [_, _, _, _, _, _, _, _]) rfl ?_
      first | refine mx_aload_n C dL_law_380 (pc' := 381) rfl rfl ?_ | refine mx_aload_nq C dL_law_380 (pc' := 381) rfl rfl ?_
      first | refine mx_aload_n C dL_law_381 (pc' := 382) rfl rfl ?_ | refine mx_aload_nq C dL_law_381 (pc' := 382) rfl rfl ?_
      refine mx_iload C dL_law_382 (pc' := 384) rfl rfl ?_
      refine mx_iconst C (v := nI 1) (by decide) dL_law_384 (pc' := 385) rfl ?_
      refine mx_iadd C dL_law_385 (pc' := 386) rfl ?_
      rw [nI_add]
      refine mx_sld C dL_law_386 (pc' := 387) rfl hX hbl hbA rfl (show 6 * n + 1 < L by omega) hL3 ?_
      first | refine mx_aload_n C dL_law_387 (pc' := 388) rfl rfl ?_ | refine mx_aload_nq C dL_law_387 (pc' := 388) rfl rfl ?_
      refine mx_iload C dL_law_388 (pc' := 390) rfl rfl ?_
      refine mx_iconst C (v := nI 2) (by decide) dL_law_390 (pc' := 391) rfl ?_
      refine mx_iadd C dL_law_391 (pc' := 392) rfl ?_
      rw [nI_add]
      refine mx_sld C dL_law_392 (pc' := 393) rfl hX hbl hbA rfl (show 6 * n + 2 < L by omega) hL3 ?_
      first | refine mx_aload_n C dL_law_393 (pc' := 394) rfl rfl ?_ | refine mx_aload_nq C dL_law_393 (pc' := 394) rfl rfl ?_
      refine mx_iload C dL_law_394 (pc' := 396) rfl rfl ?_
      refine mx_iconst C (v := nI 3) (by decide) dL_law_396 (pc' := 397) rfl ?_
      refine mx_iadd C dL_law_397 (pc' := 398) rfl ?_
      rw [nI_add]
      refine mx_sld C dL_law_398 (pc' := 399) rfl hX hbl hbA rfl (show 6 * n + 3 < L by omega) hL3 ?_
      refine cL_55 C dL_law_399 (pc' := 402) rfl (m1.2.2.1) (c_X9_score l G base h1 m1 rfl rfl rfl rfl rfl) ⟨by decide, by decide, by show _ + _ ≤ 601024; omega, by show _ + _ ≤ 7293033; omega, Nat.le_of_ble_eq_true rfl⟩ ?_
      rintro v2 h2 ⟨o2, r1, r2⟩
      obtain ⟨rfl, pu2, pd2, m2⟩ := (r2 hno).2 hW
      have hg2 := (o2.z hpz).trans hg1
      refine mx_lstore C dL_law_402 (pc' := 404) rfl (by first | exact mx_c1_0 | exact mx_c1_int rfl | exact mx_c1_ref rfl | exact mx_c1_none rfl | exact mx_c1_rf rfl | exact mx_c1_null rfl) (by decide) (lo' := [_, _, _, _, _, _, _, _]) rfl ?_
      first | refine mx_aload_n C dL_law_404 (pc' := 405) rfl rfl ?_ | refine mx_aload_nq C dL_law_404 (pc' := 405) rfl rfl ?_
      refine cL_56 C dL_law_405 (pc' := 408) rfl (m2.2.2.1) (c_X9_thrown l G base h2 m2) ⟨by decide, by decide, by show _ + _ ≤ 601024; omega, by show _ + _ ≤ 7293033; omega, Nat.le_of_ble_eq_true rfl⟩ ?_
      rintro _ _ ⟨rfl, rfl⟩
      refine mx_iload C dL_law_408 (pc' := 410) rfl rfl ?_
      refine mx_icmp_eq C dL_law_410 (tgt := 415) (by decide) (pc' := 413) rfl (fun q1 => ?_) (fun q1 => ?_)
      · skip
        refine mx_iload C dL_law_415 (pc' := 417) rfl rfl ?_
        refine mx_if_ne C dL_law_417 (tgt := 431) (by decide) (pc' := 420) rfl (fun q2 => ?_) (fun q2 => ?_)
        · exact absurd (by decide) q2
        · skip
          first | refine mx_aload_n C dL_law_420 (pc' := 421) rfl rfl ?_ | refine mx_aload_nq C dL_law_420 (pc' := 421) rfl rfl ?_
          refine mx_iconst C (v := nI 0) (by decide) dL_law_421 (pc' := 422) rfl ?_
          refine mx_lald C dL_law_422 (pc' := 423) rfl (hg2) (rfl) (show 0 < 1 by decide) (by decide) ?_
          refine mx_lload C dL_law_423 (pc' := 425) rfl rfl ?_
          refine mx_lcmp C dL_law_425 (pc' := 426) rfl ?_
          refine mx_L_eq C dL_law_426 (tgt := 431) (by decide) (pc' := 429) rfl (fun q3 => ?_) (fun q3 => ?_)
          · skip
            refine mx_goto C dL_law_431 (tgt := 704) (by decide) ?_
            exact next A _ h2 _ _ _ _ _ rfl (LI.mk2 c1 m2 o2 hd hz hpz hg1 (show st_m σ ≤ n + 1 by omega)) (by omega) (by omega)
          · exact absurd (g0) q3
      · exact absurd rfl q1
theorem lw_index (K : LC p l s mt args meth cd G base b L n xs) (li : LI G A P z h σ n) (hkc : kc ≤ 42 + 2 * n) (hks : ks ≤ 14214 + 66 * n) (next : LNext p l e s mt args below meth cd G base b n (aK A 0) P z Q) : mx_V p l e { frames := 11, cells := 601024, slots := 7293033, locals := 392 } s mt args below meth cd G base 8 Q h kc ks 636 [some (.ref b), some (.ref (aK A 0)), some (.ref (P 0)), some (.ref z), some (.int (nI (6 * n))), none, none, none] [] := by
  obtain ⟨C, hX, hbl, hbA, hL3, hn6, hZ, hl⟩ := K
  obtain ⟨⟨la, ea, mk, c⟩, ⟨th, kcr, pu, pd, m⟩, hd, hz, hpz, ⟨g, hg⟩, hm⟩ := li
  first | refine mx_aload_n C dL_law_636 (pc' := 637) rfl rfl ?_ | refine mx_aload_nq C dL_law_636 (pc' := 637) rfl rfl ?_
  first | refine mx_aload_n C dL_law_637 (pc' := 638) rfl rfl ?_ | refine mx_aload_nq C dL_law_637 (pc' := 638) rfl rfl ?_
  refine mx_iload C dL_law_638 (pc' := 640) rfl rfl ?_
  refine mx_iconst C (v := nI 1) (by decide) dL_law_640 (pc' := 641) rfl ?_
  refine mx_iadd C dL_law_641 (pc' := 642) rfl ?_
  rw [nI_add]
  refine mx_sld C dL_law_642 (pc' := 643) rfl hX hbl hbA rfl (show 6 * n + 1 < L by omega) hL3 ?_
  first | refine mx_aload_n C dL_law_643 (pc' := 644) rfl rfl ?_ | refine mx_aload_nq C dL_law_643 (pc' := 644) rfl rfl ?_
  refine mx_iload C dL_law_644 (pc' := 646) rfl rfl ?_
  refine mx_iconst C (v := nI 2) (by decide) dL_law_646 (pc' := 647) rfl ?_
  refine mx_iadd C dL_law_647 (pc' := 648) rfl ?_
  rw [nI_add]
  refine mx_sld C dL_law_648 (pc' := 649) rfl hX hbl hbA rfl (show 6 * n + 2 < L by omega) hL3 ?_
  first | refine mx_aload_n C dL_law_649 (pc' := 650) rfl rfl ?_ | refine mx_aload_nq C dL_law_649 (pc' := 650) rfl rfl ?_
  refine cLS_85 C hZ dL_law_650 (pc' := 653) rfl (c_L_index l G base hl h c rfl hg hz) ⟨by decide, by decide, by show _ + _ ≤ 601024; omega, by show _ + _ ≤ 7293033; omega, Nat.le_of_ble_eq_true rfl⟩ ?_
  rintro v1 h1 ⟨o1, ⟨g1, hg1, p1, p2⟩, mk1, c1⟩
  have m1 := m.far (fun i hi => o1 _ (hd i hi) (hpz i hi))
  by_cases hno : ixR (st_n σ) (xs (6 * n + 1)) = 0
  · obtain ⟨rfl, g0⟩ := p1 hno
    refine mx_istore C dL_law_653 (pc' := 655) rfl (by first | exact mx_c1_0 | exact mx_c1_int rfl | exact mx_c1_ref rfl | exact mx_c1_none rfl | exact mx_c1_rf rfl | exact mx_c1_null rfl) (by decide) (lo' := [_, _, _, _, _, _, _, _]) rfl ?_
    first | refine mx_aload_n C dL_law_655 (pc' := 656) rfl rfl ?_ | refine mx_aload_nq C dL_law_655 (pc' := 656) rfl rfl ?_
    first | refine mx_aload_n C dL_law_656 (pc' := 657) rfl rfl ?_ | refine mx_aload_nq C dL_law_656 (pc' := 657) rfl rfl ?_
    refine mx_iload C dL_law_657 (pc' := 659) rfl rfl ?_
    refine mx_iconst C (v := nI 1) (by decide) dL_law_659 (pc' := 660) rfl ?_
    refine mx_iadd C dL_law_660 (pc' := 661) rfl ?_
    rw [nI_add]
    refine mx_sld C dL_law_661 (pc' := 662) rfl hX hbl hbA rfl (show 6 * n + 1 < L by omega) hL3 ?_
    first | refine mx_aload_n C dL_law_662 (pc' := 663) rfl rfl ?_ | refine mx_aload_nq C dL_law_662 (pc' := 663) rfl rfl ?_
    refine mx_iload C dL_law_663 (pc' := 665) rfl rfl ?_
    refine mx_iconst C (v := nI 2) (by decide) dL_law_665 (pc' := 666) rfl ?_
    refine mx_iadd C dL_law_666 (pc' := 667) rfl ?_
    rw [nI_add]
    refine mx_sld C dL_law_667 (pc' := 668) rfl hX hbl hbA rfl (show 6 * n + 2 < L by omega) hL3 ?_
    refine cL_88 C dL_law_668 (pc' := 671) rfl (m1.2.2.1) (c_X9_index l G base h1 m1 rfl rfl rfl) ⟨by decide, by decide, by show _ + _ ≤ 601024; omega, by show _ + _ ≤ 7293033; omega, Nat.le_of_ble_eq_true rfl⟩ ?_
    rintro v2 h2 ⟨o2, r1, r2⟩
    obtain ⟨rfl, m2⟩ := r1 hno
    have hg2 := (o2.z hpz).trans hg1
    refine mx_istore C dL_law_671 (pc' := 673) rfl (by first | exact mx_c1_0 | exact mx_c1_int rfl | exact mx_c1_ref rfl | exact mx_c1_none rfl | exact mx_c1_rf rfl | exact mx_c1_null rfl) (by decide) (lo' := [_, _, _, _, _, _, _, _]) rfl ?_
    first | refine mx_aload_n C dL_law_673 (pc' := 674) rfl rfl ?_ | refine mx_aload_nq C dL_law_673 (pc' := 674) rfl rfl ?_
    refine cL_56 C dL_law_674 (pc' := 677) rfl (m2.2.2.1) (c_X9_thrown l G base h2 m2) ⟨by decide, by decide, by show _ + _ ≤ 601024; omega, by show _ + _ ≤ 7293033; omega, Nat.le_of_ble_eq_true rfl⟩ ?_
    rintro _ _ ⟨rfl, rfl⟩
    refine mx_iload C dL_law_677 (pc' := 679) rfl rfl ?_
    refine mx_icmp_eq C dL_law_679 (tgt := 684) (by decide) (pc' := 682) rfl (fun q1 => ?_) (fun q1 => ?_)
    · skip
      refine mx_iload C dL_law_684 (pc' := 686) rfl rfl ?_
      refine mx_if_ne C dL_law_686 (tgt := 701) (by decide) (pc' := 689) rfl (fun q2 => ?_) (fun q2 => ?_)
      · exact absurd (by decide) q2
      · skip
        first | refine mx_aload_n C dL_law_689 (pc' := 690) rfl rfl ?_ | refine mx_aload_nq C dL_law_689 (pc' := 690) rfl rfl ?_
        refine mx_iconst C (v := nI 0) (by decide) dL_law_690 (pc' := 691) rfl ?_
        refine mx_lald C dL_law_691 (pc' := 692) rfl (hg2) (rfl) (show 0 < 1 by decide) (by decide) ?_
        refine mx_iload C dL_law_692 (pc' := 694) rfl rfl ?_
        refine mx_i2l C (rfl) dL_law_694 (pc' := 695) rfl ?_
        refine mx_lcmp C dL_law_695 (pc' := 696) rfl ?_
        refine mx_L_eq C dL_law_696 (tgt := 701) (by decide) (pc' := 699) rfl (fun q3 => ?_) (fun q3 => ?_)
        · skip
          refine mx_goto C dL_law_701 (tgt := 704) (by decide) ?_
          exact next A _ h2 _ _ _ _ _ rfl (LI.mk2 c1 m2 o2 hd hz hpz hg1 (show st_m σ ≤ n + 1 by omega)) (by omega) (by omega)
        · exact absurd (g0.trans (by decide)) q3
    · exact absurd rfl q1
  · have hK := klS m.1 hno
    rcases p2 hno with ⟨rfl, hbad⟩ | ⟨rfl, j, q, ej, hq, gq⟩
    · rw [← hK] at hbad
      refine mx_istore C dL_law_653 (pc' := 655) rfl (by first | exact mx_c1_0 | exact mx_c1_int rfl | exact mx_c1_ref rfl | exact mx_c1_none rfl | exact mx_c1_rf rfl | exact mx_c1_null rfl) (by decide) (lo' := [_, _, _, _, _, _, _, _]) rfl ?_
      first | refine mx_aload_n C dL_law_655 (pc' := 656) rfl rfl ?_ | refine mx_aload_nq C dL_law_655 (pc' := 656) rfl rfl ?_
      first | refine mx_aload_n C dL_law_656 (pc' := 657) rfl rfl ?_ | refine mx_aload_nq C dL_law_656 (pc' := 657) rfl rfl ?_
      refine mx_iload C dL_law_657 (pc' := 659) rfl rfl ?_
      refine mx_iconst C (v := nI 1) (by decide) dL_law_659 (pc' := 660) rfl ?_
      refine mx_iadd C dL_law_660 (pc' := 661) rfl ?_
      rw [nI_add]
      refine mx_sld C dL_law_661 (pc' := 662) rfl hX hbl hbA rfl (show 6 * n + 1 < L by omega) hL3 ?_
      first | refine mx_aload_n C dL_law_662 (pc' := 663) rfl rfl ?_ | refine mx_aload_nq C dL_law_662 (pc' := 663) rfl rfl ?_
      refine mx_iload C dL_law_663 (pc' := 665) rfl rfl ?_
      refine mx_iconst C (v := nI 2) (by decide) dL_law_665 (pc' := 666) rfl ?_
      refine mx_iadd C dL_law_666 (pc' := 667) rfl ?_
      rw [nI_add]
      refine mx_sld C dL_law_667 (pc' := 668) rfl hX hbl hbA rfl (show 6 * n + 2 < L by omega) hL3 ?_
      refine cL_88 C dL_law_668 (pc' := 671) rfl (m1.2.2.1) (c_X9_index l G base h1 m1 rfl rfl rfl) ⟨by decide, by decide, by show _ + _ ≤ 601024; omega, by show _ + _ ≤ 7293033; omega, Nat.le_of_ble_eq_true rfl⟩ ?_
      rintro v2 h2 ⟨o2, r1, r2⟩
      obtain ⟨rfl, m2⟩ := (r2 hno).1 hbad
      have hg2 := (o2.z hpz).trans hg1
      refine mx_istore C dL_law_671 (pc' := 673) rfl (by first | exact mx_c1_0 | exact mx_c1_int rfl | exact mx_c1_ref rfl | exact mx_c1_none rfl | exact mx_c1_rf rfl | exact mx_c1_null rfl) (by decide) (lo' := [_, _, _, _, _, _, _, _]) rfl ?_
      first | refine mx_aload_n C dL_law_673 (pc' := 674) rfl rfl ?_ | refine mx_aload_nq C dL_law_673 (pc' := 674) rfl rfl ?_
      refine cL_56 C dL_law_674 (pc' := 677) rfl (m2.2.2.1) (c_X9_thrown l G base h2 m2) ⟨by decide, by decide, by show _ + _ ≤ 601024; omega, by show _ + _ ≤ 7293033; omega, Nat.le_of_ble_eq_true rfl⟩ ?_
      rintro _ _ ⟨rfl, rfl⟩
      refine mx_iload C dL_law_677 (pc' := 679) rfl rfl ?_
      refine mx_icmp_eq C dL_law_679 (tgt := 684) (by decide) (pc' := 682) rfl (fun q1 => ?_) (fun q1 => ?_)
      · skip
        refine mx_iload C dL_law_684 (pc' := 686) rfl rfl ?_
        refine mx_if_ne C dL_law_686 (tgt := 701) (by decide) (pc' := 689) rfl (fun q2 => ?_) (fun q2 => ?_)
        · skip
          refine mx_goto C dL_law_701 (tgt := 704) (by decide) ?_
          exact next A _ h2 _ _ _ _ _ rfl (LI.mk2 c1 m2 o2 hd hz hpz hg1 (show st_m σ ≤ n + 1 by omega)) (by omega) (by omega)
        · exact absurd q2 (by decide)
      · exact absurd rfl q1
    · have hcl := cntB_le (fun i => mkP σ (fun j => decide (sky σ (j + 1) = some q)) (st_k σ) (i + 1)) (st_n σ)
      have hcn : cntK σ q ≤ 40 := Nat.le_trans hcl m.1.1
      rw [← hK] at hq
      refine mx_istore C dL_law_653 (pc' := 655) rfl (by first | exact mx_c1_0 | exact mx_c1_int rfl | exact mx_c1_ref rfl | exact mx_c1_none rfl | exact mx_c1_rf rfl | exact mx_c1_null rfl) (by decide) (lo' := [_, _, _, _, _, _, _, _]) rfl ?_
      first | refine mx_aload_n C dL_law_655 (pc' := 656) rfl rfl ?_ | refine mx_aload_nq C dL_law_655 (pc' := 656) rfl rfl ?_
      first | refine mx_aload_n C dL_law_656 (pc' := 657) rfl rfl ?_ | refine mx_aload_nq C dL_law_656 (pc' := 657) rfl rfl ?_
      refine mx_iload C dL_law_657 (pc' := 659) rfl rfl ?_
      refine mx_iconst C (v := nI 1) (by decide) dL_law_659 (pc' := 660) rfl ?_
      refine mx_iadd C dL_law_660 (pc' := 661) rfl ?_
      rw [nI_add]
      refine mx_sld C dL_law_661 (pc' := 662) rfl hX hbl hbA rfl (show 6 * n + 1 < L by omega) hL3 ?_
      first | refine mx_aload_n C dL_law_662 (pc' := 663) rfl rfl ?_ | refine mx_aload_nq C dL_law_662 (pc' := 663) rfl rfl ?_
      refine mx_iload C dL_law_663 (pc' := 665) rfl rfl ?_
      refine mx_iconst C (v := nI 2) (by decide) dL_law_665 (pc' := 666) rfl ?_
      refine mx_iadd C dL_law_666 (pc' := 667) rfl ?_
      rw [nI_add]
      refine mx_sld C dL_law_667 (pc' := 668) rfl hX hbl hbA rfl (show 6 * n + 2 < L by omega) hL3 ?_
      refine cL_88 C dL_law_668 (pc' := 671) rfl (m1.2.2.1) (c_X9_index l G base h1 m1 rfl rfl rfl) ⟨by decide, by decide, by show _ + _ ≤ 601024; omega, by show _ + _ ≤ 7293033; omega, Nat.le_of_ble_eq_true rfl⟩ ?_
      rintro v2 h2 ⟨o2, r1, r2⟩
      obtain ⟨rfl, m2⟩ := (r2 hno).2 j q ej hq
      have hg2 := (o2.z hpz).trans hg1
      refine mx_istore C dL_law_671 (pc' := 673) rfl (by first | exact mx_c1_0 | exact mx_c1_int rfl | exact mx_c1_ref rfl | exact mx_c1_none rfl | exact mx_c1_rf rfl | exact mx_c1_null rfl) (by decide) (lo' := [_, _, _, _, _, _, _, _]) rfl ?_
      first | refine mx_aload_n C dL_law_673 (pc' := 674) rfl rfl ?_ | refine mx_aload_nq C dL_law_673 (pc' := 674) rfl rfl ?_
      refine cL_56 C dL_law_674 (pc' := 677) rfl (m2.2.2.1) (c_X9_thrown l G base h2 m2) ⟨by decide, by decide, by show _ + _ ≤ 601024; omega, by show _ + _ ≤ 7293033; omega, Nat.le_of_ble_eq_true rfl⟩ ?_
      rintro _ _ ⟨rfl, rfl⟩
      refine mx_iload C dL_law_677 (pc' := 679) rfl rfl ?_
      refine mx_icmp_eq C dL_law_679 (tgt := 684) (by decide) (pc' := 682) rfl (fun q1 => ?_) (fun q1 => ?_)
      · skip
        refine mx_iload C dL_law_684 (pc' := 686) rfl rfl ?_
        refine mx_if_ne C dL_law_686 (tgt := 701) (by decide) (pc' := 689) rfl (fun q2 => ?_) (fun q2 => ?_)
        · exact absurd (by decide) q2
        · skip
          first | refine mx_aload_n C dL_law_689 (pc' := 690) rfl rfl ?_ | refine mx_aload_nq C dL_law_689 (pc' := 690) rfl rfl ?_
          refine mx_iconst C (v := nI 0) (by decide) dL_law_690 (pc' := 691) rfl ?_
          refine mx_lald C dL_law_691 (pc' := 692) rfl (hg2) (rfl) (show 0 < 1 by decide) (by decide) ?_
          refine mx_iload C dL_law_692 (pc' := 694) rfl rfl ?_
          refine mx_i2l C (nI_l (show cntK σ q < 2 ^ 31 by omega)) dL_law_694 (pc' := 695) rfl ?_
          refine mx_lcmp C dL_law_695 (pc' := 696) rfl ?_
          refine mx_L_eq C dL_law_696 (tgt := 701) (by decide) (pc' := 699) rfl (fun q3 => ?_) (fun q3 => ?_)
          · skip
            refine mx_goto C dL_law_701 (tgt := 704) (by decide) ?_
            exact next A _ h2 _ _ _ _ _ rfl (LI.mk2 c1 m2 o2 hd hz hpz hg1 (show st_m σ ≤ n + 1 by omega)) (by omega) (by omega)
          · exact absurd (gq) q3
      · exact absurd rfl q1
end LW
