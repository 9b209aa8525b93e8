/-! the law: its calls one by one -/
def LI (G : mx_G) (A : mxA) (P : Nat → Nat) (z : Nat) (h : mx_H) (σ : mxS) (n : Nat) : Prop := (∃ la ea mk, CI G A h σ la ea mk) ∧ (∃ th kc pu pd, MI G P h σ th kc pu pd) ∧ (∀ i, i < 18 → ¬ inA A σ (P i)) ∧ ¬ inA A σ z ∧ (∀ i, i < 18 → P i ≠ z) ∧ (∃ g : Nat → Int64, h z = some (.inl (G.2 1, 1, .inr (.inl g)))) ∧ st_m σ ≤ n
theorem CI.ref {G : mx_G} {A : mxA} {P : Nat → Nat} {h h' : mx_H} {σ : mxS} {la ea : Nat → Nat} {mk : Nat → Bool} (c : CI G A h σ la ea mk) (o : OUM P h h') (hd : ∀ i, i < 18 → ¬ inA A σ (P i)) : CI G A h' σ la ea mk := c.far (fun a ha => o a (fun i hi e => hd i hi (by rw [← e]; exact ha)))
theorem OUM.z {P : Nat → Nat} {h h' : mx_H} {z : Nat} (o : OUM P h h') (hp : ∀ i, i < 18 → P i ≠ z) : h' z = h z := o z (fun i hi e => hp i hi e.symm)
theorem MI.some {G : mx_G} {P : Nat → Nat} {h : mx_H} {σ : mxS} {th kc : Int32} {pu pd : Int64} (m : MI G P h σ th kc pu pd) : ∀ i, i < 18 → h (P i) ≠ none := by
  obtain ⟨-, -, m3, ⟨R, L, I, W, a1, a2, a3, a4, -⟩, ⟨O, T, S, Z, a5, a6, a7, a8, -⟩, ⟨U, D, F, a9, a10, a11, -⟩, m7, m8⟩ := m
  intro i hi z
  match i, hi with
  | 0, _ => rw [m3] at z; cases z
  | 1, _ => rw [a1] at z; cases z
  | 2, _ => rw [a2] at z; cases z
  | 3, _ => rw [a3] at z; cases z
  | 4, _ => rw [a4] at z; cases z
  | 5, _ => rw [a5] at z; cases z
  | 6, _ => rw [a6] at z; cases z
  | 7, _ => rw [a7] at z; cases z
  | 8, _ => rw [a8] at z; cases z
  | 9, _ => rw [a9] at z; cases z
  | 10, _ => rw [a10] at z; cases z
  | 11, _ => rw [a11] at z; cases z
  | 12, _ => obtain ⟨B, hB⟩ := m7 12 (by decide) (by decide); rw [hB] at z; cases z
  | 13, _ => obtain ⟨B, hB⟩ := m7 13 (by decide) (by decide); rw [hB] at z; cases z
  | 14, _ => obtain ⟨B, hB⟩ := m8 14 (by decide) (by decide); rw [hB] at z; cases z
  | 15, _ => obtain ⟨B, hB⟩ := m8 15 (by decide) (by decide); rw [hB] at z; cases z
  | 16, _ => obtain ⟨B, hB⟩ := m8 16 (by decide) (by decide); rw [hB] at z; cases z
  | 17, _ => obtain ⟨B, hB⟩ := m8 17 (by decide) (by decide); rw [hB] at z; cases z
  | i + 18, hi => exact absurd hi (by omega)
theorem LI.mk2 {G : mx_G} {A : mxA} {P : Nat → Nat} {z n : Nat} {h h' : mx_H} {σ : mxS} {la ea : Nat → Nat} {mk : Nat → Bool} {th kc : Int32} {pu pd : Int64} (c : CI G A h σ la ea mk) (m : MI G P h' σ th kc pu pd) (o : OUM P h h') (hd : ∀ i, i < 18 → ¬ inA A σ (P i)) (hz : ¬ inA A σ z) (hp : ∀ i, i < 18 → P i ≠ z) {g : Nat → Int64} (hg : h z = some (.inl (G.2 1, 1, .inr (.inl g)))) (hm : st_m σ ≤ n) : LI G A P z h' σ n :=
  ⟨⟨la, ea, mk, c.ref o hd⟩, ⟨th, kc, pu, pd, m⟩, hd, hz, hp, ⟨g, (o.z hp).trans hg⟩, hm⟩
section LW
variable {p : Program} {l : Launch} {e : Env} {s : State} {mt : MethodId} {args : Array Value} {below : List Frame} {meth : Method} {cd : Code} {G : mx_G} {base b L n : Nat} {xs : Nat → Int32} {Q : State → Prop} {h : mx_H} {kc ks : Nat} {A : mxA} {P : Nat → Nat} {z : Nat} {σ : mxS}
set_option maxRecDepth 20000
theorem mx_sld {cc : ByteArray} {own : String} {nL pc : Nat} {R : Room} {lo : List (Option Value)} {st : List Value} (C : mx_C p s mt args meth cd cc nL own G base) (hd : decode cc pc = .ok (.iaload, 1)) {pc' : Nat} (hp : pc + 1 = pc') (hX : va_X b L xs s s.heap) (hbl : b < s.heap.size) (hbA : ¬ mx_A base b) {i : Int32} {j : Nat} (hi : i = nI j) (hj : j < L) (hL : L ≤ 3072) (k : mx_V p l e R s mt args below meth cd G base nL Q h kc ks pc' lo (.int (xs j) :: st)) : mx_V p l e R s mt args below meth cd G base nL Q h kc ks pc lo (.int i :: .ref b :: st) := by
  subst hp; subst hi
  intro H locs ls hR hS hL2
  refine va_sld C.1 C.2.1 hX hbl hbA hS (nI_in hj (by omega)) hd ?_
  rw [nI_clamp (by omega)]
  exact k H locs ls hR hS hL2
theorem mx_slen {cc : ByteArray} {own : String} {nL pc : Nat} {R : Room} {lo : List (Option Value)} {st : List Value} (C : mx_C p s mt args meth cd cc nL own G base) (hd : decode cc pc = .ok (.arraylength, 1)) {pc' : Nat} (hp : pc + 1 = pc') (hX : va_X b L xs s s.heap) (hbl : b < s.heap.size) (hbA : ¬ mx_A base b) (k : mx_V p l e R s mt args below meth cd G base nL Q h kc ks pc' lo (.int (nI L) :: st)) : mx_V p l e R s mt args below meth cd G base nL Q h kc ks pc lo (.ref b :: st) := by
  subst hp
  intro H locs ls hR hS hL2
  exact va_slen C.1 C.2.1 hX hbl hbA hS hd (k H locs ls hR hS hL2)
theorem mx_wid {nL pc : Nat} {R : Room} {lo : List (Option Value)} {st : List Value} {kc' ks' : Nat} (h1 : kc ≤ kc') (h2 : ks ≤ ks') (k : mx_V p l e R s mt args below meth cd G base nL Q h kc' ks' pc lo st) : mx_V p l e R s mt args below meth cd G base nL Q h kc ks pc lo st := fun H locs ls hR hS hL => W.widen h1 h2 (k H locs ls hR hS hL)
def LC (p : Program) (l : Launch) (s : State) (mt : MethodId) (args : Array Value) (meth : Method) (cd : Code) (G : mx_G) (base b L n : Nat) (xs : Nat → Int32) : Prop := mx_C p s mt args meth cd cL_law 8 RL G base ∧ va_X b L xs s s.heap ∧ b < s.heap.size ∧ ¬ mx_A base b ∧ L ≤ 3072 ∧ 6 * n + 6 ≤ L ∧ mx_Z base s s.heap ∧ l.stackTraces = false
def LNext (p : Program) (l : Launch) (e : Env) (s : State) (mt : MethodId) (args : Array Value) (below : List Frame) (meth : Method) (cd : Code) (G : mx_G) (base b n k0 : Nat) (P : Nat → Nat) (z : Nat) (Q : State → Prop) : Prop := ∀ (A : mxA) (σ : mxS) (h : mx_H) (kc ks : Nat) (o5 o6 o7 : Option Value), aK A 0 = k0 → LI G A P z h σ (n + 1) → kc ≤ 42 + 2 * (n + 1) → ks ≤ 14214 + 66 * (n + 1) → mx_V p l e { frames := 11, cells := 601024, slots := 7293033, locals := 392 } s mt args below meth cd G base 8 Q h kc ks 704 [some (.ref b), some (.ref k0), some (.ref (P 0)), some (.ref z), some (.int (nI (6 * n))), o5, o6, o7] []
theorem lw_at (K : LC p l s mt args meth cd G base b L n xs) (li : LI G A P z h σ n) (hkc : kc ≤ 42 + 2 * n) (hks : ks ≤ 14214 + 66 * n) (next : LNext p l e s mt args below meth cd G base b n (aK A 0) P z Q) : mx_V p l e { frames := 11, cells := 601024, slots := 7293033, locals := 392 } s mt args below meth cd G base 8 Q h kc ks 459 [some (.ref b), some (.ref (aK A 0)), some (.ref (P 0)), some (.ref z), some (.int (nI (6 * n))), none, none, none] [] := by
  obtain ⟨C, hX, hbl, hbA, hL3, hn6, hZ, hl⟩ := K
  obtain ⟨⟨la, ea, mk, c⟩, ⟨th, kcr, pu, pd, m⟩, hd, hz, hpz, ⟨g, hg⟩, hm⟩ := li
  first | refine mx_aload_n C dL_law_459 (pc' := 460) rfl rfl ?_ | refine mx_aload_nq C dL_law_459 (pc' := 460) rfl rfl ?_
  first | refine mx_aload_n C dL_law_460 (pc' := 461) rfl rfl ?_ | refine mx_aload_nq C dL_law_460 (pc' := 461) rfl rfl ?_
  refine mx_iload C dL_law_461 (pc' := 463) rfl rfl ?_
  refine mx_iconst C (v := nI 1) (by decide) dL_law_463 (pc' := 464) rfl ?_
  refine mx_iadd C dL_law_464 (pc' := 465) rfl ?_
  rw [nI_add]
  refine mx_sld C dL_law_465 (pc' := 466) rfl hX hbl hbA rfl (show 6 * n + 1 < L by omega) hL3 ?_
  refine cL_64 C dL_law_466 (pc' := 469) rfl (c.2.2.1) (c_X8_at l G base h c) ⟨by decide, by decide, by show _ + _ ≤ 601024; omega, by show _ + _ ≤ 7293033; omega, Nat.le_of_ble_eq_true rfl⟩ ?_
  rintro _ _ ⟨rfl, rfl⟩
  first | refine mx_aload_n C dL_law_469 (pc' := 470) rfl rfl ?_ | refine mx_aload_nq C dL_law_469 (pc' := 470) rfl rfl ?_
  first | refine mx_aload_n C dL_law_470 (pc' := 471) rfl rfl ?_ | refine mx_aload_nq C dL_law_470 (pc' := 471) rfl rfl ?_
  refine mx_iload C dL_law_471 (pc' := 473) rfl rfl ?_
  refine mx_iconst C (v := nI 1) (by decide) dL_law_473 (pc' := 474) rfl ?_
  refine mx_iadd C dL_law_474 (pc' := 475) rfl ?_
  rw [nI_add]
  refine mx_sld C dL_law_475 (pc' := 476) rfl hX hbl hbA rfl (show 6 * n + 1 < L by omega) hL3 ?_
  refine cL_67 C dL_law_476 (pc' := 479) rfl (m.2.2.1) (c_X9_at_ l G base h m) ⟨by decide, by decide, by show _ + _ ≤ 601024; omega, by show _ + _ ≤ 7293033; omega, Nat.le_of_ble_eq_true rfl⟩ ?_
  rintro _ h2 ⟨rfl, m2, o2⟩
  refine mx_icmp_eq C dL_law_479 (tgt := 704) (by decide) (pc' := 482) rfl (fun q1 => ?_) (fun q1 => ?_)
  · exact next A σ h2 _ _ _ _ _ rfl (LI.mk2 c m2 o2 hd hz hpz hg (by omega)) (by omega) (by omega)
  · exact absurd rfl q1
theorem lw_winner (K : LC p l s mt args meth cd G base b L n xs) (li : LI G A P z h σ n) (hkc : kc ≤ 42 + 2 * n) (hks : ks ≤ 14214 + 66 * n) (next : LNext p l e s mt args below meth cd G base b n (aK A 0) P z Q) : mx_V p l e { frames := 11, cells := 601024, slots := 7293033, locals := 392 } s mt args below meth cd G base 8 Q h kc ks 521 [some (.ref b), some (.ref (aK A 0)), some (.ref (P 0)), some (.ref z), some (.int (nI (6 * n))), none, none, none] [] := by
  obtain ⟨C, hX, hbl, hbA, hL3, hn6, hZ, hl⟩ := K
  obtain ⟨⟨la, ea, mk, c⟩, ⟨th, kcr, pu, pd, m⟩, hd, hz, hpz, ⟨g, hg⟩, hm⟩ := li
  first | refine mx_aload_n C dL_law_521 (pc' := 522) rfl rfl ?_ | refine mx_aload_nq C dL_law_521 (pc' := 522) rfl rfl ?_
  first | refine mx_aload_n C dL_law_522 (pc' := 523) rfl rfl ?_ | refine mx_aload_nq C dL_law_522 (pc' := 523) rfl rfl ?_
  refine mx_iload C dL_law_523 (pc' := 525) rfl rfl ?_
  refine mx_iconst C (v := nI 1) (by decide) dL_law_525 (pc' := 526) rfl ?_
  refine mx_iadd C dL_law_526 (pc' := 527) rfl ?_
  rw [nI_add]
  refine mx_sld C dL_law_527 (pc' := 528) rfl hX hbl hbA rfl (show 6 * n + 1 < L by omega) hL3 ?_
  first | refine mx_aload_n C dL_law_528 (pc' := 529) rfl rfl ?_ | refine mx_aload_nq C dL_law_528 (pc' := 529) rfl rfl ?_
  refine mx_iload C dL_law_529 (pc' := 531) rfl rfl ?_
  refine mx_iconst C (v := nI 2) (by decide) dL_law_531 (pc' := 532) rfl ?_
  refine mx_iadd C dL_law_532 (pc' := 533) rfl ?_
  rw [nI_add]
  refine mx_sld C dL_law_533 (pc' := 534) rfl hX hbl hbA rfl (show 6 * n + 2 < L by omega) hL3 ?_
  refine cL_72 C dL_law_534 (pc' := 537) rfl (c.2.2.1) (c_X8_winner l G base h c rfl rfl) ⟨by decide, by decide, by show _ + _ ≤ 601024; omega, by show _ + _ ≤ 7293033; omega, Nat.le_of_ble_eq_true rfl⟩ ?_
  rintro _ _ ⟨rfl, rfl⟩
  first | refine mx_aload_n C dL_law_537 (pc' := 538) rfl rfl ?_ | refine mx_aload_nq C dL_law_537 (pc' := 538) rfl rfl ?_
  first | refine mx_aload_n C dL_law_538 (pc' := 539) rfl rfl ?_ | refine mx_aload_nq C dL_law_538 (pc' := 539) rfl rfl ?_
  refine mx_iload C dL_law_539 (pc' := 541) rfl rfl ?_
  refine mx_iconst C (v := nI 1) (by decide) dL_law_541 (pc' := 542) rfl ?_
  refine mx_iadd C dL_law_542 (pc' := 543) rfl ?_
  rw [nI_add]
  refine mx_sld C dL_law_543 (pc' := 544) rfl hX hbl hbA rfl (show 6 * n + 1 < L by omega) hL3 ?_
  first | refine mx_aload_n C dL_law_544 (pc' := 545) rfl rfl ?_ | refine mx_aload_nq C dL_law_544 (pc' := 545) rfl rfl ?_
  refine mx_iload C dL_law_545 (pc' := 547) rfl rfl ?_
  refine mx_iconst C (v := nI 2) (by decide) dL_law_547 (pc' := 548) rfl ?_
  refine mx_iadd C dL_law_548 (pc' := 549) rfl ?_
  rw [nI_add]
  refine mx_sld C dL_law_549 (pc' := 550) rfl hX hbl hbA rfl (show 6 * n + 2 < L by omega) hL3 ?_
  refine cL_75 C dL_law_550 (pc' := 553) rfl (m.2.2.1) (c_X9_winner l G base h m rfl rfl) ⟨by decide, by decide, by show _ + _ ≤ 601024; omega, by show _ + _ ≤ 7293033; omega, Nat.le_of_ble_eq_true rfl⟩ ?_
  rintro _ h2 ⟨rfl, m2, o2⟩
  refine mx_icmp_eq C dL_law_553 (tgt := 704) (by decide) (pc' := 556) rfl (fun q1 => ?_) (fun q1 => ?_)
  · exact next A σ h2 _ _ _ _ _ rfl (LI.mk2 c m2 o2 hd hz hpz hg (by omega)) (by omega) (by omega)
  · exact absurd rfl q1
theorem lw_isbn (K : LC p l s mt args meth cd G base b L n xs) (li : LI G A P z h σ n) (hkc : kc ≤ 42 + 2 * n) (hks : ks ≤ 14214 + 66 * n) (next : LNext p l e s mt args below meth cd G base b n (aK A 0) P z Q) : mx_V p l e { frames := 11, cells := 601024, slots := 7293033, locals := 392 } s mt args below meth cd G base 8 Q h kc ks 205 [some (.ref b), some (.ref (aK A 0)), some (.ref (P 0)), some (.ref z), some (.int (nI (6 * n))), none, none, none] [] := by
  obtain ⟨C, hX, hbl, hbA, hL3, hn6, hZ, hl⟩ := K
  obtain ⟨⟨la, ea, mk, c⟩, ⟨th, kcr, pu, pd, m⟩, hd, hz, hpz, ⟨g, hg⟩, hm⟩ := li
  first | refine mx_aload_n C dL_law_205 (pc' := 206) rfl rfl ?_ | refine mx_aload_nq C dL_law_205 (pc' := 206) rfl rfl ?_
  first | refine mx_aload_n C dL_law_206 (pc' := 207) rfl rfl ?_ | refine mx_aload_nq C dL_law_206 (pc' := 207) rfl rfl ?_
  refine mx_iload C dL_law_207 (pc' := 209) rfl rfl ?_
  refine mx_iconst C (v := nI 1) (by decide) dL_law_209 (pc' := 210) rfl ?_
  refine mx_iadd C dL_law_210 (pc' := 211) rfl ?_
  rw [nI_add]
  refine mx_sld C dL_law_211 (pc' := 212) rfl hX hbl hbA rfl (show 6 * n + 1 < L by omega) hL3 ?_
  first | refine mx_aload_n C dL_law_212 (pc' := 213) rfl rfl ?_ | refine mx_aload_nq C dL_law_212 (pc' := 213) rfl rfl ?_
  refine mx_iload C dL_law_213 (pc' := 215) rfl rfl ?_
  refine mx_iconst C (v := nI 2) (by decide) dL_law_215 (pc' := 216) rfl ?_
  refine mx_iadd C dL_law_216 (pc' := 217) rfl ?_
  rw [nI_add]
  refine mx_sld C dL_law_217 (pc' := 218) rfl hX hbl hbA rfl (show 6 * n + 2 < L by omega) hL3 ?_
  refine cL_39 C dL_law_218 (pc' := 221) rfl (c.2.2.1) (c_X8_isbn l G base h c rfl) ⟨by decide, by decide, by show _ + _ ≤ 601024; omega, by show _ + _ ≤ 7293033; omega, Nat.le_of_ble_eq_true rfl⟩ ?_
  rintro _ h1 ⟨rfl, c1, o1⟩
  have m1 := m.far (fun i hi => o1.far (hd i hi))
  first | refine mx_aload_n C dL_law_221 (pc' := 222) rfl rfl ?_ | refine mx_aload_nq C dL_law_221 (pc' := 222) rfl rfl ?_
  first | refine mx_aload_n C dL_law_222 (pc' := 223) rfl rfl ?_ | refine mx_aload_nq C dL_law_222 (pc' := 223) rfl rfl ?_
  refine mx_iload C dL_law_223 (pc' := 225) rfl rfl ?_
  refine mx_iconst C (v := nI 1) (by decide) dL_law_225 (pc' := 226) rfl ?_
  refine mx_iadd C dL_law_226 (pc' := 227) rfl ?_
  rw [nI_add]
  refine mx_sld C dL_law_227 (pc' := 228) rfl hX hbl hbA rfl (show 6 * n + 1 < L by omega) hL3 ?_
  first | refine mx_aload_n C dL_law_228 (pc' := 229) rfl rfl ?_ | refine mx_aload_nq C dL_law_228 (pc' := 229) rfl rfl ?_
  refine mx_iload C dL_law_229 (pc' := 231) rfl rfl ?_
  refine mx_iconst C (v := nI 2) (by decide) dL_law_231 (pc' := 232) rfl ?_
  refine mx_iadd C dL_law_232 (pc' := 233) rfl ?_
  rw [nI_add]
  refine mx_sld C dL_law_233 (pc' := 234) rfl hX hbl hbA rfl (show 6 * n + 2 < L by omega) hL3 ?_
  refine cL_42 C dL_law_234 (pc' := 237) rfl (m1.2.2.1) (c_X9_isbn l G base h1 m1 rfl) ⟨by decide, by decide, by show _ + _ ≤ 601024; omega, by show _ + _ ≤ 7293033; omega, Nat.le_of_ble_eq_true rfl⟩ ?_
  rintro _ h2 ⟨rfl, m2, o2⟩
  refine mx_icmp_eq C dL_law_237 (tgt := 704) (by decide) (pc' := 240) rfl (fun q1 => ?_) (fun q1 => ?_)
  · exact next A σ h2 _ _ _ _ _ rfl (LI.mk2 c1 m2 o2 hd hz hpz ((o1.far hz).trans hg) (by omega)) (by omega) (by omega)
  · exact absurd rfl q1
theorem lw_sign (K : LC p l s mt args meth cd G base b L n xs) (li : LI G A P z h σ n) (hkc : kc ≤ 42 + 2 * n) (hks : ks ≤ 14214 + 66 * n) (next : LNext p l e s mt args below meth cd G base b n (aK A 0) P z Q) : mx_V p l e { frames := 11, cells := 601024, slots := 7293033, locals := 392 } s mt args below meth cd G base 8 Q h kc ks 170 [some (.ref b), some (.ref (aK A 0)), some (.ref (P 0)), some (.ref z), some (.int (nI (6 * n))), none, none, none] [] := by
  obtain ⟨C, hX, hbl, hbA, hL3, hn6, hZ, hl⟩ := K
  obtain ⟨⟨la, ea, mk, c⟩, ⟨th, kcr, pu, pd, m⟩, hd, hz, hpz, ⟨g, hg⟩, hm⟩ := li
  first | refine mx_aload_n C dL_law_170 (pc' := 171) rfl rfl ?_ | refine mx_aload_nq C dL_law_170 (pc' := 171) rfl rfl ?_
  first | refine mx_aload_n C dL_law_171 (pc' := 172) rfl rfl ?_ | refine mx_aload_nq C dL_law_171 (pc' := 172) rfl rfl ?_
  refine mx_iload C dL_law_172 (pc' := 174) rfl rfl ?_
  refine mx_iconst C (v := nI 1) (by decide) dL_law_174 (pc' := 175) rfl ?_
  refine mx_iadd C dL_law_175 (pc' := 176) rfl ?_
  rw [nI_add]
  refine mx_sld C dL_law_176 (pc' := 177) rfl hX hbl hbA rfl (show 6 * n + 1 < L by omega) hL3 ?_
  first | refine mx_aload_n C dL_law_177 (pc' := 178) rfl rfl ?_ | refine mx_aload_nq C dL_law_177 (pc' := 178) rfl rfl ?_
  refine mx_iload C dL_law_178 (pc' := 180) rfl rfl ?_
  refine mx_iconst C (v := nI 2) (by decide) dL_law_180 (pc' := 181) rfl ?_
  refine mx_iadd C dL_law_181 (pc' := 182) rfl ?_
  rw [nI_add]
  refine mx_sld C dL_law_182 (pc' := 183) rfl hX hbl hbA rfl (show 6 * n + 2 < L by omega) hL3 ?_
  refine cL_34 C dL_law_183 (pc' := 186) rfl (c.2.2.1) (c_X8_sign l G base h c rfl) ⟨by decide, by decide, by show _ + _ ≤ 601024; omega, by show _ + _ ≤ 7293033; omega, Nat.le_of_ble_eq_true rfl⟩ ?_
  rintro _ h1 ⟨rfl, p1, p2⟩
  by_cases hc : ixR (st_k σ) (xs (6 * n + 1)) ≠ 0 ∧ st_sz σ (ixR (st_k σ) (xs (6 * n + 1))) < 60
  · obtain ⟨c1, o1⟩ := p1 hc
    have m1 := m.far (fun i hi => o1.far (hd i hi))
    first | refine mx_aload_n C dL_law_186 (pc' := 187) rfl rfl ?_ | refine mx_aload_nq C dL_law_186 (pc' := 187) rfl rfl ?_
    first | refine mx_aload_n C dL_law_187 (pc' := 188) rfl rfl ?_ | refine mx_aload_nq C dL_law_187 (pc' := 188) rfl rfl ?_
    refine mx_iload C dL_law_188 (pc' := 190) rfl rfl ?_
    refine mx_iconst C (v := nI 1) (by decide) dL_law_190 (pc' := 191) rfl ?_
    refine mx_iadd C dL_law_191 (pc' := 192) rfl ?_
    rw [nI_add]
    refine mx_sld C dL_law_192 (pc' := 193) rfl hX hbl hbA rfl (show 6 * n + 1 < L by omega) hL3 ?_
    first | refine mx_aload_n C dL_law_193 (pc' := 194) rfl rfl ?_ | refine mx_aload_nq C dL_law_193 (pc' := 194) rfl rfl ?_
    refine mx_iload C dL_law_194 (pc' := 196) rfl rfl ?_
    refine mx_iconst C (v := nI 2) (by decide) dL_law_196 (pc' := 197) rfl ?_
    refine mx_iadd C dL_law_197 (pc' := 198) rfl ?_
    rw [nI_add]
    refine mx_sld C dL_law_198 (pc' := 199) rfl hX hbl hbA rfl (show 6 * n + 2 < L by omega) hL3 ?_
    refine cL_38 C dL_law_199 (pc' := 202) rfl (m1.2.2.1) (c_X9_sign l G base h1 m1 rfl) ⟨by decide, by decide, by show _ + _ ≤ 601024; omega, by show _ + _ ≤ 7293033; omega, Nat.le_of_ble_eq_true rfl⟩ ?_
    rintro _ h2 ⟨rfl, o2, r1, r2⟩
    refine mx_goto C dL_law_202 (tgt := 704) (by decide) ?_
    exact next A _ h2 _ _ _ _ _ rfl (LI.mk2 c1 (r1 hc) o2 hd hz hpz ((o1.far hz).trans hg) (show st_m σ ≤ n + 1 by omega)) (by omega) (by omega)
  · have e1 := p2 hc
    subst e1
    first | refine mx_aload_n C dL_law_186 (pc' := 187) rfl rfl ?_ | refine mx_aload_nq C dL_law_186 (pc' := 187) rfl rfl ?_
    first | refine mx_aload_n C dL_law_187 (pc' := 188) rfl rfl ?_ | refine mx_aload_nq C dL_law_187 (pc' := 188) rfl rfl ?_
    refine mx_iload C dL_law_188 (pc' := 190) rfl rfl ?_
    refine mx_iconst C (v := nI 1) (by decide) dL_law_190 (pc' := 191) rfl ?_
    refine mx_iadd C dL_law_191 (pc' := 192) rfl ?_
    rw [nI_add]
    refine mx_sld C dL_law_192 (pc' := 193) rfl hX hbl hbA rfl (show 6 * n + 1 < L by omega) hL3 ?_
    first | refine mx_aload_n C dL_law_193 (pc' := 194) rfl rfl ?_ | refine mx_aload_nq C dL_law_193 (pc' := 194) rfl rfl ?_
    refine mx_iload C dL_law_194 (pc' := 196) rfl rfl ?_
    refine mx_iconst C (v := nI 2) (by decide) dL_law_196 (pc' := 197) rfl ?_
    refine mx_iadd C dL_law_197 (pc' := 198) rfl ?_
    rw [nI_add]
    refine mx_sld C dL_law_198 (pc' := 199) rfl hX hbl hbA rfl (show 6 * n + 2 < L by omega) hL3 ?_
    refine cL_38 C dL_law_199 (pc' := 202) rfl (m.2.2.1) (c_X9_sign l G base h m rfl) ⟨by decide, by decide, by show _ + _ ≤ 601024; omega, by show _ + _ ≤ 7293033; omega, Nat.le_of_ble_eq_true rfl⟩ ?_
    rintro _ h2 ⟨rfl, o2, r1, r2⟩
    refine mx_goto C dL_law_202 (tgt := 704) (by decide) ?_
    exact next A _ h2 _ _ _ _ _ rfl (LI.mk2 c (r2 hc) o2 hd hz hpz hg (show st_m σ ≤ n + 1 by omega)) (by omega) (by omega)
theorem lw_cand (K : LC p l s mt args meth cd G base b L n xs) (li : LI G A P z h σ n) (hkc : kc ≤ 42 + 2 * n) (hks : ks ≤ 14214 + 66 * n) (next : LNext p l e s mt args below meth cd G base b n (aK A 0) P z Q) : mx_V p l e { frames := 11, cells := 601024, slots := 7293033, locals := 392 } s mt args below meth cd G base 8 Q h kc ks 434 [some (.ref b), some (.ref (aK A 0)), some (.ref (P 0)), some (.ref z), some (.int (nI (6 * n))), none, none, none] [] := by
  obtain ⟨C, hX, hbl, hbA, hL3, hn6, hZ, hl⟩ := K
  obtain ⟨⟨la, ea, mk, c⟩, ⟨th, kcr, pu, pd, m⟩, hd, hz, hpz, ⟨g, hg⟩, hm⟩ := li
  first | refine mx_aload_n C dL_law_434 (pc' := 435) rfl rfl ?_ | refine mx_aload_nq C dL_law_434 (pc' := 435) rfl rfl ?_
  first | refine mx_aload_n C dL_law_435 (pc' := 436) rfl rfl ?_ | refine mx_aload_nq C dL_law_435 (pc' := 436) rfl rfl ?_
  refine mx_iload C dL_law_436 (pc' := 438) rfl rfl ?_
  refine mx_iconst C (v := nI 1) (by decide) dL_law_438 (pc' := 439) rfl ?_
  refine mx_iadd C dL_law_439 (pc' := 440) rfl ?_
  rw [nI_add]
  refine mx_sld C dL_law_440 (pc' := 441) rfl hX hbl hbA rfl (show 6 * n + 1 < L by omega) hL3 ?_
  refine cL_60 C dL_law_441 (pc' := 444) rfl (c.2.2.1) (c_X8_candidates l G base h c rfl) ⟨by decide, by decide, by show _ + _ ≤ 601024; omega, by show _ + _ ≤ 7293033; omega, Nat.le_of_ble_eq_true rfl⟩ ?_
  rintro v1 h1 ⟨p1, p2⟩
  by_cases hc : ixS σ (xs (6 * n + 1)) = 0
  · obtain ⟨rfl, rfl⟩ := p1 hc
    first | refine mx_aload_n C dL_law_444 (pc' := 445) rfl rfl ?_ | refine mx_aload_nq C dL_law_444 (pc' := 445) rfl rfl ?_
    first | refine mx_aload_n C dL_law_445 (pc' := 446) rfl rfl ?_ | refine mx_aload_nq C dL_law_445 (pc' := 446) rfl rfl ?_
    refine mx_iload C dL_law_446 (pc' := 448) rfl rfl ?_
    refine mx_iconst C (v := nI 1) (by decide) dL_law_448 (pc' := 449) rfl ?_
    refine mx_iadd C dL_law_449 (pc' := 450) rfl ?_
    rw [nI_add]
    refine mx_sld C dL_law_450 (pc' := 451) rfl hX hbl hbA rfl (show 6 * n + 1 < L by omega) hL3 ?_
    refine cL_63 C dL_law_451 (pc' := 454) rfl (m.2.2.1) (c_X9_candidates l G base h m rfl) ⟨by decide, by decide, by show _ + _ ≤ 601024; omega, by show _ + _ ≤ 7293033; omega, Nat.le_of_ble_eq_true rfl⟩ ?_
    rintro v2 h2 ⟨o2, r1, r2⟩
    obtain ⟨rfl, m2⟩ := r1 hc
    refine mx_icmp_eq C dL_law_454 (tgt := 704) (by decide) (pc' := 457) rfl (fun q1 => ?_) (fun q1 => ?_)
    · exact next A _ h2 _ _ _ _ _ rfl (LI.mk2 c m2 o2 hd hz hpz hg (show st_m σ ≤ n + 1 by omega)) (by omega) (by omega)
    · exact absurd rfl q1
  · obtain ⟨rfl, ⟨mk1, c1⟩, o1⟩ := p2 hc
    have m1 := m.far (fun i hi => o1.far (hd i hi))
    first | refine mx_aload_n C dL_law_444 (pc' := 445) rfl rfl ?_ | refine mx_aload_nq C dL_law_444 (pc' := 445) rfl rfl ?_
    first | refine mx_aload_n C dL_law_445 (pc' := 446) rfl rfl ?_ | refine mx_aload_nq C dL_law_445 (pc' := 446) rfl rfl ?_
    refine mx_iload C dL_law_446 (pc' := 448) rfl rfl ?_
    refine mx_iconst C (v := nI 1) (by decide) dL_law_448 (pc' := 449) rfl ?_
    refine mx_iadd C dL_law_449 (pc' := 450) rfl ?_
    rw [nI_add]
    refine mx_sld C dL_law_450 (pc' := 451) rfl hX hbl hbA rfl (show 6 * n + 1 < L by omega) hL3 ?_
    refine cL_63 C dL_law_451 (pc' := 454) rfl (m1.2.2.1) (c_X9_candidates l G base h1 m1 rfl) ⟨by decide, by decide, by show _ + _ ≤ 601024; omega, by show _ + _ ≤ 7293033; omega, Nat.le_of_ble_eq_true rfl⟩ ?_
    rintro v2 h2 ⟨o2, r1, r2⟩
    obtain ⟨rfl, kc2, m2⟩ := r2 hc
    refine mx_icmp_eq C dL_law_454 (tgt := 704) (by decide) (pc' := 457) rfl (fun q1 => ?_) (fun q1 => ?_)
    · exact next A _ h2 _ _ _ _ _ rfl (LI.mk2 c1 m2 o2 hd hz hpz ((o1.far hz).trans hg) (show st_m σ ≤ n + 1 by omega)) (by omega) (by omega)
    · exact absurd rfl q1
theorem lw_merge (K : LC p l s mt args meth cd G base b L n xs) (li : LI G A P z h σ n) (hkc : kc ≤ 42 + 2 * n) (hks : ks ≤ 14214 + 66 * n) (next : LNext p l e s mt args below meth cd G base b n (aK A 0) P z Q) : mx_V p l e { frames := 11, cells := 601024, slots := 7293033, locals := 392 } s mt args below meth cd G base 8 Q h kc ks 484 [some (.ref b), some (.ref (aK A 0)), some (.ref (P 0)), some (.ref z), some (.int (nI (6 * n))), none, none, none] [] := by
  obtain ⟨C, hX, hbl, hbA, hL3, hn6, hZ, hl⟩ := K
  obtain ⟨⟨la, ea, mk, c⟩, ⟨th, kcr, pu, pd, m⟩, hd, hz, hpz, ⟨g, hg⟩, hm⟩ := li
  first | refine mx_aload_n C dL_law_484 (pc' := 485) rfl rfl ?_ | refine mx_aload_nq C dL_law_484 (pc' := 485) rfl rfl ?_
  first | refine mx_aload_n C dL_law_485 (pc' := 486) rfl rfl ?_ | refine mx_aload_nq C dL_law_485 (pc' := 486) rfl rfl ?_
  refine mx_iload C dL_law_486 (pc' := 488) rfl rfl ?_
  refine mx_iconst C (v := nI 1) (by decide) dL_law_488 (pc' := 489) rfl ?_
  refine mx_iadd C dL_law_489 (pc' := 490) rfl ?_
  rw [nI_add]
  refine mx_sld C dL_law_490 (pc' := 491) rfl hX hbl hbA rfl (show 6 * n + 1 < L by omega) hL3 ?_
  first | refine mx_aload_n C dL_law_491 (pc' := 492) rfl rfl ?_ | refine mx_aload_nq C dL_law_491 (pc' := 492) rfl rfl ?_
  refine mx_iload C dL_law_492 (pc' := 494) rfl rfl ?_
  refine mx_iconst C (v := nI 2) (by decide) dL_law_494 (pc' := 495) rfl ?_
  refine mx_iadd C dL_law_495 (pc' := 496) rfl ?_
  rw [nI_add]
  refine mx_sld C dL_law_496 (pc' := 497) rfl hX hbl hbA rfl (show 6 * n + 2 < L by omega) hL3 ?_
  refine cL_68 C dL_law_497 (pc' := 500) rfl (c.2.2.1) (c_X8_merge l G base h c rfl rfl (by omega)) ⟨by decide, by decide, by show _ + _ ≤ 601024; omega, by show _ + _ ≤ 7293033; omega, Nat.le_of_ble_eq_true rfl⟩ ?_
  rintro v1 h1 ⟨p1, p2⟩
  by_cases hc : (ixS σ (xs (6 * n + 1)) = 0 ∨ ixS σ (xs (6 * n + 2)) = 0 ∨ ixS σ (xs (6 * n + 1)) = ixS σ (xs (6 * n + 2)) ∨ (st_lk σ (ixS σ (xs (6 * n + 1))) = true ∧ st_lk σ (ixS σ (xs (6 * n + 2))) = true))
  · obtain ⟨rfl, rfl⟩ := p1 hc
    first | refine mx_aload_n C dL_law_500 (pc' := 501) rfl rfl ?_ | refine mx_aload_nq C dL_law_500 (pc' := 501) rfl rfl ?_
    first | refine mx_aload_n C dL_law_501 (pc' := 502) rfl rfl ?_ | refine mx_aload_nq C dL_law_501 (pc' := 502) rfl rfl ?_
    refine mx_iload C dL_law_502 (pc' := 504) rfl rfl ?_
    refine mx_iconst C (v := nI 1) (by decide) dL_law_504 (pc' := 505) rfl ?_
    refine mx_iadd C dL_law_505 (pc' := 506) rfl ?_
    rw [nI_add]
    refine mx_sld C dL_law_506 (pc' := 507) rfl hX hbl hbA rfl (show 6 * n + 1 < L by omega) hL3 ?_
    first | refine mx_aload_n C dL_law_507 (pc' := 508) rfl rfl ?_ | refine mx_aload_nq C dL_law_507 (pc' := 508) rfl rfl ?_
    refine mx_iload C dL_law_508 (pc' := 510) rfl rfl ?_
    refine mx_iconst C (v := nI 2) (by decide) dL_law_510 (pc' := 511) rfl ?_
    refine mx_iadd C dL_law_511 (pc' := 512) rfl ?_
    rw [nI_add]
    refine mx_sld C dL_law_512 (pc' := 513) rfl hX hbl hbA rfl (show 6 * n + 2 < L by omega) hL3 ?_
    refine cL_71 C dL_law_513 (pc' := 516) rfl (m.2.2.1) (c_X9_merge l G base h m rfl rfl (by omega)) ⟨by decide, by decide, by show _ + _ ≤ 601024; omega, by show _ + _ ≤ 7293033; omega, Nat.le_of_ble_eq_true rfl⟩ ?_
    rintro v2 h2 ⟨o2, r1, r2⟩
    obtain ⟨rfl, m2⟩ := r1 hc
    refine mx_icmp_eq C dL_law_516 (tgt := 704) (by decide) (pc' := 519) rfl (fun q1 => ?_) (fun q1 => ?_)
    · exact next A _ h2 _ _ _ _ _ rfl (LI.mk2 c m2 o2 hd hz hpz hg (show st_m σ ≤ n + 1 by omega)) (by omega) (by omega)
    · exact absurd rfl q1
  · obtain ⟨rfl, o1, la1, ea1, c1⟩ := p2 hc
    have m1 := m.far (fun i hi => o1.far (hd i hi))
    first | refine mx_aload_n C dL_law_500 (pc' := 501) rfl rfl ?_ | refine mx_aload_nq C dL_law_500 (pc' := 501) rfl rfl ?_
    first | refine mx_aload_n C dL_law_501 (pc' := 502) rfl rfl ?_ | refine mx_aload_nq C dL_law_501 (pc' := 502) rfl rfl ?_
    refine mx_iload C dL_law_502 (pc' := 504) rfl rfl ?_
    refine mx_iconst C (v := nI 1) (by decide) dL_law_504 (pc' := 505) rfl ?_
    refine mx_iadd C dL_law_505 (pc' := 506) rfl ?_
    rw [nI_add]
    refine mx_sld C dL_law_506 (pc' := 507) rfl hX hbl hbA rfl (show 6 * n + 1 < L by omega) hL3 ?_
    first | refine mx_aload_n C dL_law_507 (pc' := 508) rfl rfl ?_ | refine mx_aload_nq C dL_law_507 (pc' := 508) rfl rfl ?_
    refine mx_iload C dL_law_508 (pc' := 510) rfl rfl ?_
    refine mx_iconst C (v := nI 2) (by decide) dL_law_510 (pc' := 511) rfl ?_
    refine mx_iadd C dL_law_511 (pc' := 512) rfl ?_
    rw [nI_add]
    refine mx_sld C dL_law_512 (pc' := 513) rfl hX hbl hbA rfl (show 6 * n + 2 < L by omega) hL3 ?_
    refine cL_71 C dL_law_513 (pc' := 516) rfl (m1.2.2.1) (c_X9_merge l G base h1 m1 rfl rfl (by omega)) ⟨by decide, by decide, by show _ + _ ≤ 601024; omega, by show _ + _ ≤ 7293033; omega, Nat.le_of_ble_eq_true rfl⟩ ?_
    rintro v2 h2 ⟨o2, r1, r2⟩
    obtain ⟨rfl, m2⟩ := r2 hc
    refine mx_icmp_eq C dL_law_516 (tgt := 704) (by decide) (pc' := 519) rfl (fun q1 => ?_) (fun q1 => ?_)
    · exact next A _ h2 _ _ _ _ _ rfl (LI.mk2 c1 m2 o2 hd hz hpz ((o1.far hz).trans hg) (show st_m σ + 1 ≤ n + 1 by omega)) (by omega) (by omega)
    · exact absurd rfl q1
theorem lw_undo (K : LC p l s mt args meth cd G base b L n xs) (li : LI G A P z h σ n) (hkc : kc ≤ 42 + 2 * n) (hks : ks ≤ 14214 + 66 * n) (next : LNext p l e s mt args below meth cd G base b n (aK A 0) P z Q) : mx_V p l e { frames := 11, cells := 601024, slots := 7293033, locals := 392 } s mt args below meth cd G base 8 Q h kc ks 558 [some (.ref b), some (.ref (aK A 0)), some (.ref (P 0)), some (.ref z), some (.int (nI (6 * n))), none, none, none] [] := by
  obtain ⟨C, hX, hbl, hbA, hL3, hn6, hZ, hl⟩ := K
  obtain ⟨⟨la, ea, mk, c⟩, ⟨th, kcr, pu, pd, m⟩, hd, hz, hpz, ⟨g, hg⟩, hm⟩ := li
  have hch := c.2.2.2.2.2.2.2.2.2.1
  first | refine mx_aload_n C dL_law_558 (pc' := 559) rfl rfl ?_ | refine mx_aload_nq C dL_law_558 (pc' := 559) rfl rfl ?_
  first | refine mx_aload_n C dL_law_559 (pc' := 560) rfl rfl ?_ | refine mx_aload_nq C dL_law_559 (pc' := 560) rfl rfl ?_
  refine mx_iload C dL_law_560 (pc' := 562) rfl rfl ?_
  refine mx_iconst C (v := nI 1) (by decide) dL_law_562 (pc' := 563) rfl ?_
  refine mx_iadd C dL_law_563 (pc' := 564) rfl ?_
  rw [nI_add]
  refine mx_sld C dL_law_564 (pc' := 565) rfl hX hbl hbA rfl (show 6 * n + 1 < L by omega) hL3 ?_
  refine cL_76 C dL_law_565 (pc' := 568) rfl (c.2.2.1) (c_X8_undo l G base h c rfl) ⟨by decide, by decide, by show _ + _ ≤ 601024; omega, by show _ + _ ≤ 7293033; omega, Nat.le_of_ble_eq_true rfl⟩ ?_
  rintro v1 h1 ⟨p1, p2⟩
  have hle := @ixS_le σ (xs (6 * n + 1))
  by_cases hc : ixS σ (xs (6 * n + 1)) = 0 ∨ la (ixS σ (xs (6 * n + 1))) = 0
  · obtain ⟨rfl, rfl⟩ := p1 hc
    have hc2 : ixS σ (xs (6 * n + 1)) = 0 ∨ (∀ q, 1 ≤ q → q ≤ st_n σ → st_in σ q ≠ ixS σ (xs (6 * n + 1))) := by
      by_cases e0 : ixS σ (xs (6 * n + 1)) = 0
      · exact Or.inl e0
      · exact Or.inr ((hch _ (by omega) hle).2.2.1 (hc.resolve_left e0))
    first | refine mx_aload_n C dL_law_568 (pc' := 569) rfl rfl ?_ | refine mx_aload_nq C dL_law_568 (pc' := 569) rfl rfl ?_
    first | refine mx_aload_n C dL_law_569 (pc' := 570) rfl rfl ?_ | refine mx_aload_nq C dL_law_569 (pc' := 570) rfl rfl ?_
    refine mx_iload C dL_law_570 (pc' := 572) rfl rfl ?_
    refine mx_iconst C (v := nI 1) (by decide) dL_law_572 (pc' := 573) rfl ?_
    refine mx_iadd C dL_law_573 (pc' := 574) rfl ?_
    rw [nI_add]
    refine mx_sld C dL_law_574 (pc' := 575) rfl hX hbl hbA rfl (show 6 * n + 1 < L by omega) hL3 ?_
    refine cL_79 C dL_law_575 (pc' := 578) rfl (m.2.2.1) (c_X9_undo l G base h m rfl) ⟨by decide, by decide, by show _ + _ ≤ 601024; omega, by show _ + _ ≤ 7293033; omega, Nat.le_of_ble_eq_true rfl⟩ ?_
    rintro v2 h2 ⟨o2, r1, r2⟩
    obtain ⟨rfl, m2⟩ := r1 hc2
    refine mx_icmp_eq C dL_law_578 (tgt := 704) (by decide) (pc' := 581) rfl (fun q1 => ?_) (fun q1 => ?_)
    · exact next A _ h2 _ _ _ _ _ rfl (LI.mk2 c m2 o2 hd hz hpz hg (show st_m σ ≤ n + 1 by omega)) (by omega) (by omega)
    · exact absurd rfl q1
  · have h0 : ixS σ (xs (6 * n + 1)) ≠ 0 := fun q => hc (Or.inl q)
    have h1' : la (ixS σ (xs (6 * n + 1))) ≠ 0 := fun q => hc (Or.inr q)
    obtain ⟨rfl, o1, la1, ea1, c1⟩ := p2 h0 h1'
    have m1 := m.far (fun i hi => o1.far (hd i hi))
    obtain ⟨k1, -, -, k2⟩ := hch _ (by omega) hle
    obtain ⟨k3, k4⟩ := k2 h1'
    first | refine mx_aload_n C dL_law_568 (pc' := 569) rfl rfl ?_ | refine mx_aload_nq C dL_law_568 (pc' := 569) rfl rfl ?_
    first | refine mx_aload_n C dL_law_569 (pc' := 570) rfl rfl ?_ | refine mx_aload_nq C dL_law_569 (pc' := 570) rfl rfl ?_
    refine mx_iload C dL_law_570 (pc' := 572) rfl rfl ?_
    refine mx_iconst C (v := nI 1) (by decide) dL_law_572 (pc' := 573) rfl ?_
    refine mx_iadd C dL_law_573 (pc' := 574) rfl ?_
    rw [nI_add]
    refine mx_sld C dL_law_574 (pc' := 575) rfl hX hbl hbA rfl (show 6 * n + 1 < L by omega) hL3 ?_
    refine cL_79 C dL_law_575 (pc' := 578) rfl (m1.2.2.1) (c_X9_undo l G base h1 m1 rfl) ⟨by decide, by decide, by show _ + _ ≤ 601024; omega, by show _ + _ ≤ 7293033; omega, Nat.le_of_ble_eq_true rfl⟩ ?_
    rintro v2 h2 ⟨o2, r1, r2⟩
    obtain ⟨rfl, m2⟩ := r2 h0 _ (by omega) k1 k3 k4
    refine mx_icmp_eq C dL_law_578 (tgt := 704) (by decide) (pc' := 581) rfl (fun q1 => ?_) (fun q1 => ?_)
    · exact next A _ h2 _ _ _ _ _ rfl (LI.mk2 c1 m2 o2 hd hz hpz ((o1.far hz).trans hg) (show st_m σ ≤ n + 1 by omega)) (by omega) (by omega)
    · exact absurd rfl q1
theorem lw_locked (K : LC p l s mt args meth cd G base b L n xs) (li : LI G A P z h σ n) (hkc : kc ≤ 42 + 2 * n) (hks : ks ≤ 14214 + 66 * n) (next : LNext p l e s mt args below meth cd G base b n (aK A 0) P z Q) : mx_V p l e { frames := 11, cells := 601024, slots := 7293033, locals := 392 } s mt args below meth cd G base 8 Q h kc ks 583 [some (.ref b), some (.ref (aK A 0)), some (.ref (P 0)), some (.ref z), some (.int (nI (6 * n))), none, none, none] [] := by
  obtain ⟨C, hX, hbl, hbA, hL3, hn6, hZ, hl⟩ := K
  obtain ⟨⟨la, ea, mk, c⟩, ⟨th, kcr, pu, pd, m⟩, hd, hz, hpz, ⟨g, hg⟩, hm⟩ := li
  have k604 : ∀ v : Bool, (xs (6 * n + 2) = 0 ↔ v = false) → mx_V p l e { frames := 11, cells := 601024, slots := 7293033, locals := 392 } s mt args below meth cd G base 8 Q h kc ks 604 [some (.ref b), some (.ref (aK A 0)), some (.ref (P 0)), some (.ref z), some (.int (nI (6 * n))), none, none, none] [.int (mx_b v), .int (xs (6 * n + 1)), .ref (aK A 0)] := by
    intro v hv
    refine cL_80 C dL_law_604 (pc' := 607) rfl c.2.2.1 (c_X8_locked l G base h c rfl) ⟨by decide, by decide, by show _ + _ ≤ 601024; omega, by show _ + _ ≤ 7293033; omega, Nat.le_of_ble_eq_true rfl⟩ ?_
    rintro v1 h1 ⟨p1, p2⟩
    have fin : ∀ (h1 : mx_H) (w1 : Int32) (m1 : MI G P h1 σ th kcr pu pd), (∀ (h2 : mx_H), OUM P h1 h2 → (ixR (st_n σ) (xs (6 * n + 1)) = 0 → w1 = -1 → MI G P h2 σ (nI 0) kcr pu pd → mx_V p l e { frames := 11, cells := 601024, slots := 7293033, locals := 392 } s mt args below meth cd G base 8 Q h2 kc ks 704 [some (.ref b), some (.ref (aK A 0)), some (.ref (P 0)), some (.ref z), some (.int (nI (6 * n))), none, none, none] []) ∧ (ixR (st_n σ) (xs (6 * n + 1)) ≠ 0 → w1 = mx_b (st_lk σ (ixR (st_n σ) (xs (6 * n + 1)))) → MI G P h2 (su_lk σ (ixR (st_n σ) (xs (6 * n + 1))) v) (nI 0) kcr pu pd → mx_V p l e { frames := 11, cells := 601024, slots := 7293033, locals := 392 } s mt args below meth cd G base 8 Q h2 kc ks 704 [some (.ref b), some (.ref (aK A 0)), some (.ref (P 0)), some (.ref z), some (.int (nI (6 * n))), none, none, none] [])) → ((ixR (st_n σ) (xs (6 * n + 1)) = 0 → w1 = -1) ∧ (ixR (st_n σ) (xs (6 * n + 1)) ≠ 0 → w1 = mx_b (st_lk σ (ixR (st_n σ) (xs (6 * n + 1)))))) → mx_V p l e { frames := 11, cells := 601024, slots := 7293033, locals := 392 } s mt args below meth cd G base 8 Q h1 kc ks 607 [some (.ref b), some (.ref (aK A 0)), some (.ref (P 0)), some (.ref z), some (.int (nI (6 * n))), none, none, none] [.int w1] := by
      intro h1 w1 m1 hk hw
      have k628 : mx_V p l e { frames := 11, cells := 601024, slots := 7293033, locals := 392 } s mt args below meth cd G base 8 Q h1 kc ks 628 [some (.ref b), some (.ref (aK A 0)), some (.ref (P 0)), some (.ref z), some (.int (nI (6 * n))), none, none, none] [.int (mx_b v), .int (xs (6 * n + 1)), .ref (P 0), .int w1] := by
        refine cL_84 C dL_law_628 (pc' := 631) rfl m1.2.2.1 (c_X9_locked l G base h1 m1 rfl) ⟨by decide, by decide, by show _ + _ ≤ 601024; omega, by show _ + _ ≤ 7293033; omega, Nat.le_of_ble_eq_true rfl⟩ ?_
        rintro v2 h2 ⟨o2, r1, r2⟩
        by_cases hc : ixR (st_n σ) (xs (6 * n + 1)) = 0
        · obtain ⟨rfl, m2⟩ := r1 hc
          refine mx_icmp_eq C dL_law_631 (tgt := 704) (by decide) (pc' := 634) rfl (fun q1 => ?_) (fun q1 => ?_)
          · exact (hk h2 o2).1 hc (hw.1 hc) m2
          · exact absurd (hw.1 hc) q1
        · obtain ⟨rfl, m2⟩ := r2 hc
          refine mx_icmp_eq C dL_law_631 (tgt := 704) (by decide) (pc' := 634) rfl (fun q1 => ?_) (fun q1 => ?_)
          · exact (hk h2 o2).2 hc (hw.2 hc) m2
          · exact absurd (hw.2 hc) q1
      first | refine mx_aload_n C dL_law_607 (pc' := 608) rfl rfl ?_ | refine mx_aload_nq C dL_law_607 (pc' := 608) rfl rfl ?_
      first | refine mx_aload_n C dL_law_608 (pc' := 609) rfl rfl ?_ | refine mx_aload_nq C dL_law_608 (pc' := 609) rfl rfl ?_
      refine mx_iload C dL_law_609 (pc' := 611) rfl rfl ?_
      refine mx_iconst C (v := nI 1) (by decide) dL_law_611 (pc' := 612) rfl ?_
      refine mx_iadd C dL_law_612 (pc' := 613) rfl ?_
      rw [nI_add]
      refine mx_sld C dL_law_613 (pc' := 614) rfl hX hbl hbA rfl (show 6 * n + 1 < L by omega) hL3 ?_
      first | refine mx_aload_n C dL_law_614 (pc' := 615) rfl rfl ?_ | refine mx_aload_nq C dL_law_614 (pc' := 615) rfl rfl ?_
      refine mx_iload C dL_law_615 (pc' := 617) rfl rfl ?_
      refine mx_iconst C (v := nI 2) (by decide) dL_law_617 (pc' := 618) rfl ?_
      refine mx_iadd C dL_law_618 (pc' := 619) rfl ?_
      rw [nI_add]
      refine mx_sld C dL_law_619 (pc' := 620) rfl hX hbl hbA rfl (show 6 * n + 2 < L by omega) hL3 ?_
      refine mx_if_eq C dL_law_620 (tgt := 627) (by decide) (pc' := 623) rfl (fun q1 => ?_) (fun q1 => ?_)
      · rw [hv.mp q1] at k628
        refine mx_iconst C (v := nI 0) (by decide) dL_law_627 (pc' := 628) rfl ?_
        exact k628
      · have ev : v = true := by
          cases v with
          | true => rfl
          | false => exact absurd (hv.mpr rfl) q1
        rw [ev] at k628
        refine mx_iconst C (v := nI 1) (by decide) dL_law_623 (pc' := 624) rfl ?_
        refine mx_goto C dL_law_624 (tgt := 628) (by decide) ?_
        exact k628
    by_cases hc : ixR (st_n σ) (xs (6 * n + 1)) = 0
    · obtain ⟨rfl, rfl⟩ := p1 hc
      exact fin h _ m (fun h2 o2 => ⟨fun _ _ m2 => next A _ h2 _ _ _ _ _ rfl (LI.mk2 c m2 o2 hd hz hpz hg (show st_m σ ≤ n + 1 by omega)) (by omega) (by omega), fun q => absurd hc q⟩) ⟨fun _ => rfl, fun q => absurd hc q⟩
    · obtain ⟨rfl, c1, o1⟩ := p2 hc
      exact fin h1 _ (m.far (fun i hi => o1.far (hd i hi))) (fun h2 o2 => ⟨fun q => absurd q hc, fun _ _ m2 => next A _ h2 _ _ _ _ _ rfl (LI.mk2 c1 m2 o2 hd hz hpz ((o1.far hz).trans hg) (show st_m σ ≤ n + 1 by omega)) (by omega) (by omega)⟩) ⟨fun q => absurd q hc, fun _ => rfl⟩
  first | refine mx_aload_n C dL_law_583 (pc' := 584) rfl rfl ?_ | refine mx_aload_nq C dL_law_583 (pc' := 584) rfl rfl ?_
  first | refine mx_aload_n C dL_law_584 (pc' := 585) rfl rfl ?_ | refine mx_aload_nq C dL_law_584 (pc' := 585) rfl rfl ?_
  refine mx_iload C dL_law_585 (pc' := 587) rfl rfl ?_
  refine mx_iconst C (v := nI 1) (by decide) dL_law_587 (pc' := 588) rfl ?_
  refine mx_iadd C dL_law_588 (pc' := 589) rfl ?_
  rw [nI_add]
  refine mx_sld C dL_law_589 (pc' := 590) rfl hX hbl hbA rfl (show 6 * n + 1 < L by omega) hL3 ?_
  first | refine mx_aload_n C dL_law_590 (pc' := 591) rfl rfl ?_ | refine mx_aload_nq C dL_law_590 (pc' := 591) rfl rfl ?_
  refine mx_iload C dL_law_591 (pc' := 593) rfl rfl ?_
  refine mx_iconst C (v := nI 2) (by decide) dL_law_593 (pc' := 594) rfl ?_
  refine mx_iadd C dL_law_594 (pc' := 595) rfl ?_
  rw [nI_add]
  refine mx_sld C dL_law_595 (pc' := 596) rfl hX hbl hbA rfl (show 6 * n + 2 < L by omega) hL3 ?_
  refine mx_if_eq C dL_law_596 (tgt := 603) (by decide) (pc' := 599) rfl (fun q1 => ?_) (fun q1 => ?_)
  · skip
    refine mx_iconst C (v := nI 0) (by decide) dL_law_603 (pc' := 604) rfl ?_
    exact k604 false ⟨fun _ => rfl, fun _ => q1⟩
  · skip
    refine mx_iconst C (v := nI 1) (by decide) dL_law_599 (pc' := 600) rfl ?_
    refine mx_goto C dL_law_600 (tgt := 604) (by decide) ?_
    exact k604 true ⟨fun q => absurd q q1, fun q => by cases q⟩
theorem lw_weight (K : LC p l s mt args meth cd G base b L n xs) (li : LI G A P z h σ n) (hkc : kc ≤ 42 + 2 * n) (hks : ks ≤ 14214 + 66 * n) (next : LNext p l e s mt args below meth cd G base b n (aK A 0) P z Q) : mx_V p l e { frames := 11, cells := 601024, slots := 7293033, locals := 392 } s mt args below meth cd G base 8 Q h kc ks 242 [some (.ref b), some (.ref (aK A 0)), some (.ref (P 0)), some (.ref z), some (.int (nI (6 * n))), none, none, none] [] := by
  obtain ⟨C, hX, hbl, hbA, hL3, hn6, hZ, hl⟩ := K
  obtain ⟨⟨la, ea, mk, c⟩, ⟨th, kcr, pu, pd, m⟩, hd, hz, hpz, ⟨g, hg⟩, hm⟩ := li
  first | refine mx_aload_n C dL_law_242 (pc' := 243) rfl rfl ?_ | refine mx_aload_nq C dL_law_242 (pc' := 243) rfl rfl ?_
  first | refine mx_aload_n C dL_law_243 (pc' := 244) rfl rfl ?_ | refine mx_aload_nq C dL_law_243 (pc' := 244) rfl rfl ?_
  refine mx_iload C dL_law_244 (pc' := 246) rfl rfl ?_
  refine mx_iconst C (v := nI 1) (by decide) dL_law_246 (pc' := 247) rfl ?_
  refine mx_iadd C dL_law_247 (pc' := 248) rfl ?_
  rw [nI_add]
  refine mx_sld C dL_law_248 (pc' := 249) rfl hX hbl hbA rfl (show 6 * n + 1 < L by omega) hL3 ?_
  first | refine mx_aload_n C dL_law_249 (pc' := 250) rfl rfl ?_ | refine mx_aload_nq C dL_law_249 (pc' := 250) rfl rfl ?_
  refine mx_iload C dL_law_250 (pc' := 252) rfl rfl ?_
  refine mx_iconst C (v := nI 2) (by decide) dL_law_252 (pc' := 253) rfl ?_
  refine mx_iadd C dL_law_253 (pc' := 254) rfl ?_
  rw [nI_add]
  refine mx_sld C dL_law_254 (pc' := 255) rfl hX hbl hbA rfl (show 6 * n + 2 < L by omega) hL3 ?_
  refine mx_i2l C (rfl) dL_law_255 (pc' := 256) rfl ?_
  refine mx_bipush C (v := nI 32) (by decide) dL_law_256 (pc' := 258) rfl ?_
  refine mx_lshl C (rfl) dL_law_258 (pc' := 259) rfl ?_
  first | refine mx_aload_n C dL_law_259 (pc' := 260) rfl rfl ?_ | refine mx_aload_nq C dL_law_259 (pc' := 260) rfl rfl ?_
  refine mx_iload C dL_law_260 (pc' := 262) rfl rfl ?_
  refine mx_iconst C (v := nI 3) (by decide) dL_law_262 (pc' := 263) rfl ?_
  refine mx_iadd C dL_law_263 (pc' := 264) rfl ?_
  rw [nI_add]
  refine mx_sld C dL_law_264 (pc' := 265) rfl hX hbl hbA rfl (show 6 * n + 3 < L by omega) hL3 ?_
  refine mx_i2l C (rfl) dL_law_265 (pc' := 266) rfl ?_
  refine kL_43 C dL_law_266 (pc' := 269) rfl ?_
  refine mx_land C dL_law_269 (pc' := 270) rfl ?_
  refine mx_lor C dL_law_270 (pc' := 271) rfl ?_
  first | refine mx_aload_n C dL_law_271 (pc' := 272) rfl rfl ?_ | refine mx_aload_nq C dL_law_271 (pc' := 272) rfl rfl ?_
  refine mx_iload C dL_law_272 (pc' := 274) rfl rfl ?_
  refine mx_iconst C (v := nI 4) (by decide) dL_law_274 (pc' := 275) rfl ?_
  refine mx_iadd C dL_law_275 (pc' := 276) rfl ?_
  rw [nI_add]
  refine mx_sld C dL_law_276 (pc' := 277) rfl hX hbl hbA rfl (show 6 * n + 4 < L by omega) hL3 ?_
  refine mx_i2l C (rfl) dL_law_277 (pc' := 278) rfl ?_
  refine mx_bipush C (v := nI 32) (by decide) dL_law_278 (pc' := 280) rfl ?_
  refine mx_lshl C (rfl) dL_law_280 (pc' := 281) rfl ?_
  first | refine mx_aload_n C dL_law_281 (pc' := 282) rfl rfl ?_ | refine mx_aload_nq C dL_law_281 (pc' := 282) rfl rfl ?_
  refine mx_iload C dL_law_282 (pc' := 284) rfl rfl ?_
  refine mx_iconst C (v := nI 5) (by decide) dL_law_284 (pc' := 285) rfl ?_
  refine mx_iadd C dL_law_285 (pc' := 286) rfl ?_
  rw [nI_add]
  refine mx_sld C dL_law_286 (pc' := 287) rfl hX hbl hbA rfl (show 6 * n + 5 < L by omega) hL3 ?_
  refine mx_i2l C (rfl) dL_law_287 (pc' := 288) rfl ?_
  refine kL_43 C dL_law_288 (pc' := 291) rfl ?_
  refine mx_land C dL_law_291 (pc' := 292) rfl ?_
  refine mx_lor C dL_law_292 (pc' := 293) rfl ?_
  generalize hu : ((xs (6 * n + 2)).toInt64 <<< ((nI 32).toInt64 &&& 63) ||| (xs (6 * n + 3)).toInt64 &&& lN 4294967295) = u
  generalize hdd : ((xs (6 * n + 4)).toInt64 <<< ((nI 32).toInt64 &&& 63) ||| (xs (6 * n + 5)).toInt64 &&& lN 4294967295) = d
  refine cL_45 C dL_law_293 (pc' := 296) rfl (c.2.2.1) (c_X8_weight l G base h c) ⟨by decide, by decide, by show _ + _ ≤ 601024; omega, by show _ + _ ≤ 7293033; omega, Nat.le_of_ble_eq_true rfl⟩ ?_
  rintro v1 h1 ⟨p1, p2⟩
  by_cases hc : (xs (6 * n + 1) < 0 ∨ nI 5 ≤ xs (6 * n + 1) ∨ u < lN 0 ∨ lN 100 < u ∨ d < lN 1 ∨ lN 10 < d)
  · obtain ⟨rfl, rfl⟩ := p1 hc
    first | refine mx_aload_n C dL_law_296 (pc' := 297) rfl rfl ?_ | refine mx_aload_nq C dL_law_296 (pc' := 297) rfl rfl ?_
    first | refine mx_aload_n C dL_law_297 (pc' := 298) rfl rfl ?_ | refine mx_aload_nq C dL_law_297 (pc' := 298) rfl rfl ?_
    refine mx_iload C dL_law_298 (pc' := 300) rfl rfl ?_
    refine mx_iconst C (v := nI 1) (by decide) dL_law_300 (pc' := 301) rfl ?_
    refine mx_iadd C dL_law_301 (pc' := 302) rfl ?_
    rw [nI_add]
    refine mx_sld C dL_law_302 (pc' := 303) rfl hX hbl hbA rfl (show 6 * n + 1 < L by omega) hL3 ?_
    first | refine mx_aload_n C dL_law_303 (pc' := 304) rfl rfl ?_ | refine mx_aload_nq C dL_law_303 (pc' := 304) rfl rfl ?_
    refine mx_iload C dL_law_304 (pc' := 306) rfl rfl ?_
    refine mx_iconst C (v := nI 2) (by decide) dL_law_306 (pc' := 307) rfl ?_
    refine mx_iadd C dL_law_307 (pc' := 308) rfl ?_
    rw [nI_add]
    refine mx_sld C dL_law_308 (pc' := 309) rfl hX hbl hbA rfl (show 6 * n + 2 < L by omega) hL3 ?_
    refine mx_i2l C (rfl) dL_law_309 (pc' := 310) rfl ?_
    refine mx_bipush C (v := nI 32) (by decide) dL_law_310 (pc' := 312) rfl ?_
    refine mx_lshl C (rfl) dL_law_312 (pc' := 313) rfl ?_
    first | refine mx_aload_n C dL_law_313 (pc' := 314) rfl rfl ?_ | refine mx_aload_nq C dL_law_313 (pc' := 314) rfl rfl ?_
    refine mx_iload C dL_law_314 (pc' := 316) rfl rfl ?_
    refine mx_iconst C (v := nI 3) (by decide) dL_law_316 (pc' := 317) rfl ?_
    refine mx_iadd C dL_law_317 (pc' := 318) rfl ?_
    rw [nI_add]
    refine mx_sld C dL_law_318 (pc' := 319) rfl hX hbl hbA rfl (show 6 * n + 3 < L by omega) hL3 ?_
    refine mx_i2l C (rfl) dL_law_319 (pc' := 320) rfl ?_
    refine kL_43 C dL_law_320 (pc' := 323) rfl ?_
    refine mx_land C dL_law_323 (pc' := 324) rfl ?_
    refine mx_lor C dL_law_324 (pc' := 325) rfl ?_
    first | refine mx_aload_n C dL_law_325 (pc' := 326) rfl rfl ?_ | refine mx_aload_nq C dL_law_325 (pc' := 326) rfl rfl ?_
    refine mx_iload C dL_law_326 (pc' := 328) rfl rfl ?_
    refine mx_iconst C (v := nI 4) (by decide) dL_law_328 (pc' := 329) rfl ?_
    refine mx_iadd C dL_law_329 (pc' := 330) rfl ?_
    rw [nI_add]
    refine mx_sld C dL_law_330 (pc' := 331) rfl hX hbl hbA rfl (show 6 * n + 4 < L by omega) hL3 ?_
    refine mx_i2l C (rfl) dL_law_331 (pc' := 332) rfl ?_
    refine mx_bipush C (v := nI 32) (by decide) dL_law_332 (pc' := 334) rfl ?_
    refine mx_lshl C (rfl) dL_law_334 (pc' := 335) rfl ?_
    first | refine mx_aload_n C dL_law_335 (pc' := 336) rfl rfl ?_ | refine mx_aload_nq C dL_law_335 (pc' := 336) rfl rfl ?_
    refine mx_iload C dL_law_336 (pc' := 338) rfl rfl ?_
    refine mx_iconst C (v := nI 5) (by decide) dL_law_338 (pc' := 339) rfl ?_
    refine mx_iadd C dL_law_339 (pc' := 340) rfl ?_
    rw [nI_add]
    refine mx_sld C dL_law_340 (pc' := 341) rfl hX hbl hbA rfl (show 6 * n + 5 < L by omega) hL3 ?_
    refine mx_i2l C (rfl) dL_law_341 (pc' := 342) rfl ?_
    refine kL_43 C dL_law_342 (pc' := 345) rfl ?_
    refine mx_land C dL_law_345 (pc' := 346) rfl ?_
    refine mx_lor C dL_law_346 (pc' := 347) rfl ?_
    rw [hu, hdd]
    refine cL_49 C dL_law_347 (pc' := 350) rfl (m.2.2.1) (c_X9_weight l G base h m) ⟨by decide, by decide, by show _ + _ ≤ 601024; omega, by show _ + _ ≤ 7293033; omega, Nat.le_of_ble_eq_true rfl⟩ ?_
    rintro v2 h2 ⟨o2, r1, r2⟩
    obtain ⟨rfl, m2⟩ := r1 hc
    refine mx_icmp_eq C dL_law_350 (tgt := 704) (by decide) (pc' := 353) rfl (fun q1 => ?_) (fun q1 => ?_)
    · exact next A _ h2 _ _ _ _ _ rfl (LI.mk2 c m2 o2 hd hz hpz hg (show st_m σ ≤ n + 1 by omega)) (by omega) (by omega)
    · exact absurd rfl q1
  · obtain ⟨rfl, c1, o1⟩ := p2 hc
    have m1 := m.far (fun i hi => o1.far (hd i hi))
    first | refine mx_aload_n C dL_law_296 (pc' := 297) rfl rfl ?_ | refine mx_aload_nq C dL_law_296 (pc' := 297) rfl rfl ?_
    first | refine mx_aload_n C dL_law_297 (pc' := 298) rfl rfl ?_ | refine mx_aload_nq C dL_law_297 (pc' := 298) rfl rfl ?_
    refine mx_iload C dL_law_298 (pc' := 300) rfl rfl ?_
    refine mx_iconst C (v := nI 1) (by decide) dL_law_300 (pc' := 301) rfl ?_
    refine mx_iadd C dL_law_301 (pc' := 302) rfl ?_
    rw [nI_add]
    refine mx_sld C dL_law_302 (pc' := 303) rfl hX hbl hbA rfl (show 6 * n + 1 < L by omega) hL3 ?_
    first | refine mx_aload_n C dL_law_303 (pc' := 304) rfl rfl ?_ | refine mx_aload_nq C dL_law_303 (pc' := 304) rfl rfl ?_
    refine mx_iload C dL_law_304 (pc' := 306) rfl rfl ?_
    refine mx_iconst C (v := nI 2) (by decide) dL_law_306 (pc' := 307) rfl ?_
    refine mx_iadd C dL_law_307 (pc' := 308) rfl ?_
    rw [nI_add]
    refine mx_sld C dL_law_308 (pc' := 309) rfl hX hbl hbA rfl (show 6 * n + 2 < L by omega) hL3 ?_
    refine mx_i2l C (rfl) dL_law_309 (pc' := 310) rfl ?_
    refine mx_bipush C (v := nI 32) (by decide) dL_law_310 (pc' := 312) rfl ?_
    refine mx_lshl C (rfl) dL_law_312 (pc' := 313) rfl ?_
    first | refine mx_aload_n C dL_law_313 (pc' := 314) rfl rfl ?_ | refine mx_aload_nq C dL_law_313 (pc' := 314) rfl rfl ?_
    refine mx_iload C dL_law_314 (pc' := 316) rfl rfl ?_
    refine mx_iconst C (v := nI 3) (by decide) dL_law_316 (pc' := 317) rfl ?_
    refine mx_iadd C dL_law_317 (pc' := 318) rfl ?_
    rw [nI_add]
    refine mx_sld C dL_law_318 (pc' := 319) rfl hX hbl hbA rfl (show 6 * n + 3 < L by omega) hL3 ?_
    refine mx_i2l C (rfl) dL_law_319 (pc' := 320) rfl ?_
    refine kL_43 C dL_law_320 (pc' := 323) rfl ?_
    refine mx_land C dL_law_323 (pc' := 324) rfl ?_
    refine mx_lor C dL_law_324 (pc' := 325) rfl ?_
    first | refine mx_aload_n C dL_law_325 (pc' := 326) rfl rfl ?_ | refine mx_aload_nq C dL_law_325 (pc' := 326) rfl rfl ?_
    refine mx_iload C dL_law_326 (pc' := 328) rfl rfl ?_
    refine mx_iconst C (v := nI 4) (by decide) dL_law_328 (pc' := 329) rfl ?_
    refine mx_iadd C dL_law_329 (pc' := 330) rfl ?_
    rw [nI_add]
    refine mx_sld C dL_law_330 (pc' := 331) rfl hX hbl hbA rfl (show 6 * n + 4 < L by omega) hL3 ?_
    refine mx_i2l C (rfl) dL_law_331 (pc' := 332) rfl ?_
    refine mx_bipush C (v := nI 32) (by decide) dL_law_332 (pc' := 334) rfl ?_
    refine mx_lshl C (rfl) dL_law_334 (pc' := 335) rfl ?_
    first | refine mx_aload_n C dL_law_335 (pc' := 336) rfl rfl ?_ | refine mx_aload_nq C dL_law_335 (pc' := 336) rfl rfl ?_
    refine mx_iload C dL_law_336 (pc' := 338) rfl rfl ?_
    refine mx_iconst C (v := nI 5) (by decide) dL_law_338 (pc' := 339) rfl ?_
    refine mx_iadd C dL_law_339 (pc' := 340) rfl ?_
    rw [nI_add]
    refine mx_sld C dL_law_340 (pc' := 341) rfl hX hbl hbA rfl (show 6 * n + 5 < L by omega) hL3 ?_
    refine mx_i2l C (rfl) dL_law_341 (pc' := 342) rfl ?_
    refine kL_43 C dL_law_342 (pc' := 345) rfl ?_
    refine mx_land C dL_law_345 (pc' := 346) rfl ?_
    refine mx_lor C dL_law_346 (pc' := 347) rfl ?_
    rw [hu, hdd]
    refine cL_49 C dL_law_347 (pc' := 350) rfl (m1.2.2.1) (c_X9_weight l G base h1 m1) ⟨by decide, by decide, by show _ + _ ≤ 601024; omega, by show _ + _ ≤ 7293033; omega, Nat.le_of_ble_eq_true rfl⟩ ?_
    rintro v2 h2 ⟨o2, r1, r2⟩
    obtain ⟨rfl, m2⟩ := r2 hc
    refine mx_icmp_eq C dL_law_350 (tgt := 704) (by decide) (pc' := 353) rfl (fun q1 => ?_) (fun q1 => ?_)
    · exact next A _ h2 _ _ _ _ _ rfl (LI.mk2 c1 m2 o2 hd hz hpz ((o1.far hz).trans hg) (show st_m σ ≤ n + 1 by omega)) (by omega) (by omega)
    · exact absurd rfl q1
theorem lw_record (K : LC p l s mt args meth cd G base b L n xs) (li : LI G A P z h σ n) (hkc : kc ≤ 42 + 2 * n) (hks : ks ≤ 14214 + 66 * n) (next : LNext p l e s mt args below meth cd G base b n (aK A 0) P z Q) : mx_V p l e { frames := 11, cells := 601024, slots := 7293033, locals := 392 } s mt args below meth cd G base 8 Q h kc ks 108 [some (.ref b), some (.ref (aK A 0)), some (.ref (P 0)), some (.ref z), some (.int (nI (6 * n))), none, none, none] [] := by
  obtain ⟨C, hX, hbl, hbA, hL3, hn6, hZ, hl⟩ := K
  obtain ⟨⟨la, ea, mk, c⟩, ⟨th, kcr, pu, pd, m⟩, hd, hz, hpz, ⟨g, hg⟩, hm⟩ := li
  first | refine mx_aload_n C dL_law_108 (pc' := 109) rfl rfl ?_ | refine mx_aload_nq C dL_law_108 (pc' := 109) rfl rfl ?_
  first | refine mx_aload_n C dL_law_109 (pc' := 110) rfl rfl ?_ | refine mx_aload_nq C dL_law_109 (pc' := 110) rfl rfl ?_
  refine mx_iload C dL_law_110 (pc' := 112) rfl rfl ?_
  refine mx_iconst C (v := nI 1) (by decide) dL_law_112 (pc' := 113) rfl ?_
  refine mx_iadd C dL_law_113 (pc' := 114) rfl ?_
  rw [nI_add]
  refine mx_sld C dL_law_114 (pc' := 115) rfl hX hbl hbA rfl (show 6 * n + 1 < L by omega) hL3 ?_
  refine cL_25 C dL_law_115 (pc' := 118) rfl (c.2.2.1) (c_X8_record l G base h c) ⟨by decide, by decide, by show _ + _ ≤ 601024; omega, by show _ + _ ≤ 7293033; omega, Nat.le_of_ble_eq_true rfl⟩ ?_
  rintro v1 h1 ⟨p1, p2⟩
  by_cases hc : st_n σ < 40
  · obtain ⟨rfl, q, la1, ea1, mk1, hq, c1, hf⟩ := p2 hc
    have hf2 : ∀ x, ¬ inA A σ x → x ≠ q → h1 x = h x := fun x hx hne => hf x hne (fun i hi e => hx (Or.inl ⟨i, hi, e⟩)) (fun r r1 r2 e => hx (Or.inr (Or.inl ⟨r, r1, r2, e⟩)))
    have hin : ∀ x, inA (au_b A (st_n σ + 1) q) (su_rc σ (xs (6 * n + 1))) x → inA A σ x ∨ x = q := by
      rintro x (⟨i, hi, e⟩ | ⟨r, r1, r2, e⟩ | ⟨f, f1, f2, e⟩)
      · exact Or.inl (Or.inl ⟨i, hi, e⟩)
      · have r2 : r ≤ st_n σ + 1 := r2
        have e : x = up1 (aB A) (st_n σ + 1) q r := e
        by_cases er : r = st_n σ + 1
        · rw [er, up1_s] at e; exact Or.inr e
        · rw [up1_n er] at e; exact Or.inl (Or.inr (Or.inl ⟨r, r1, by omega, e⟩))
      · exact Or.inl (Or.inr (Or.inr ⟨f, f1, f2, e⟩))
    have hPq : ∀ i, i < 18 → P i ≠ q := fun i hi e => m.some i hi (by rw [e]; exact hq)
    have hzq : z ≠ q := fun e => by rw [e, hq] at hg; cases hg
    have m1 := m.far (fun i hi => hf2 _ (hd i hi) (hPq i hi))
    first | refine mx_aload_n C dL_law_118 (pc' := 119) rfl rfl ?_ | refine mx_aload_nq C dL_law_118 (pc' := 119) rfl rfl ?_
    first | refine mx_aload_n C dL_law_119 (pc' := 120) rfl rfl ?_ | refine mx_aload_nq C dL_law_119 (pc' := 120) rfl rfl ?_
    refine mx_iload C dL_law_120 (pc' := 122) rfl rfl ?_
    refine mx_iconst C (v := nI 1) (by decide) dL_law_122 (pc' := 123) rfl ?_
    refine mx_iadd C dL_law_123 (pc' := 124) rfl ?_
    rw [nI_add]
    refine mx_sld C dL_law_124 (pc' := 125) rfl hX hbl hbA rfl (show 6 * n + 1 < L by omega) hL3 ?_
    refine cL_29 C dL_law_125 (pc' := 128) rfl (m1.2.2.1) (c_X9_record l G base h1 m1) ⟨by decide, by decide, by show _ + _ ≤ 601024; omega, by show _ + _ ≤ 7293033; omega, Nat.le_of_ble_eq_true rfl⟩ ?_
    rintro v2 h2 ⟨o2, r1, r2⟩
    obtain ⟨rfl, m2⟩ := r2 hc
    refine mx_icmp_eq C dL_law_128 (tgt := 704) (by decide) (pc' := 131) rfl (fun q1 => ?_) (fun q1 => ?_)
    · exact next (au_b A (st_n σ + 1) q) _ h2 _ _ _ _ _ rfl (LI.mk2 c1 m2 o2 (fun i hi k => (hin _ k).elim (hd i hi) (hPq i hi)) (fun k => (hin _ k).elim hz hzq) hpz ((hf2 z hz hzq).trans hg) (show st_m σ ≤ n + 1 by omega)) (by omega) (by omega)
    · exact absurd rfl q1
  · obtain ⟨rfl, rfl⟩ := p1 hc
    first | refine mx_aload_n C dL_law_118 (pc' := 119) rfl rfl ?_ | refine mx_aload_nq C dL_law_118 (pc' := 119) rfl rfl ?_
    first | refine mx_aload_n C dL_law_119 (pc' := 120) rfl rfl ?_ | refine mx_aload_nq C dL_law_119 (pc' := 120) rfl rfl ?_
    refine mx_iload C dL_law_120 (pc' := 122) rfl rfl ?_
    refine mx_iconst C (v := nI 1) (by decide) dL_law_122 (pc' := 123) rfl ?_
    refine mx_iadd C dL_law_123 (pc' := 124) rfl ?_
    rw [nI_add]
    refine mx_sld C dL_law_124 (pc' := 125) rfl hX hbl hbA rfl (show 6 * n + 1 < L by omega) hL3 ?_
    refine cL_29 C dL_law_125 (pc' := 128) rfl (m.2.2.1) (c_X9_record l G base h m) ⟨by decide, by decide, by show _ + _ ≤ 601024; omega, by show _ + _ ≤ 7293033; omega, Nat.le_of_ble_eq_true rfl⟩ ?_
    rintro v2 h2 ⟨o2, r1, r2⟩
    obtain ⟨rfl, m2⟩ := r1 hc
    refine mx_icmp_eq C dL_law_128 (tgt := 704) (by decide) (pc' := 131) rfl (fun q1 => ?_) (fun q1 => ?_)
    · exact next A _ h2 _ _ _ _ _ rfl (LI.mk2 c m2 o2 hd hz hpz hg (show st_m σ ≤ n + 1 by omega)) (by omega) (by omega)
    · exact absurd rfl q1
theorem lw_field (K : LC p l s mt args meth cd G base b L n xs) (li : LI G A P z h σ n) (hkc : kc ≤ 42 + 2 * n) (hks : ks ≤ 14214 + 66 * n) (next : LNext p l e s mt args below meth cd G base b n (aK A 0) P z Q) : mx_V p l e { frames := 11, cells := 601024, slots := 7293033, locals := 392 } s mt args below meth cd G base 8 Q h kc ks 133 [some (.ref b), some (.ref (aK A 0)), some (.ref (P 0)), some (.ref z), some (.int (nI (6 * n))), none, none, none] [] := by
  obtain ⟨C, hX, hbl, hbA, hL3, hn6, hZ, hl⟩ := K
  obtain ⟨⟨la, ea, mk, c⟩, ⟨th, kcr, pu, pd, m⟩, hd, hz, hpz, ⟨g, hg⟩, hm⟩ := li
  first | refine mx_aload_n C dL_law_133 (pc' := 134) rfl rfl ?_ | refine mx_aload_nq C dL_law_133 (pc' := 134) rfl rfl ?_
  first | refine mx_aload_n C dL_law_134 (pc' := 135) rfl rfl ?_ | refine mx_aload_nq C dL_law_134 (pc' := 135) rfl rfl ?_
  refine mx_iload C dL_law_135 (pc' := 137) rfl rfl ?_
  refine mx_iconst C (v := nI 1) (by decide) dL_law_137 (pc' := 138) rfl ?_
  refine mx_iadd C dL_law_138 (pc' := 139) rfl ?_
  rw [nI_add]
  refine mx_sld C dL_law_139 (pc' := 140) rfl hX hbl hbA rfl (show 6 * n + 1 < L by omega) hL3 ?_
  first | refine mx_aload_n C dL_law_140 (pc' := 141) rfl rfl ?_ | refine mx_aload_nq C dL_law_140 (pc' := 141) rfl rfl ?_
  refine mx_iload C dL_law_141 (pc' := 143) rfl rfl ?_
  refine mx_iconst C (v := nI 2) (by decide) dL_law_143 (pc' := 144) rfl ?_
  refine mx_iadd C dL_law_144 (pc' := 145) rfl ?_
  rw [nI_add]
  refine mx_sld C dL_law_145 (pc' := 146) rfl hX hbl hbA rfl (show 6 * n + 2 < L by omega) hL3 ?_
  refine cL_30 C dL_law_146 (pc' := 149) rfl (c.2.2.1) (c_X8_field l G base h c rfl) ⟨by decide, by decide, by show _ + _ ≤ 601024; omega, by show _ + _ ≤ 7293033; omega, Nat.le_of_ble_eq_true rfl⟩ ?_
  rintro v1 h1 ⟨p1, p2⟩
  by_cases hc : (ixS σ (xs (6 * n + 1)) ≠ 0 ∧ ¬ xs (6 * n + 2) < 0 ∧ ¬ nI 9 < xs (6 * n + 2) ∧ st_k σ < 200)
  · obtain ⟨rfl, q, q2, hq, hq2, hqq, c1, hf⟩ := p2 hc
    have hf2 : ∀ x, ¬ inA A σ x → x ≠ q → x ≠ q2 → h1 x = h x := fun x hx hne hne2 => hf x hne hne2 (fun i hi e => hx (Or.inl ⟨i, hi, e⟩)) (fun r r1 r2 e => hx (Or.inr (Or.inr ⟨r, r1, r2, Or.inl e⟩)))
    have hin : ∀ x, inA (au_t A (st_k σ + 1) q q2) (su_fl σ (ixS σ (xs (6 * n + 1))) (xs (6 * n + 2)).toInt.toNat) x → inA A σ x ∨ x = q ∨ x = q2 := by
      rintro x (⟨i, hi, e⟩ | ⟨r, r1, r2, e⟩ | ⟨f, f1, f2, e⟩)
      · exact Or.inl (Or.inl ⟨i, hi, e⟩)
      · exact Or.inl (Or.inr (Or.inl ⟨r, r1, r2, e⟩))
      · have f2 : f ≤ st_k σ + 1 := f2
        have e : x = up1 (aT A) (st_k σ + 1) q f ∨ x = up1 (aC A) (st_k σ + 1) q2 f := e
        by_cases er : f = st_k σ + 1
        · rw [er, up1_s, up1_s] at e; exact Or.inr e
        · rw [up1_n er, up1_n er] at e; exact Or.inl (Or.inr (Or.inr ⟨f, f1, by omega, e⟩))
    have hPq : ∀ i, i < 18 → P i ≠ q := fun i hi e => m.some i hi (by rw [e]; exact hq)
    have hPq2 : ∀ i, i < 18 → P i ≠ q2 := fun i hi e => m.some i hi (by rw [e]; exact hq2)
    have hzq : z ≠ q := fun e => by rw [e, hq] at hg; cases hg
    have hzq2 : z ≠ q2 := fun e => by rw [e, hq2] at hg; cases hg
    have m1 := m.far (fun i hi => hf2 _ (hd i hi) (hPq i hi) (hPq2 i hi))
    first | refine mx_aload_n C dL_law_149 (pc' := 150) rfl rfl ?_ | refine mx_aload_nq C dL_law_149 (pc' := 150) rfl rfl ?_
    first | refine mx_aload_n C dL_law_150 (pc' := 151) rfl rfl ?_ | refine mx_aload_nq C dL_law_150 (pc' := 151) rfl rfl ?_
    refine mx_iload C dL_law_151 (pc' := 153) rfl rfl ?_
    refine mx_iconst C (v := nI 1) (by decide) dL_law_153 (pc' := 154) rfl ?_
    refine mx_iadd C dL_law_154 (pc' := 155) rfl ?_
    rw [nI_add]
    refine mx_sld C dL_law_155 (pc' := 156) rfl hX hbl hbA rfl (show 6 * n + 1 < L by omega) hL3 ?_
    first | refine mx_aload_n C dL_law_156 (pc' := 157) rfl rfl ?_ | refine mx_aload_nq C dL_law_156 (pc' := 157) rfl rfl ?_
    refine mx_iload C dL_law_157 (pc' := 159) rfl rfl ?_
    refine mx_iconst C (v := nI 2) (by decide) dL_law_159 (pc' := 160) rfl ?_
    refine mx_iadd C dL_law_160 (pc' := 161) rfl ?_
    rw [nI_add]
    refine mx_sld C dL_law_161 (pc' := 162) rfl hX hbl hbA rfl (show 6 * n + 2 < L by omega) hL3 ?_
    refine cL_33 C dL_law_162 (pc' := 165) rfl (m1.2.2.1) (c_X9_field l G base h1 m1 rfl) ⟨by decide, by decide, by show _ + _ ≤ 601024; omega, by show _ + _ ≤ 7293033; omega, Nat.le_of_ble_eq_true rfl⟩ ?_
    rintro v2 h2 ⟨o2, r1, r2⟩
    obtain ⟨rfl, m2⟩ := r2 hc
    refine mx_icmp_eq C dL_law_165 (tgt := 704) (by decide) (pc' := 168) rfl (fun q1 => ?_) (fun q1 => ?_)
    · exact next (au_t A (st_k σ + 1) q q2) _ h2 _ _ _ _ _ rfl (LI.mk2 c1 m2 o2 (fun i hi k => (hin _ k).elim (hd i hi) (fun k => k.elim (hPq i hi) (hPq2 i hi))) (fun k => (hin _ k).elim hz (fun k => k.elim hzq hzq2)) hpz ((hf2 z hz hzq hzq2).trans hg) (show st_m σ ≤ n + 1 by omega)) (by omega) (by omega)
    · exact absurd rfl q1
  · obtain ⟨rfl, rfl⟩ := p1 hc
    first | refine mx_aload_n C dL_law_149 (pc' := 150) rfl rfl ?_ | refine mx_aload_nq C dL_law_149 (pc' := 150) rfl rfl ?_
    first | refine mx_aload_n C dL_law_150 (pc' := 151) rfl rfl ?_ | refine mx_aload_nq C dL_law_150 (pc' := 151) rfl rfl ?_
    refine mx_iload C dL_law_151 (pc' := 153) rfl rfl ?_
    refine mx_iconst C (v := nI 1) (by decide) dL_law_153 (pc' := 154) rfl ?_
    refine mx_iadd C dL_law_154 (pc' := 155) rfl ?_
    rw [nI_add]
    refine mx_sld C dL_law_155 (pc' := 156) rfl hX hbl hbA rfl (show 6 * n + 1 < L by omega) hL3 ?_
    first | refine mx_aload_n C dL_law_156 (pc' := 157) rfl rfl ?_ | refine mx_aload_nq C dL_law_156 (pc' := 157) rfl rfl ?_
    refine mx_iload C dL_law_157 (pc' := 159) rfl rfl ?_
    refine mx_iconst C (v := nI 2) (by decide) dL_law_159 (pc' := 160) rfl ?_
    refine mx_iadd C dL_law_160 (pc' := 161) rfl ?_
    rw [nI_add]
    refine mx_sld C dL_law_161 (pc' := 162) rfl hX hbl hbA rfl (show 6 * n + 2 < L by omega) hL3 ?_
    refine cL_33 C dL_law_162 (pc' := 165) rfl (m.2.2.1) (c_X9_field l G base h m rfl) ⟨by decide, by decide, by show _ + _ ≤ 601024; omega, by show _ + _ ≤ 7293033; omega, Nat.le_of_ble_eq_true rfl⟩ ?_
    rintro v2 h2 ⟨o2, r1, r2⟩
    obtain ⟨rfl, m2⟩ := r1 hc
    refine mx_icmp_eq C dL_law_165 (tgt := 704) (by decide) (pc' := 168) rfl (fun q1 => ?_) (fun q1 => ?_)
    · exact next A _ h2 _ _ _ _ _ rfl (LI.mk2 c m2 o2 hd hz hpz hg (show st_m σ ≤ n + 1 by omega)) (by omega) (by omega)
    · exact absurd rfl q1
end LW
