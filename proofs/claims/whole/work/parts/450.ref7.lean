/-! the reference: candidates, index -/
theorem fd_tp {σ : mxS} {L : List Nat} {r : Nat} : tp (su_fd σ L) r = tp σ r := rfl
theorem fd_sky {σ : mxS} {L : List Nat} {f : Nat} : sky (su_fd σ L) f = sky σ f := rfl
theorem fd_kl {σ : mxS} {L : List Nat} {r i : Nat} : kl (su_fd σ L) r i = kl σ r i := by
  induction i with
  | zero => rfl
  | succ i ih => simp only [kl]; rw [ih]; rfl
theorem fd_k {σ : mxS} {L : List Nat} : st_k (su_fd σ L) = st_k σ := rfl
theorem fd_n {σ : mxS} {L : List Nat} : st_n (su_fd σ L) = st_n σ := rfl
theorem fd_ixS {σ : mxS} {L : List Nat} {i : Int32} : ixS (su_fd σ L) i = ixS σ i := rfl
theorem fd_fd {σ : mxS} {L L' : List Nat} : su_fd (su_fd σ L) L' = su_fd σ L' := rfl
theorem fd_self {σ : mxS} : mm = mm := rfl
/-- a record that is not in another, and its number -/
theorem ixS_nI {σ : mxS} (hn : st_n σ ≤ 40) {r : Nat} (h1 : 1 ≤ r) (h2 : r ≤ st_n σ) : ixS σ (nI r) = if st_in σ r = 0 then r else 0 := by
  unfold ixS
  rw [ixR_at (by omega) h1 h2]
  by_cases e : st_in σ r = 0
  · rw [if_pos e, if_pos ⟨by omega, e⟩]
  · rw [if_neg e, if_neg (fun z => e z.2)]
theorem kl_top {σ : mxS} (h : si σ) {r : Nat} {q : Bool × Nat} (hq : q ∈ kl σ r (st_k σ)) : st_in σ r = 0 := by
  obtain ⟨j, j1, j2, -⟩ := kl_mem.mp hq
  obtain ⟨-, s2, s3, -⟩ := h.2.2.2.2.2.1.1 (j + 1) (by omega) (by omega)
  rw [← j2]
  exact (tp_in h.2.2.2.2.1 _ _ rfl s2 s3).2.2
theorem mkP_kl {σ : mxS} {r : Nat} {q : Bool × Nat} : mkP σ (fun j => decide (sky σ (j + 1) = some q)) (st_k σ) r = decide (q ∈ kl σ r (st_k σ)) := by
  unfold mkP
  by_cases e : q ∈ kl σ r (st_k σ)
  · rw [decide_eq_true e, anyB_iff]
    obtain ⟨j, j1, j2, j3⟩ := kl_mem.mp e
    exact ⟨j, j1, by show (decide (tp σ (st_ow σ (j + 1)) = r) && decide (sky σ (j + 1) = some q)) = true; rw [decide_eq_true j2, decide_eq_true j3]; rfl⟩
  · rw [decide_eq_false e]
    cases hz : anyB (fun i => decide (tp σ (st_ow σ (i + 1)) = r) && decide (sky σ (i + 1) = some q)) (st_k σ) with
    | false => rfl
    | true =>
      obtain ⟨j, j1, j2⟩ := anyB_iff.mp hz
      simp at j2
      exact absurd (kl_mem.mpr ⟨j, j1, j2.1, j2.2⟩) e
/-- what the reference counts and lists -/
def hasA (σ : mxS) (L : List (Bool × Nat)) (r' i : Nat) : Bool := match L[i]? with
  | some q => decide (q ∈ kl σ r' (st_k σ))
  | none => false
def cndR (σ : mxS) (r i : Nat) : Bool := decide (st_in σ (i + 1) = 0) && (decide (i + 1 ≠ r) && anyB (hasA σ (kl σ r (st_k σ)) (i + 1)) (kl σ r (st_k σ)).length)
theorem cndR_eq {σ : mxS} (h : si σ) {r i : Nat} : cndR σ r i = cnd σ r i := by
  have e1 : anyB (hasA σ (kl σ r (st_k σ)) (i + 1)) (kl σ r (st_k σ)).length = true ↔ ∃ q, q ∈ kl σ r (st_k σ) ∧ q ∈ kl σ (i + 1) (st_k σ) := by
    rw [anyB_iff]
    constructor
    · rintro ⟨j, j1, j2⟩
      unfold hasA at j2
      rw [List.getElem?_eq_getElem j1] at j2
      exact ⟨_, List.getElem_mem j1, of_decide_eq_true j2⟩
    · rintro ⟨q, q1, q2⟩
      obtain ⟨j, j1, j2⟩ := List.getElem_of_mem q1
      refine ⟨j, j1, ?_⟩
      unfold hasA
      rw [List.getElem?_eq_getElem j1, j2]
      exact decide_eq_true q2
  have e2 : mkP σ (fun j => decide (∃ q, q ∈ kl σ r (st_k σ) ∧ sky σ (j + 1) = some q)) (st_k σ) (i + 1) = true ↔ ∃ q, q ∈ kl σ r (st_k σ) ∧ q ∈ kl σ (i + 1) (st_k σ) := by
    unfold mkP
    rw [anyB_iff]
    constructor
    · rintro ⟨j, j1, j2⟩
      rw [Bool.and_eq_true] at j2
      obtain ⟨q, q1, q2⟩ := of_decide_eq_true j2.2
      exact ⟨q, q1, kl_mem.mpr ⟨j, j1, of_decide_eq_true j2.1, q2⟩⟩
    · rintro ⟨q, q1, q2⟩
      obtain ⟨j, j1, j2, j3⟩ := kl_mem.mp q2
      exact ⟨j, j1, by show (decide (tp σ (st_ow σ (j + 1)) = i + 1) && decide (∃ q, q ∈ kl σ r (st_k σ) ∧ sky σ (j + 1) = some q)) = true; rw [decide_eq_true j2, decide_eq_true (⟨q, q1, j3⟩ : ∃ q, q ∈ kl σ r (st_k σ) ∧ sky σ (j + 1) = some q)]; rfl⟩
  have e3 : anyB (hasA σ (kl σ r (st_k σ)) (i + 1)) (kl σ r (st_k σ)).length = mkP σ (fun j => decide (∃ q, q ∈ kl σ r (st_k σ) ∧ sky σ (j + 1) = some q)) (st_k σ) (i + 1) := by
    rw [Bool.eq_iff_iff, e1, e2]
  unfold cndR cnd
  rw [e3]
  cases hz : mkP σ (fun j => decide (∃ q, q ∈ kl σ r (st_k σ) ∧ sky σ (j + 1) = some q)) (st_k σ) (i + 1) with
  | false => simp
  | true =>
    obtain ⟨q, -, q2⟩ := e2.mp hz
    rw [decide_eq_true (kl_top h q2), Bool.true_and]
theorem lst_s (f : Nat → Bool) (i : Nat) : lst f (i + 1) = if f i then lst f i ++ [i + 1] else lst f i := rfl
theorem lst_40 {f : Nat → Bool} {n j : Nat} (h : j ≤ n) (hn : n ≤ 40) : (lst f j).length ≤ 40 ∧ ∀ x ∈ lst f j, x ≤ 40 := ⟨by rw [lst_len]; have := cntB_le f j; omega, fun x hx => by have := lst_le x hx; omega⟩
/-- one more is found -/
theorem MI.fdp {G : mx_G} {P : Nat → Nat} {h h' : mx_H} {σ : mxS} {L L' : List Nat} {th kc th' kc' : Int32} {pu pd pu' pd' : Int64} (m : MI G P h (su_fd σ L) th kc pu pd) {F : Nat → Int32} (h1 : L'.length ≤ 40) (h2 : ∀ x ∈ L', x ≤ 40) (e0 : h' (P 0) = some (.inr (9, mm P (su_fd σ L') th' kc' pu' pd'))) (e1 : h' (P 11) = some (.inl (G.2 0, 40, .inl F))) (hF : ∀ i, i < L'.length → F i = nI (L'.getD i 0)) (hf : ∀ j, j < 18 → j ≠ 0 → j ≠ 11 → h' (P j) = h (P j)) : MI G P h' (su_fd σ L') th' kc' pu' pd' := by
  obtain ⟨m1, m2, m3, m4, m5, ⟨U, D, F0, w1, w2, -, w4, -⟩, m7⟩ := m
  refine ⟨?_, m2, e0, m4.kept (fun j _ _ => hf j (by omega) (by omega) (by omega)), m5.kept (fun j _ _ => hf j (by omega) (by omega) (by omega)), ⟨U, D, F, (hf 9 (by decide) (by decide) (by decide)).trans w1, (hf 10 (by decide) (by decide) (by decide)).trans w2, e1, w4, hF⟩, m7.kept (fun j _ _ => hf j (by omega) (by omega) (by omega))⟩
  have := si_fd m1 h1 h2
  rw [fd_fd] at this
  exact this
section R7
variable (l : Launch) (G : mx_G) (base : Nat)
set_option maxRecDepth 20000
theorem c_X9_candidates (h : mx_H) {P : Nat → Nat} {σ : mxS} {th kc : Int32} {pu pd : Int64} (m : MI G P h σ th kc pu pd) {i : Int32} {r : Nat} (hr0 : ixS σ i = r) : mx_M l G base yX9_candidates cX9_candidates 5 (some .int) 6 146 0 0 [.ref (P 0), .int i] h (fun v h' => OUM P h h' ∧ (r = 0 → v = some (.int (-1)) ∧ MI G P h' σ (nI 0) kc pu pd) ∧ (r ≠ 0 → v = some (.int (nI (lst (cnd σ r) (st_n σ)).length)) ∧ ∃ kc', MI G P h' (su_fd σ (lst (cnd σ r) (st_n σ))) (nI 0) kc' pu pd)) := by
  have hn := m.1.1
  have hk := m.1.2.1
  have m1 := m.p0 (nI 0) kc pu pd
  have ho : OUM P h (va_up h (P 0) (some (.inr (9, mm P σ (nI 0) kc pu pd)))) := OUM.up (by decide)
  refine mx_enter (lo := [some (.ref (P 0)), some (.int i), none, none, none]) (by decide) (mx_in wd_code_yX9_candidates rfl) (Nat.le_of_ble_eq_true rfl) rfl ?_
  intro p ev s mt args below meth cd C hr hnm
  have C : mx_C p s mt args meth cd cX9_candidates 5 RX9 G base := C
  first | refine mx_aload_n C dX9_candidates_0 (pc' := 1) rfl rfl ?_ | refine mx_aload_nq C dX9_candidates_0 (pc' := 1) rfl rfl ?_
  refine mx_iconst C (v := nI 0) (by decide) dX9_candidates_1 (pc' := 2) rfl ?_
  refine pX9_64 C dX9_candidates_2 (pc' := 5) rfl (m.2.2.1) (Nat.le_of_ble_eq_true rfl) rfl rfl (fs' := [_, _, _, _, _, _, _, _, _, _, _, _, _, _, _, _, _, _, _, _, _, _, _, _, _]) rfl ?_
  refine mx_heap (h' := va_up h (P 0) (some (.inr (9, mm P σ (nI 0) kc pu pd)))) rfl ?_
  first | refine mx_aload_n C dX9_candidates_5 (pc' := 6) rfl rfl ?_ | refine mx_aload_nq C dX9_candidates_5 (pc' := 6) rfl rfl ?_
  refine mx_iload_n C dX9_candidates_6 (pc' := 7) rfl rfl ?_
  refine cX9_75 C dX9_candidates_7 (pc' := 10) rfl (m1.2.2.1) (c_X9_isTop l G base _ m1) ⟨by decide, by decide, by decide, by decide, Nat.le_of_ble_eq_true rfl⟩ ?_
  rintro _ _ ⟨rfl, rfl⟩
  rw [hr0]
  refine mx_B_ne C dX9_candidates_10 (tgt := 15) (by decide) (pc' := 13) rfl (fun g1 => ?_) (fun g1 => ?_)
  rotate_left
  · skip
    refine mx_iconst C (v := (-1)) (by decide) dX9_candidates_13 (pc' := 14) rfl ?_
    exact mx_iret C hr dX9_candidates_14 (by omega) (by omega) (⟨ho, fun _ => ⟨rfl, m1⟩, fun z => absurd (Decidable.not_not.mp (of_decide_eq_false g1)) z⟩)
  have g1 := of_decide_eq_true g1
  obtain ⟨ei, r2, r3⟩ := ixS_at hn hr0 g1
  subst ei
  have hl0 : lst (cnd σ r) (st_n σ) = lst (cndR σ r) (st_n σ) := lst_congr (fun i _ => (cndR_eq m.1).symm)
  rw [hl0]
  first | refine mx_aload_n C dX9_candidates_15 (pc' := 16) rfl rfl ?_ | refine mx_aload_nq C dX9_candidates_15 (pc' := 16) rfl rfl ?_
  refine mx_iconst C (v := nI 0) (by decide) dX9_candidates_16 (pc' := 17) rfl ?_
  refine pX9_129 C dX9_candidates_17 (pc' := 20) rfl (m1.2.2.1) (Nat.le_of_ble_eq_true rfl) rfl rfl (fs' := [_, _, _, _, _, _, _, _, _, _, _, _, _, _, _, _, _, _, _, _, _, _, _, _, _]) rfl ?_
  refine mx_heap (bx_uu _ _ _ _) ?_
  refine mx_heap (h' := va_up h (P 0) (some (.inr (9, mm P (su_fd σ []) (nI 0) kc pu pd)))) rfl ?_
  have ho : OUM P h (va_up h (P 0) (some (.inr (9, mm P (su_fd σ []) (nI 0) kc pu pd)))) := OUM.up (by decide)
  have m2 : MI G P (va_up h (P 0) (some (.inr (9, mm P (su_fd σ []) (nI 0) kc pu pd)))) (su_fd σ []) (nI 0) kc pu pd := by
    obtain ⟨k1, k2, k3, k4, k5, ⟨U, D, F, u1, u2, u3, u4, u5⟩, k7⟩ := m
    have e : ∀ j, j < 18 → j ≠ 0 → ∀ z, va_up h (P 0) z (P j) = h (P j) := fun j hj hn z => va_up_ne _ _ (k2.ne hj (by omega) hn)
    exact ⟨si_fd k1 (by decide) (fun x hx => by simp at hx), k2, va_up_self _ _ _, k4.kept (fun j _ _ => e j (by omega) (by omega) _), k5.kept (fun j _ _ => e j (by omega) (by omega) _), ⟨U, D, F, (e 9 (by decide) (by decide) _).trans u1, (e 10 (by decide) (by decide) _).trans u2, (e 11 (by decide) (by decide) _).trans u3, u4, fun i hi => absurd hi (by show ¬ i < 0; omega)⟩, k7.kept (fun j _ _ => e j (by omega) (by omega) _)⟩
  generalize va_up h (P 0) (some (.inr (9, mm P (su_fd σ []) (nI 0) kc pu pd))) = h2 at *
  first | refine mx_aload_n C dX9_candidates_20 (pc' := 21) rfl rfl ?_ | refine mx_aload_nq C dX9_candidates_20 (pc' := 21) rfl rfl ?_
  first | refine mx_aload_n C dX9_candidates_21 (pc' := 22) rfl rfl ?_ | refine mx_aload_nq C dX9_candidates_21 (pc' := 22) rfl rfl ?_
  refine mx_iload_n C dX9_candidates_22 (pc' := 23) rfl rfl ?_
  first | refine mx_aload_n C dX9_candidates_23 (pc' := 24) rfl rfl ?_ | refine mx_aload_nq C dX9_candidates_23 (pc' := 24) rfl rfl ?_
  refine gX9_45 C dX9_candidates_24 (pc' := 27) rfl (m2.2.2.1) rfl ?_
  refine cX9_125 C dX9_candidates_27 (pc' := 30) rfl (m2.2.2.1) (c_X9_keysOf l G base h2 m2 (r := r) r2 (u := 12) (Or.inl rfl)) ⟨by decide, by decide, by decide, by decide, Nat.le_of_ble_eq_true rfl⟩ ?_
  rintro _ h3 ⟨rfl, m3, f3, R, hR, hok⟩
  rw [fd_kl, fd_k] at hok
  rw [fd_kl, fd_k]
  have hv := kl_okr m.1 (r := r) (i := st_k σ) (Nat.le_refl _)
  have hln := kl_len σ r (st_k σ)
  generalize hKL : kl σ r (st_k σ) = KL at *
  refine pX9_132 C dX9_candidates_30 (pc' := 33) rfl (m3.2.2.1) (Nat.le_of_ble_eq_true rfl) rfl rfl (fs' := [_, _, _, _, _, _, _, _, _, _, _, _, _, _, _, _, _, _, _, _, _, _, _, _, _]) rfl ?_
  refine mx_heap (h' := va_up h3 (P 0) (some (.inr (9, mm P (su_fd σ []) (nI 0) (nI KL.length) pu pd)))) rfl ?_
  have m4 := m3.p0 (nI 0) (nI KL.length) pu pd
  have ho4 : OUM P h (va_up h3 (P 0) (some (.inr (9, mm P (su_fd σ []) (nI 0) (nI KL.length) pu pd)))) := (ho.tr (fun a ha => f3 a (ha 14 (by decide)) (ha 15 (by decide)) (ha 12 (by decide)))).tr (OUM.up (by decide))
  have hR4 : va_up h3 (P 0) (some (.inr (9, mm P (su_fd σ []) (nI 0) (nI KL.length) pu pd))) (P 12) = some (.inl (G.2 1, 200, .inr (.inl R))) := by rw [va_up_ne _ _ (m.2.1.ne (by decide) (by decide) (by decide))]; exact hR
  generalize va_up h3 (P 0) (some (.inr (9, mm P (su_fd σ []) (nI 0) (nI KL.length) pu pd))) = h4 at *
  have loop : ∀ (d j : Nat) (hh : mx_H), st_n σ - j = d → j ≤ st_n σ → MI G P hh (su_fd σ (lst (cndR σ r) j)) (nI 0) (nI KL.length) pu pd → OUM P h hh → hh (P 12) = some (.inl (G.2 1, 200, .inr (.inl R))) → mx_V p l ev { frames := 6, cells := 0, slots := 0, locals := 146 } s mt args below meth cd G base 5 (MQ below (mx_Qc G base (fun v h' => OUM P h h' ∧ (r = 0 → v = some (.int (-1)) ∧ MI G P h' σ (nI 0) kc pu pd) ∧ (r ≠ 0 → v = some (.int (nI (lst (cndR σ r) (st_n σ)).length)) ∧ ∃ kc', MI G P h' (su_fd σ (lst (cndR σ r) (st_n σ))) (nI 0) kc' pu pd))) args s 0 0 (mx_A base)) hh 0 0 35 [some (.ref (P 0)), some (.int (nI r)), some (.int (nI (j + 1))), none, none] [] := by
    intro d
    induction d using Nat.strongRecOn with
    | ind d ih =>
    intro j hh hd hj mj hoj hRj
    obtain ⟨l40, l40x⟩ := lst_40 (f := cndR σ r) hj hn
    refine mx_iload_n C dX9_candidates_35 (pc' := 36) rfl rfl ?_
    first | refine mx_aload_n C dX9_candidates_36 (pc' := 37) rfl rfl ?_ | refine mx_aload_nq C dX9_candidates_36 (pc' := 37) rfl rfl ?_
    refine gX9_68 C dX9_candidates_37 (pc' := 40) rfl (mj.2.2.1) rfl ?_
    rw [fd_n]
    refine mx_N_gt C dX9_candidates_40 (tgt := 123) (by decide) (pc' := 43) rfl (by omega) (by omega) (fun g2 => ?_) (fun g2 => ?_)
    · have e1 : j = st_n σ := by omega
      subst e1
      first | refine mx_aload_n C dX9_candidates_123 (pc' := 124) rfl rfl ?_ | refine mx_aload_nq C dX9_candidates_123 (pc' := 124) rfl rfl ?_
      refine gX9_129 C dX9_candidates_124 (pc' := 127) rfl (mj.2.2.1) rfl ?_
      exact mx_iret C hr dX9_candidates_127 (by omega) (by omega) (⟨hoj, fun z => absurd z g1, fun _ => ⟨rfl, _, mj⟩⟩)
    have k93 : ∀ (hh : mx_H) (X : Bool) (o4 : Option Value), MI G P hh (su_fd σ (lst (cndR σ r) j)) (nI 0) (nI KL.length) pu pd → OUM P h hh → hh (P 12) = some (.inl (G.2 1, 200, .inr (.inl R))) → X = cndR σ r j → mx_V p l ev { frames := 6, cells := 0, slots := 0, locals := 146 } s mt args below meth cd G base 5 (MQ below (mx_Qc G base (fun v h' => OUM P h h' ∧ (r = 0 → v = some (.int (-1)) ∧ MI G P h' σ (nI 0) kc pu pd) ∧ (r ≠ 0 → v = some (.int (nI (lst (cndR σ r) (st_n σ)).length)) ∧ ∃ kc', MI G P h' (su_fd σ (lst (cndR σ r) (st_n σ))) (nI 0) kc' pu pd))) args s 0 0 (mx_A base)) hh 0 0 93 [some (.ref (P 0)), some (.int (nI r)), some (.int (nI (j + 1))), some (.int (mx_b X)), o4] [] := by
      intro hh X o4 mj hoj hRj hX
      refine mx_weak (mx_le_keep (mx_le_keep (mx_le_keep (mx_le_keep (mx_le_drop mx_le_nil))))) ?_
      refine mx_iload_n C dX9_candidates_93 (pc' := 94) rfl rfl ?_
      refine mx_B_eq C dX9_candidates_94 (tgt := 117) (by decide) (pc' := 97) rfl (fun g3 => ?_) (fun g3 => ?_)
      · have e1 : lst (cndR σ r) (j + 1) = lst (cndR σ r) j := by rw [lst_s, ← hX, g3]; rfl
        refine mx_iinc C dX9_candidates_117 (pc' := 120) rfl rfl (mx_inc _) (by first | exact mx_c1_0 | exact mx_c1_int rfl | exact mx_c1_ref rfl | exact mx_c1_none rfl | exact mx_c1_rf rfl | exact mx_c1_null rfl) (by decide) (lo' := [_, _, _, _, _]) rfl ?_
        refine mx_goto C dX9_candidates_120 (tgt := 35) (by decide) ?_
        refine mx_weak (lo' := [some (.ref (P 0)), some (.int (nI r)), some (.int (nI (j + 1 + 1))), none, none]) (mx_le_keep (mx_le_keep (mx_le_keep (mx_le_drop (mx_le_keep mx_le_nil))))) ?_
        exact ih _ (by omega) (j + 1) hh rfl g2 (by rw [e1]; exact mj) hoj hRj
      have e1 : lst (cndR σ r) (j + 1) = lst (cndR σ r) j ++ [j + 1] := by rw [lst_s, ← hX, g3]; rfl
      obtain ⟨l40', l40x'⟩ := lst_40 (f := cndR σ r) g2 hn
      rw [e1, List.length_append] at l40'
      simp at l40'
      obtain ⟨U, D, F, -, -, hF, -, hFo⟩ := mj.2.2.2.2.2.1
      first | refine mx_aload_n C dX9_candidates_97 (pc' := 98) rfl rfl ?_ | refine mx_aload_nq C dX9_candidates_97 (pc' := 98) rfl rfl ?_
      refine gX9_42 C dX9_candidates_98 (pc' := 101) rfl (mj.2.2.1) rfl ?_
      first | refine mx_aload_n C dX9_candidates_101 (pc' := 102) rfl rfl ?_ | refine mx_aload_nq C dX9_candidates_101 (pc' := 102) rfl rfl ?_
      refine gX9_129 C dX9_candidates_102 (pc' := 105) rfl (mj.2.2.1) rfl ?_
      refine mx_iload_n C dX9_candidates_105 (pc' := 106) rfl rfl ?_
      refine mx_iast C dX9_candidates_106 (pc' := 107) rfl (hF) (rfl) (show (lst (cndR σ r) j).length < 40 by omega) (by decide) ?_
      have E0 : ∀ z, va_up hh (P 11) z (P 0) = some (.inr (9, mm P (su_fd σ (lst (cndR σ r) j)) (nI 0) (nI KL.length) pu pd)) := fun z => by rw [va_up_ne _ _ (m.2.1.ne (by decide) (by decide) (by decide))]; exact mj.2.2.1
      first | refine mx_aload_n C dX9_candidates_107 (pc' := 108) rfl rfl ?_ | refine mx_aload_nq C dX9_candidates_107 (pc' := 108) rfl rfl ?_
      refine mx_dup C rfl dX9_candidates_108 (pc' := 109) rfl ?_
      refine gX9_129 C dX9_candidates_109 (pc' := 112) rfl (E0 _) rfl ?_
      refine mx_iconst C (v := nI 1) (by decide) dX9_candidates_112 (pc' := 113) rfl ?_
      refine mx_iadd C dX9_candidates_113 (pc' := 114) rfl ?_
      rw [nI_add]
      refine pX9_129 C dX9_candidates_114 (pc' := 117) rfl (E0 _) (Nat.le_of_ble_eq_true rfl) rfl rfl (fs' := [_, _, _, _, _, _, _, _, _, _, _, _, _, _, _, _, _, _, _, _, _, _, _, _, _]) rfl ?_
      have mN : MI G P (va_up (va_up hh (P 11) (some (.inl (G.2 0, 40, .inl (upd F (lst (cndR σ r) j).length (nI (j + 1))))))) (P 0) (some (.inr (9, mm P (su_fd σ (lst (cndR σ r) (j + 1))) (nI 0) (nI KL.length) pu pd)))) (su_fd σ (lst (cndR σ r) (j + 1))) (nI 0) (nI KL.length) pu pd := by
        refine mj.fdp (F := upd F (lst (cndR σ r) j).length (nI (j + 1))) (by rw [e1, List.length_append]; simp; omega) l40x' (va_up_self _ _ _) (by rw [va_up_ne _ _ (m.2.1.ne (by decide) (by decide) (by decide)), va_up_self]) (fun q hq => ?_) (fun q hq q0 q11 => by rw [va_up_ne _ _ (m.2.1.ne hq (by decide) q0), va_up_ne _ _ (m.2.1.ne hq (by decide) q11)])
        rw [e1, List.length_append] at hq
        simp at hq
        rw [e1, List.getD_eq_getElem?_getD]
        by_cases e4 : q = (lst (cndR σ r) j).length
        · subst e4
          rw [pk_us, List.getElem?_append_right (Nat.le_refl _), Nat.sub_self]
          rfl
        · rw [pk_un e4, List.getElem?_append_left (by omega), ← List.getD_eq_getElem?_getD]
          exact hFo q (show q < (lst (cndR σ r) j).length by omega)
      refine mx_heap (h' := va_up (va_up hh (P 11) (some (.inl (G.2 0, 40, .inl (upd F (lst (cndR σ r) j).length (nI (j + 1))))))) (P 0) (some (.inr (9, mm P (su_fd σ (lst (cndR σ r) (j + 1))) (nI 0) (nI KL.length) pu pd)))) ?_ ?_
      · rw [e1]
        have e5 : (lst (cndR σ r) j ++ [j + 1]).length = (lst (cndR σ r) j).length + 1 := by rw [List.length_append]; rfl
        unfold mm
        rw [show st_f (su_fd σ (lst (cndR σ r) j ++ [j + 1])) = (lst (cndR σ r) j).length + 1 from e5]
        rfl
      refine mx_iinc C dX9_candidates_117 (pc' := 120) rfl rfl (mx_inc _) (by first | exact mx_c1_0 | exact mx_c1_int rfl | exact mx_c1_ref rfl | exact mx_c1_none rfl | exact mx_c1_rf rfl | exact mx_c1_null rfl) (by decide) (lo' := [_, _, _, _, _]) rfl ?_
      refine mx_goto C dX9_candidates_120 (tgt := 35) (by decide) ?_
      refine mx_weak (lo' := [some (.ref (P 0)), some (.int (nI r)), some (.int (nI (j + 1 + 1))), none, none]) (mx_le_keep (mx_le_keep (mx_le_keep (mx_le_drop (mx_le_keep mx_le_nil))))) ?_
      exact ih _ (by omega) (j + 1) _ rfl g2 mN ((hoj.tr (OUM.up (by decide))).tr (OUM.up (by decide))) (by rw [va_up_ne _ _ (m.2.1.ne (by decide) (by decide) (by decide)), va_up_ne _ _ (m.2.1.ne (by decide) (by decide) (by decide))]; exact hRj)
    have eix := ixS_nI (σ := σ) hn (show 1 ≤ j + 1 by omega) g2
    have loop2 : ∀ (d2 q : Nat) (hh : mx_H), KL.length - q = d2 → q ≤ KL.length → MI G P hh (su_fd σ (lst (cndR σ r) j)) (nI 0) (nI KL.length) pu pd → OUM P h hh → hh (P 12) = some (.inl (G.2 1, 200, .inr (.inl R))) → (q ≠ 0 → st_in σ (j + 1) = 0 ∧ j + 1 ≠ r) → (∀ q', q' + 1 < q → hasA σ KL (j + 1) q' = false) → mx_V p l ev { frames := 6, cells := 0, slots := 0, locals := 146 } s mt args below meth cd G base 5 (MQ below (mx_Qc G base (fun v h' => OUM P h h' ∧ (r = 0 → v = some (.int (-1)) ∧ MI G P h' σ (nI 0) kc pu pd) ∧ (r ≠ 0 → v = some (.int (nI (lst (cndR σ r) (st_n σ)).length)) ∧ ∃ kc', MI G P h' (su_fd σ (lst (cndR σ r) (st_n σ))) (nI 0) kc' pu pd))) args s 0 0 (mx_A base)) hh 0 0 48 [some (.ref (P 0)), some (.int (nI r)), some (.int (nI (j + 1))), some (.int (mx_b (anyB (hasA σ KL (j + 1)) q))), some (.int (nI q))] [] := by
      intro d2
      induction d2 using Nat.strongRecOn with
      | ind d2 ih2 =>
      intro q hh hd2 hq mj hoj hRj hq0 hqa
      have hcd : cndR σ r j = (decide (st_in σ (j + 1) = 0) && (decide (j + 1 ≠ r) && anyB (hasA σ KL (j + 1)) KL.length)) := by unfold cndR; rw [hKL]
      refine mx_iload C dX9_candidates_48 (pc' := 50) rfl rfl ?_
      first | refine mx_aload_n C dX9_candidates_50 (pc' := 51) rfl rfl ?_ | refine mx_aload_nq C dX9_candidates_50 (pc' := 51) rfl rfl ?_
      refine gX9_132 C dX9_candidates_51 (pc' := 54) rfl (mj.2.2.1) rfl ?_
      refine mx_N_ge C dX9_candidates_54 (tgt := 93) (by decide) (pc' := 57) rfl (by omega) (by omega) (fun g3 => ?_) (fun g3 => ?_)
      · have e1 : q = KL.length := by omega
        subst e1
        refine k93 hh _ _ mj hoj hRj ?_
        rw [hcd]
        by_cases e2 : KL.length = 0
        · rw [e2]; simp [anyB]
        · obtain ⟨a1, a2⟩ := hq0 e2
          rw [decide_eq_true a1, decide_eq_true a2]; rfl
      refine mx_iload_n C dX9_candidates_57 (pc' := 58) rfl rfl ?_
      refine mx_B_ne C dX9_candidates_58 (tgt := 93) (by decide) (pc' := 61) rfl (fun g4 => ?_) (fun g4 => ?_)
      · refine k93 hh _ _ mj hoj hRj ?_
        rw [hcd, g4]
        have q0 : q ≠ 0 := fun z => by rw [z] at g4; cases g4
        obtain ⟨a1, a2⟩ := hq0 q0
        obtain ⟨q', b1, b2⟩ := anyB_iff.mp g4
        rw [decide_eq_true a1, decide_eq_true a2, anyB_iff.mpr ⟨q', by omega, b2⟩]; rfl
      first | refine mx_aload_n C dX9_candidates_61 (pc' := 62) rfl rfl ?_ | refine mx_aload_nq C dX9_candidates_61 (pc' := 62) rfl rfl ?_
      refine mx_iload_n C dX9_candidates_62 (pc' := 63) rfl rfl ?_
      refine cX9_75 C dX9_candidates_63 (pc' := 66) rfl (mj.2.2.1) (c_X9_isTop l G base _ mj) ⟨by decide, by decide, by decide, by decide, Nat.le_of_ble_eq_true rfl⟩ ?_
      rintro _ _ ⟨rfl, rfl⟩
      rw [fd_ixS, eix]
      refine mx_B_eq C dX9_candidates_66 (tgt := 93) (by decide) (pc' := 69) rfl (fun g5 => ?_) (fun g5 => ?_)
      · have a1 : ¬ st_in σ (j + 1) = 0 := fun z => by rw [if_pos z] at g5; exact absurd (of_decide_eq_false g5) (by omega)
        have q0 : q = 0 := Decidable.not_not.mp (fun z => a1 (hq0 z).1)
        subst q0
        refine k93 hh _ _ mj hoj hRj ?_
        rw [hcd, decide_eq_false a1]; rfl
      have a1 : st_in σ (j + 1) = 0 := by
        have := of_decide_eq_true g5
        split at this
        · assumption
        · exact absurd rfl this
      refine mx_iload_n C dX9_candidates_69 (pc' := 70) rfl rfl ?_
      refine mx_iload_n C dX9_candidates_70 (pc' := 71) rfl rfl ?_
      refine mx_N_eq C dX9_candidates_71 (tgt := 93) (by decide) (pc' := 74) rfl (by omega) (by omega) (fun g6 => ?_) (fun g6 => ?_)
      · have q0 : q = 0 := Decidable.not_not.mp (fun z => (hq0 z).2 g6)
        subst q0
        refine k93 hh _ _ mj hoj hRj ?_
        rw [hcd, decide_eq_true a1, show decide (j + 1 ≠ r) = false from decide_eq_false (fun z => z g6)]; rfl
      have hqm : KL[q] ∈ KL := List.getElem_mem g3
      have hkq : hasA σ KL (j + 1) q = decide (KL[q] ∈ kl σ (j + 1) (st_k σ)) := by unfold hasA; rw [List.getElem?_eq_getElem g3]
      have hRq : R q = encR (some KL[q]) := by rw [hok q g3, List.getElem?_eq_getElem g3]
      have ea : anyB (hasA σ KL (j + 1)) (q + 1) = hasA σ KL (j + 1) q := by
        show (anyB (hasA σ KL (j + 1)) q || hasA σ KL (j + 1) q) = _
        rw [g4, Bool.false_or]
      first | refine mx_aload_n C dX9_candidates_74 (pc' := 75) rfl rfl ?_ | refine mx_aload_nq C dX9_candidates_74 (pc' := 75) rfl rfl ?_
      refine mx_iload_n C dX9_candidates_75 (pc' := 76) rfl rfl ?_
      first | refine mx_aload_n C dX9_candidates_76 (pc' := 77) rfl rfl ?_ | refine mx_aload_nq C dX9_candidates_76 (pc' := 77) rfl rfl ?_
      refine gX9_45 C dX9_candidates_77 (pc' := 80) rfl (mj.2.2.1) rfl ?_
      refine mx_iload C dX9_candidates_80 (pc' := 82) rfl rfl ?_
      refine mx_lald C dX9_candidates_82 (pc' := 83) rfl (hRj) (rfl) (show q < 200 by omega) (by decide) ?_
      refine cX9_135 C dX9_candidates_83 (pc' := 86) rfl (mj.2.2.1) (c_X9_has l G base hh mj (r := j + 1) g2 hRq (hv _ hqm)) ⟨by decide, by decide, by decide, by decide, Nat.le_of_ble_eq_true rfl⟩ ?_
      rintro _ h9 ⟨rfl, m9, f9⟩
      rw [fd_kl, fd_k, ← hkq, ← ea]
      refine mx_istore_n C dX9_candidates_86 (pc' := 87) rfl (by first | exact mx_c1_0 | exact mx_c1_int rfl | exact mx_c1_ref rfl | exact mx_c1_none rfl | exact mx_c1_rf rfl | exact mx_c1_null rfl) (by decide) (lo' := [_, _, _, _, _]) rfl ?_
      refine mx_iinc C dX9_candidates_87 (pc' := 90) rfl rfl (mx_inc _) (by first | exact mx_c1_0 | exact mx_c1_int rfl | exact mx_c1_ref rfl | exact mx_c1_none rfl | exact mx_c1_rf rfl | exact mx_c1_null rfl) (by decide) (lo' := [_, _, _, _, _]) rfl ?_
      refine mx_goto C dX9_candidates_90 (tgt := 48) (by decide) ?_
      refine ih2 _ (by omega) (q + 1) h9 rfl (by omega) m9 (hoj.tr (fun a ha => f9 a (ha 13 (by decide)) (ha 14 (by decide)) (ha 15 (by decide)))) ((f9 _ (m.2.1.ne (by decide) (by decide) (by decide)) (m.2.1.ne (by decide) (by decide) (by decide)) (m.2.1.ne (by decide) (by decide) (by decide))).trans hRj) (fun _ => ⟨a1, g6⟩) (fun q' hq' => ?_)
      exact anyB_f g4 (by omega)
    refine mx_iconst C (v := nI 0) (by decide) dX9_candidates_43 (pc' := 44) rfl ?_
    refine mx_istore_n C dX9_candidates_44 (pc' := 45) rfl (by first | exact mx_c1_0 | exact mx_c1_int rfl | exact mx_c1_ref rfl | exact mx_c1_none rfl | exact mx_c1_rf rfl | exact mx_c1_null rfl) (by decide) (lo' := [_, _, _, _, _]) rfl ?_
    refine mx_iconst C (v := nI 0) (by decide) dX9_candidates_45 (pc' := 46) rfl ?_
    refine mx_istore C dX9_candidates_46 (pc' := 48) rfl (by first | exact mx_c1_0 | exact mx_c1_int rfl | exact mx_c1_ref rfl | exact mx_c1_none rfl | exact mx_c1_rf rfl | exact mx_c1_null rfl) (by decide) (lo' := [_, _, _, _, _]) rfl ?_
    exact loop2 _ 0 hh rfl (by omega) mj hoj hRj (fun z => absurd rfl z) (fun q' hq' => by omega)
  refine mx_iconst C (v := nI 1) (by decide) dX9_candidates_33 (pc' := 34) rfl ?_
  refine mx_istore_n C dX9_candidates_34 (pc' := 35) rfl (by first | exact mx_c1_0 | exact mx_c1_int rfl | exact mx_c1_ref rfl | exact mx_c1_none rfl | exact mx_c1_rf rfl | exact mx_c1_null rfl) (by decide) (lo' := [_, _, _, _, _]) rfl ?_
  exact loop _ 0 h4 rfl (by omega) m4 ho4 hR4
/-- what index counts -/
def cntK (σ : mxS) (q : Bool × Nat) : Nat := cntB (fun i => mkP σ (fun j => decide (sky σ (j + 1) = some q)) (st_k σ) (i + 1)) (st_n σ)
theorem c_X9_index (h : mx_H) {P : Nat → Nat} {σ : mxS} {th kc : Int32} {pu pd : Int64} (m : MI G P h σ th kc pu pd) {a i : Int32} {r r' : Nat} (hr0 : ixR (st_n σ) a = r) (hr1 : ixS σ a = r') {KL : List (Bool × Nat)} (hKL : KL = if r' = 0 then [] else kl σ r' (st_k σ)) : mx_M l G base yX9_index cX9_index 6 (some .int) 6 146 0 0 [.ref (P 0), .int a, .int i] h (fun v h' => OUM P h h' ∧ (r = 0 → v = some (.int (-1)) ∧ MI G P h' σ (nI 0) kc pu pd) ∧ (r ≠ 0 → (i < 0 ∨ nI KL.length ≤ i → v = some (.int (nI 0)) ∧ MI G P h' σ (nI 1) kc pu pd) ∧ ∀ j q, i = nI j → KL[j]? = some q → v = some (.int (nI (cntK σ q))) ∧ MI G P h' σ (nI 0) kc pu pd)) := by
  have hn := m.1.1
  have hk := m.1.2.1
  have m1 := m.p0 (nI 0) kc pu pd
  have ho : OUM P h (va_up h (P 0) (some (.inr (9, mm P σ (nI 0) kc pu pd)))) := OUM.up (by decide)
  refine mx_enter (lo := [some (.ref (P 0)), some (.int a), some (.int i), none, none, none]) (by decide) (mx_in wd_code_yX9_index rfl) (Nat.le_of_ble_eq_true rfl) rfl ?_
  intro p ev s mt args below meth cd C hr hnm
  have C : mx_C p s mt args meth cd cX9_index 6 RX9 G base := C
  first | refine mx_aload_n C dX9_index_0 (pc' := 1) rfl rfl ?_ | refine mx_aload_nq C dX9_index_0 (pc' := 1) rfl rfl ?_
  refine mx_iconst C (v := nI 0) (by decide) dX9_index_1 (pc' := 2) rfl ?_
  refine pX9_64 C dX9_index_2 (pc' := 5) rfl (m.2.2.1) (Nat.le_of_ble_eq_true rfl) rfl rfl (fs' := [_, _, _, _, _, _, _, _, _, _, _, _, _, _, _, _, _, _, _, _, _, _, _, _, _]) rfl ?_
  refine mx_heap (h' := va_up h (P 0) (some (.inr (9, mm P σ (nI 0) kc pu pd)))) rfl ?_
  generalize va_up h (P 0) (some (.inr (9, mm P σ (nI 0) kc pu pd))) = h1 at *
  first | refine mx_aload_n C dX9_index_5 (pc' := 6) rfl rfl ?_ | refine mx_aload_nq C dX9_index_5 (pc' := 6) rfl rfl ?_
  refine mx_iload_n C dX9_index_6 (pc' := 7) rfl rfl ?_
  refine cX9_71 C dX9_index_7 (pc' := 10) rfl (m1.2.2.1) (c_X9_isRecord l G base _ m1) ⟨by decide, by decide, by decide, by decide, Nat.le_of_ble_eq_true rfl⟩ ?_
  rintro _ _ ⟨rfl, rfl⟩
  rw [hr0]
  refine mx_B_ne C dX9_index_10 (tgt := 15) (by decide) (pc' := 13) rfl (fun g1 => ?_) (fun g1 => ?_)
  rotate_left
  · skip
    refine mx_iconst C (v := (-1)) (by decide) dX9_index_13 (pc' := 14) rfl ?_
    exact mx_iret C hr dX9_index_14 (by omega) (by omega) (⟨ho, fun _ => ⟨rfl, m1⟩, fun z => absurd (Decidable.not_not.mp (of_decide_eq_false g1)) z⟩)
  have g1 := of_decide_eq_true g1
  have hle := @ixR_le (st_n σ) a
  have ea := ixR_eq (n := st_n σ) (i := a) (by omega) (by rw [hr0]; exact g1)
  rw [hr0] at hle ea
  subst ea
  have hln : KL.length ≤ 200 := by
    rw [hKL]
    split
    · exact Nat.zero_le _
    · have := kl_len σ r' (st_k σ); omega
  have hv : ∀ q ∈ KL, kvr q := by
    rw [hKL]
    split
    · intro q hq; simp at hq
    · exact kl_okr m.1 (Nat.le_refl _)
  have k36 : ∀ (hh : mx_H) (R : Nat → Int64), MI G P hh σ (nI 0) kc pu pd → OUM P h hh → (0 < KL.length → hh (P 12) = some (.inl (G.2 1, 200, .inr (.inl R)))) → (∀ q, q < KL.length → R q = encR KL[q]?) → mx_V p l ev { frames := 6, cells := 0, slots := 0, locals := 146 } s mt args below meth cd G base 6 (MQ below (mx_Qc G base (fun v h' => OUM P h h' ∧ (r = 0 → v = some (.int (-1)) ∧ MI G P h' σ (nI 0) kc pu pd) ∧ (r ≠ 0 → (i < 0 ∨ nI KL.length ≤ i → v = some (.int (nI 0)) ∧ MI G P h' σ (nI 1) kc pu pd) ∧ ∀ j q, i = nI j → KL[j]? = some q → v = some (.int (nI (cntK σ q))) ∧ MI G P h' σ (nI 0) kc pu pd))) args s 0 0 (mx_A base)) hh 0 0 36 [some (.ref (P 0)), some (.int (nI r)), some (.int i), none, none, none] [.int (nI KL.length)] := by
    intro hh R mj hoj hR hok
    have k46 : (i < 0 ∨ nI KL.length ≤ i) → mx_V p l ev { frames := 6, cells := 0, slots := 0, locals := 146 } s mt args below meth cd G base 6 (MQ below (mx_Qc G base (fun v h' => OUM P h h' ∧ (r = 0 → v = some (.int (-1)) ∧ MI G P h' σ (nI 0) kc pu pd) ∧ (r ≠ 0 → (i < 0 ∨ nI KL.length ≤ i → v = some (.int (nI 0)) ∧ MI G P h' σ (nI 1) kc pu pd) ∧ ∀ j q, i = nI j → KL[j]? = some q → v = some (.int (nI (cntK σ q))) ∧ MI G P h' σ (nI 0) kc pu pd))) args s 0 0 (mx_A base)) hh 0 0 46 [some (.ref (P 0)), some (.int (nI r)), some (.int i), some (.int (nI KL.length)), none, none] [] := by
      intro hc
      first | refine mx_aload_n C dX9_index_46 (pc' := 47) rfl rfl ?_ | refine mx_aload_nq C dX9_index_46 (pc' := 47) rfl rfl ?_
      refine mx_iconst C (v := nI 1) (by decide) dX9_index_47 (pc' := 48) rfl ?_
      refine pX9_64 C dX9_index_48 (pc' := 51) rfl (mj.2.2.1) (Nat.le_of_ble_eq_true rfl) rfl rfl (fs' := [_, _, _, _, _, _, _, _, _, _, _, _, _, _, _, _, _, _, _, _, _, _, _, _, _]) rfl ?_
      refine mx_heap (h' := va_up hh (P 0) (some (.inr (9, mm P σ (nI 1) kc pu pd)))) rfl ?_
      refine mx_iconst C (v := nI 0) (by decide) dX9_index_51 (pc' := 52) rfl ?_
      refine mx_iret C hr dX9_index_52 (by omega) (by omega) ⟨hoj.tr (OUM.up (by decide)), fun z => absurd z g1, fun _ => ⟨fun _ => ⟨rfl, mj.p0 (nI 1) kc pu pd⟩, fun j q e1 e2 => ?_⟩⟩
      exfalso
      have hlt : j < KL.length := by
        rcases Nat.lt_or_ge j KL.length with z | z
        · exact z
        · rw [List.getElem?_eq_none z] at e2; cases e2
      rw [e1] at hc
      rcases hc with z | z
      · exact nI_pos (by omega) z
      · exact absurd ((nI_leI (by omega) (by omega)).mp z) (by omega)
    refine mx_istore_n C dX9_index_36 (pc' := 37) rfl (by first | exact mx_c1_0 | exact mx_c1_int rfl | exact mx_c1_ref rfl | exact mx_c1_none rfl | exact mx_c1_rf rfl | exact mx_c1_null rfl) (by decide) (lo' := [_, _, _, _, _, _]) rfl ?_
    refine mx_iload_n C dX9_index_37 (pc' := 38) rfl rfl ?_
    refine mx_if_lt C dX9_index_38 (tgt := 46) (by decide) (pc' := 41) rfl (fun g2 => ?_) (fun g2 => ?_)
    · exact k46 (Or.inl g2)
    refine mx_iload_n C dX9_index_41 (pc' := 42) rfl rfl ?_
    refine mx_iload_n C dX9_index_42 (pc' := 43) rfl rfl ?_
    refine mx_icmp_lt C dX9_index_43 (tgt := 53) (by decide) (pc' := 46) rfl (fun g3 => ?_) (fun g3 => ?_)
    rotate_left
    · exact k46 (Or.inr (Int32.not_lt.mp g3))
    obtain ⟨j, hj, ej⟩ : ∃ j : Nat, j < KL.length ∧ i = nI j := by
      rcases pk_ix i (n := KL.length) (by omega) with z | z | z
      · exact absurd z g2
      · exact absurd g3 (Int32.not_lt.mpr z)
      · exact z
    have hR := hR (by omega)
    have hqm : KL[j] ∈ KL := List.getElem_mem hj
    have hRq : R j = encR (some KL[j]) := by rw [hok j hj, List.getElem?_eq_getElem hj]
    have loop : ∀ (d w : Nat) (hh : mx_H), st_n σ - w = d → w ≤ st_n σ → MI G P hh σ (nI 0) kc pu pd → OUM P h hh → hh (P 12) = some (.inl (G.2 1, 200, .inr (.inl R))) → mx_V p l ev { frames := 6, cells := 0, slots := 0, locals := 146 } s mt args below meth cd G base 6 (MQ below (mx_Qc G base (fun v h' => OUM P h h' ∧ (r = 0 → v = some (.int (-1)) ∧ MI G P h' σ (nI 0) kc pu pd) ∧ (r ≠ 0 → (i < 0 ∨ nI KL.length ≤ i → v = some (.int (nI 0)) ∧ MI G P h' σ (nI 1) kc pu pd) ∧ ∀ j q, i = nI j → KL[j]? = some q → v = some (.int (nI (cntK σ q))) ∧ MI G P h' σ (nI 0) kc pu pd))) args s 0 0 (mx_A base)) hh 0 0 59 [some (.ref (P 0)), some (.int (nI r)), some (.int i), some (.int (nI KL.length)), some (.int (nI (cntB (fun i => mkP σ (fun jj => decide (sky σ (jj + 1) = some KL[j])) (st_k σ) (i + 1)) w))), some (.int (nI (w + 1)))] [] := by
      intro d
      induction d using Nat.strongRecOn with
      | ind d ih =>
      intro w hh hd hw mj hoj hRj
      refine mx_iload C dX9_index_59 (pc' := 61) rfl rfl ?_
      first | refine mx_aload_n C dX9_index_61 (pc' := 62) rfl rfl ?_ | refine mx_aload_nq C dX9_index_61 (pc' := 62) rfl rfl ?_
      refine gX9_68 C dX9_index_62 (pc' := 65) rfl (mj.2.2.1) rfl ?_
      refine mx_N_gt C dX9_index_65 (tgt := 108) (by decide) (pc' := 68) rfl (by omega) (by omega) (fun g4 => ?_) (fun g4 => ?_)
      · have e1 : w = st_n σ := by omega
        subst e1
        refine mx_iload C dX9_index_108 (pc' := 110) rfl rfl ?_
        refine mx_iret C hr dX9_index_110 (by omega) (by omega) ⟨hoj, fun z => absurd z g1, fun _ => ⟨fun z => ?_, fun j' q e1 e2 => ?_⟩⟩
        · rcases z with z | z
          · exact absurd z g2
          · exact absurd g3 (Int32.not_lt.mpr z)
        · have hlt : j' < KL.length := by
            rcases Nat.lt_or_ge j' KL.length with z | z
            · exact z
            · rw [List.getElem?_eq_none z] at e2; cases e2
          have e3 : j = j' := (nI_eq (by omega) (by omega)).mp (ej.symm.trans e1)
          subst e3
          rw [List.getElem?_eq_getElem hj] at e2
          cases e2
          exact ⟨rfl, mj⟩
      have eix := ixS_nI (σ := σ) hn (show 1 ≤ w + 1 by omega) g4
      have hmk := mkP_kl (σ := σ) (r := w + 1) (q := KL[j])
      refine mx_iload C dX9_index_68 (pc' := 70) rfl rfl ?_
      first | refine mx_aload_n C dX9_index_70 (pc' := 71) rfl rfl ?_ | refine mx_aload_nq C dX9_index_70 (pc' := 71) rfl rfl ?_
      refine mx_iload C dX9_index_71 (pc' := 73) rfl rfl ?_
      refine cX9_75 C dX9_index_73 (pc' := 76) rfl (mj.2.2.1) (c_X9_isTop l G base _ mj) ⟨by decide, by decide, by decide, by decide, Nat.le_of_ble_eq_true rfl⟩ ?_
      rintro _ _ ⟨rfl, rfl⟩
      rw [eix]
      refine mx_B_eq C dX9_index_76 (tgt := 98) (by decide) (pc' := 79) rfl (fun g5 => ?_) (fun g5 => ?_)
      · have a1 : ¬ st_in σ (w + 1) = 0 := fun z => by rw [if_pos z] at g5; exact absurd (of_decide_eq_false g5) (by omega)
        have e2 : mkP σ (fun jj => decide (sky σ (jj + 1) = some KL[j])) (st_k σ) (w + 1) = false := by
          rw [hmk]; exact decide_eq_false (fun z => a1 (kl_top m.1 z))
        have key := ih _ (show st_n σ - (w + 1) < d by omega) (w + 1) hh rfl g4 mj hoj hRj
        rw [cntB_n (f := fun i => mkP σ (fun jj => decide (sky σ (jj + 1) = some KL[j])) (st_k σ) (i + 1)) e2] at key
        refine mx_iconst C (v := nI 0) (by decide) dX9_index_98 (pc' := 99) rfl ?_
        refine mx_iadd C dX9_index_99 (pc' := 100) rfl ?_
        rw [nI_add]
        refine mx_istore C dX9_index_100 (pc' := 102) rfl (by first | exact mx_c1_0 | exact mx_c1_int rfl | exact mx_c1_ref rfl | exact mx_c1_none rfl | exact mx_c1_rf rfl | exact mx_c1_null rfl) (by decide) (lo' := [_, _, _, _, _, _]) rfl ?_
        refine mx_iinc C dX9_index_102 (pc' := 105) rfl rfl (mx_inc _) (by first | exact mx_c1_0 | exact mx_c1_int rfl | exact mx_c1_ref rfl | exact mx_c1_none rfl | exact mx_c1_rf rfl | exact mx_c1_null rfl) (by decide) (lo' := [_, _, _, _, _, _]) rfl ?_
        refine mx_goto C dX9_index_105 (tgt := 59) (by decide) ?_
        exact key
      first | refine mx_aload_n C dX9_index_79 (pc' := 80) rfl rfl ?_ | refine mx_aload_nq C dX9_index_79 (pc' := 80) rfl rfl ?_
      refine mx_iload C dX9_index_80 (pc' := 82) rfl rfl ?_
      first | refine mx_aload_n C dX9_index_82 (pc' := 83) rfl rfl ?_ | refine mx_aload_nq C dX9_index_82 (pc' := 83) rfl rfl ?_
      refine gX9_45 C dX9_index_83 (pc' := 86) rfl (mj.2.2.1) rfl ?_
      refine mx_iload_n C dX9_index_86 (pc' := 87) rfl rfl ?_
      refine mx_lald C dX9_index_87 (pc' := 88) rfl (hRj) (ej) (show j < 200 by omega) (by decide) ?_
      refine cX9_135 C dX9_index_88 (pc' := 91) rfl (mj.2.2.1) (c_X9_has l G base hh mj (r := w + 1) g4 hRq (hv _ hqm)) ⟨by decide, by decide, by decide, by decide, Nat.le_of_ble_eq_true rfl⟩ ?_
      rintro _ h9 ⟨rfl, m9, f9⟩
      have ho9 : OUM P h h9 := hoj.tr (fun a ha => f9 a (ha 13 (by decide)) (ha 14 (by decide)) (ha 15 (by decide)))
      have hR9 := (f9 _ (m.2.1.ne (i := 12) (j := 13) (by decide) (by decide) (by decide)) (m.2.1.ne (by decide) (by decide) (by decide)) (m.2.1.ne (by decide) (by decide) (by decide))).trans hRj
      have key := ih _ (show st_n σ - (w + 1) < d by omega) (w + 1) h9 rfl g4 m9 ho9 hR9
      refine mx_B_eq C dX9_index_91 (tgt := 98) (by decide) (pc' := 94) rfl (fun g6 => ?_) (fun g6 => ?_)
      · rw [cntB_n (f := fun i => mkP σ (fun jj => decide (sky σ (jj + 1) = some KL[j])) (st_k σ) (i + 1)) (hmk.trans g6)] at key
        refine mx_iconst C (v := nI 0) (by decide) dX9_index_98 (pc' := 99) rfl ?_
        refine mx_iadd C dX9_index_99 (pc' := 100) rfl ?_
        rw [nI_add]
        refine mx_istore C dX9_index_100 (pc' := 102) rfl (by first | exact mx_c1_0 | exact mx_c1_int rfl | exact mx_c1_ref rfl | exact mx_c1_none rfl | exact mx_c1_rf rfl | exact mx_c1_null rfl) (by decide) (lo' := [_, _, _, _, _, _]) rfl ?_
        refine mx_iinc C dX9_index_102 (pc' := 105) rfl rfl (mx_inc _) (by first | exact mx_c1_0 | exact mx_c1_int rfl | exact mx_c1_ref rfl | exact mx_c1_none rfl | exact mx_c1_rf rfl | exact mx_c1_null rfl) (by decide) (lo' := [_, _, _, _, _, _]) rfl ?_
        refine mx_goto C dX9_index_105 (tgt := 59) (by decide) ?_
        exact key
      · rw [cntB_t (f := fun i => mkP σ (fun jj => decide (sky σ (jj + 1) = some KL[j])) (st_k σ) (i + 1)) (hmk.trans g6)] at key
        refine mx_iconst C (v := nI 1) (by decide) dX9_index_94 (pc' := 95) rfl ?_
        refine mx_goto C dX9_index_95 (tgt := 99) (by decide) ?_
        refine mx_iadd C dX9_index_99 (pc' := 100) rfl ?_
        rw [nI_add]
        refine mx_istore C dX9_index_100 (pc' := 102) rfl (by first | exact mx_c1_0 | exact mx_c1_int rfl | exact mx_c1_ref rfl | exact mx_c1_none rfl | exact mx_c1_rf rfl | exact mx_c1_null rfl) (by decide) (lo' := [_, _, _, _, _, _]) rfl ?_
        refine mx_iinc C dX9_index_102 (pc' := 105) rfl rfl (mx_inc _) (by first | exact mx_c1_0 | exact mx_c1_int rfl | exact mx_c1_ref rfl | exact mx_c1_none rfl | exact mx_c1_rf rfl | exact mx_c1_null rfl) (by decide) (lo' := [_, _, _, _, _, _]) rfl ?_
        refine mx_goto C dX9_index_105 (tgt := 59) (by decide) ?_
        exact key
    refine mx_iconst C (v := nI 0) (by decide) dX9_index_53 (pc' := 54) rfl ?_
    refine mx_istore C dX9_index_54 (pc' := 56) rfl (by first | exact mx_c1_0 | exact mx_c1_int rfl | exact mx_c1_ref rfl | exact mx_c1_none rfl | exact mx_c1_rf rfl | exact mx_c1_null rfl) (by decide) (lo' := [_, _, _, _, _, _]) rfl ?_
    refine mx_iconst C (v := nI 1) (by decide) dX9_index_56 (pc' := 57) rfl ?_
    refine mx_istore C dX9_index_57 (pc' := 59) rfl (by first | exact mx_c1_0 | exact mx_c1_int rfl | exact mx_c1_ref rfl | exact mx_c1_none rfl | exact mx_c1_rf rfl | exact mx_c1_null rfl) (by decide) (lo' := [_, _, _, _, _, _]) rfl ?_
    exact loop _ 0 hh rfl (by omega) mj hoj hR
  first | refine mx_aload_n C dX9_index_15 (pc' := 16) rfl rfl ?_ | refine mx_aload_nq C dX9_index_15 (pc' := 16) rfl rfl ?_
  refine mx_iload_n C dX9_index_16 (pc' := 17) rfl rfl ?_
  refine cX9_75 C dX9_index_17 (pc' := 20) rfl (m1.2.2.1) (c_X9_isTop l G base _ m1) ⟨by decide, by decide, by decide, by decide, Nat.le_of_ble_eq_true rfl⟩ ?_
  rintro _ _ ⟨rfl, rfl⟩
  rw [hr1]
  refine mx_B_eq C dX9_index_20 (tgt := 35) (by decide) (pc' := 23) rfl (fun g2 => ?_) (fun g2 => ?_)
  · have e1 : r' = 0 := Decidable.not_not.mp (of_decide_eq_false g2)
    have e2 : KL = [] := by rw [hKL, if_pos e1]
    have k36 := k36 h1 (fun _ => 0) m1 ho (fun z => by rw [e2] at z; exact absurd z (by decide)) (fun q hq => by rw [e2] at hq; exact absurd hq (Nat.not_lt_zero _))
    rw [show KL.length = 0 by rw [e2]; rfl] at k36
    refine mx_iconst C (v := nI 0) (by decide) dX9_index_35 (pc' := 36) rfl ?_
    rw [show KL.length = 0 by rw [e2]; rfl]
    exact k36
  have g2 := of_decide_eq_true g2
  obtain ⟨er, r2, -⟩ := ixS_at hn hr1 g2
  have er : r = r' := (nI_eq (by omega) (by omega)).mp er
  subst er
  have e2 : KL = kl σ r (st_k σ) := by rw [hKL, if_neg g2]
  first | refine mx_aload_n C dX9_index_23 (pc' := 24) rfl rfl ?_ | refine mx_aload_nq C dX9_index_23 (pc' := 24) rfl rfl ?_
  refine mx_iload_n C dX9_index_24 (pc' := 25) rfl rfl ?_
  first | refine mx_aload_n C dX9_index_25 (pc' := 26) rfl rfl ?_ | refine mx_aload_nq C dX9_index_25 (pc' := 26) rfl rfl ?_
  refine gX9_45 C dX9_index_26 (pc' := 29) rfl (m1.2.2.1) rfl ?_
  refine cX9_125 C dX9_index_29 (pc' := 32) rfl (m1.2.2.1) (c_X9_keysOf l G base h1 m1 (r := r) r2 (u := 12) (Or.inl rfl)) ⟨by decide, by decide, by decide, by decide, Nat.le_of_ble_eq_true rfl⟩ ?_
  rintro _ h3 ⟨rfl, m3, f3, R, hR, hok⟩
  rw [← e2] at hok
  rw [← e2]
  refine mx_goto C dX9_index_32 (tgt := 36) (by decide) ?_
  exact k36 h3 R m3 (ho.tr (fun a ha => f3 a (ha 14 (by decide)) (ha 15 (by decide)) (ha 12 (by decide)))) (fun _ => hR) hok
end R7
