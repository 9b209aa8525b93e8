/-! constructors, record, field -/
theorem rc_rks {σ : mxS} {k : Int32} : st_rk (su_rc σ k) (st_n σ + 1) = k := if_pos rfl
theorem rc_rkn {σ : mxS} {k : Int32} {q : Nat} (h : q ≠ st_n σ + 1) : st_rk (su_rc σ k) q = st_rk σ q := if_neg h
theorem si_rc {σ : mxS} (h : si σ) {k : Int32} (hn : st_n σ < 40) : si (su_rc σ k) := by
  obtain ⟨a1, a2, a3, a4, ⟨a5, a5b, a5c⟩, ⟨a6, a6b⟩, a7, a8⟩ := h
  refine ⟨hn, a2, a3, a4, ⟨fun r r1 r2 => ?_, fun r r' r1 r2 r3 r4 e1 e2 e3 => ?_, fun q hq => a5c q (Nat.lt_of_succ_lt hq)⟩, ⟨fun f f1 f2 => ?_, a6b⟩, a7, a8⟩
  · show st_in σ r ≤ st_n σ + 1 ∧ _
    have r2 : r ≤ st_n σ + 1 := r2
    by_cases e : r = st_n σ + 1
    · have := (a5c r (by omega)).1
      exact ⟨by omega, fun z => absurd this z⟩
    · obtain ⟨b1, b2⟩ := a5 r r1 (by omega)
      exact ⟨by omega, b2⟩
  · have nz : ∀ q, 1 ≤ q → q ≤ st_n σ + 1 → st_in σ q ≠ 0 → q ≤ st_n σ := fun q q1 q2 q3 => by
      by_cases e : q = st_n σ + 1
      · exact absurd (a5c q (by omega)).1 q3
      · omega
    exact a5b r r' r1 (nz r r1 r2 e1) r3 (nz r' r3 r4 e2) e1 e2 e3
  · obtain ⟨b1, b2, b3, b4⟩ := a6 f f1 f2
    exact ⟨b1, b2, Nat.le_succ_of_le b3, b4⟩
theorem ch_rc {σ : mxS} (h : si σ) {la ea : Nat → Nat} {k : Int32} (hc : ci_ch σ la ea) : ci_ch (su_rc σ k) (up1 la (st_n σ + 1) 0) (up1 ea (st_n σ + 1) 0) := by
  obtain ⟨c1, c2⟩ := hc
  obtain ⟨a5, a5b, a5c⟩ := h.2.2.2.2.1
  have hin : ∀ q, st_in (su_rc σ k) q = st_in σ q := fun q => rfl
  have hz : st_in σ (st_n σ + 1) = 0 := (a5c _ (by omega)).1
  refine ⟨fun r r1 r2 => ?_, fun r r1 r2 => ?_⟩
  · have r2 : r ≤ st_n σ + 1 := r2
    show up1 la (st_n σ + 1) 0 r ≤ st_n σ + 1 ∧ up1 ea (st_n σ + 1) 0 r ≤ st_n σ + 1 ∧ (up1 la (st_n σ + 1) 0 r = 0 → ∀ q, 1 ≤ q → q ≤ st_n σ + 1 → st_in σ q ≠ r) ∧ (up1 la (st_n σ + 1) 0 r ≠ 0 → st_in σ (up1 la (st_n σ + 1) 0 r) = r ∧ ∀ q, 1 ≤ q → q ≤ st_n σ + 1 → st_in σ q = r → st_wh σ q ≤ st_wh σ (up1 la (st_n σ + 1) 0 r))
    by_cases e : r = st_n σ + 1
    · subst e
      rw [up1_s, up1_s]
      refine ⟨by omega, by omega, fun _ q q1 q2 z => ?_, fun z => absurd rfl z⟩
      by_cases e2 : q = st_n σ + 1
      · rw [e2, hz] at z; omega
      · have := (a5 q q1 (by omega)).1; omega
    · rw [up1_n e, up1_n e]
      obtain ⟨d1, d2, d3, d4⟩ := c1 r r1 (by omega)
      refine ⟨by omega, by omega, fun z q q1 q2 => ?_, fun z => ⟨(d4 z).1, fun q q1 q2 z2 => ?_⟩⟩
      · by_cases e2 : q = st_n σ + 1
        · rw [e2, hz]; omega
        · exact d3 z q q1 (by omega)
      · by_cases e2 : q = st_n σ + 1
        · rw [e2, hz] at z2; omega
        · exact (d4 z).2 q q1 (by omega) z2
  · have r2 : r ≤ st_n σ + 1 := r2
    show (st_in σ r = 0 → up1 ea (st_n σ + 1) 0 r = 0) ∧ (st_in σ r ≠ 0 → (up1 ea (st_n σ + 1) 0 r = 0 → ∀ q, 1 ≤ q → q ≤ st_n σ + 1 → st_in σ q = st_in σ r → st_wh σ r ≤ st_wh σ q) ∧ (up1 ea (st_n σ + 1) 0 r ≠ 0 → st_in σ (up1 ea (st_n σ + 1) 0 r) = st_in σ r ∧ st_wh σ (up1 ea (st_n σ + 1) 0 r) < st_wh σ r ∧ ∀ q, 1 ≤ q → q ≤ st_n σ + 1 → st_in σ q = st_in σ r → st_wh σ q < st_wh σ r → st_wh σ q ≤ st_wh σ (up1 ea (st_n σ + 1) 0 r)))
    by_cases e : r = st_n σ + 1
    · subst e
      rw [up1_s]
      exact ⟨fun _ => rfl, fun z => absurd hz z⟩
    · rw [up1_n e]
      obtain ⟨d1, d2⟩ := c2 r r1 (by omega)
      refine ⟨d1, fun z => ⟨fun z2 q q1 q2 z3 => ?_, fun z2 => ⟨((d2 z).2 z2).1, ((d2 z).2 z2).2.1, fun q q1 q2 z3 z4 => ?_⟩⟩⟩
      · by_cases e2 : q = st_n σ + 1
        · rw [e2, hz] at z3; exact absurd z3.symm z
        · exact (d2 z).1 z2 q q1 (by omega) z3
      · by_cases e2 : q = st_n σ + 1
        · rw [e2, hz] at z3; exact absurd z3.symm z
        · exact ((d2 z).2 z2).2.2 q q1 (by omega) z3 z4
def upb (f : Nat → Bool) (k : Nat) (v : Bool) : Nat → Bool := fun q => if q = k then v else f q
theorem upb_s {f : Nat → Bool} {k : Nat} {v : Bool} : upb f k v k = v := if_pos rfl
theorem upb_n {f : Nat → Bool} {k q : Nat} {v : Bool} (h : q ≠ k) : upb f k v q = f q := if_neg h
def au_b (A : mxA) (r q : Nat) : mxA := (A.1, up1 A.2.1 r q, A.2.2)
def au_t (A : mxA) (f q c : Nat) : mxA := (A.1, A.2.1, up1 A.2.2.1 f q, up1 A.2.2.2 f c)
theorem pB_n {A : mxA} {r q x : Nat} (h : x ≠ r) : pB (au_b A r q) x = pB A x := by
  unfold pB
  split
  · rfl
  · show some (up1 (aB A) r q x) = some (aB A x)
    rw [up1_n h]
theorem pT_n {A : mxA} {r q c x : Nat} (h : x ≠ r) : pT (au_t A r q c) x = pT A x := by
  unfold pT
  split
  · rfl
  · show some (up1 (aT A) r q x) = some (aT A x)
    rw [up1_n h]
/-- a record more -/
theorem CI.rc {G : mx_G} {A : mxA} {h h' : mx_H} {σ : mxS} {la ea : Nat → Nat} {mk : Nat → Bool} (c : CI G A h σ la ea mk) {k : Int32} {q : Nat} (hn : st_n σ < 40) (hq : h q = none)
    (e0 : h' (aK A 0) = some (.inr (8, mo (au_b A (st_n σ + 1) q) (su_rc σ k))))
    (eq : h' q = some (.inr (0, [.int (nI (st_n σ + 1)), .int k, .int 0, .int 0, .null, .null, .null, .null])))
    (en : st_n σ ≠ 0 → h' (aB A (st_n σ)) = some (.inr (0, [.int (nI (st_n σ)), .int (st_rk σ (st_n σ)), .int (mx_b (st_lk σ (st_n σ))), .int (mx_b (mk (st_n σ))), .ref q, va_rf (pB A (st_in σ (st_n σ))), va_rf (pB A (la (st_n σ))), va_rf (pB A (ea (st_n σ)))])))
    (hf : ∀ a, a ≠ q → a ≠ aK A 0 → (st_n σ ≠ 0 → a ≠ aB A (st_n σ)) → h' a = h a) : CI G (au_b A (st_n σ + 1) q) h' (su_rc σ k) (up1 la (st_n σ + 1) 0) (up1 ea (st_n σ + 1) 0) (upb mk (st_n σ + 1) false) := by
  obtain ⟨c1, c2, c3, ⟨F, c4, c4b⟩, c5, ⟨R, n, k1, k2, k3, k4⟩, c7, c8, c9, c10⟩ := id c
  have nq : ∀ {a : Nat} {x : va_E}, h a = some x → a ≠ q := fun ha z => by rw [z, hq] at ha; cases ha
  have eK : ∀ i, i < 23 → 1 ≤ i → h' (aK A i) = h (aK A i) := fun i hi i1 => by
    obtain ⟨x, hx, -⟩ := ci_K c i hi
    exact hf _ (nq hx) (c2.1.ne hi (by decide) (by omega)) (fun z y => c.bK (r := st_n σ) (by omega) (Nat.le_refl _) hi y.symm)
  obtain ⟨ch1, ch2⟩ := c10
  obtain ⟨a5, a5b, a5c⟩ := c1.2.2.2.2.1
  refine ⟨si_rc c1 hn, ⟨c2.1, c2.2.1, c2.2.2⟩, e0, ⟨F, (eK 1 (by decide) (by decide)).trans c4, c4b⟩, c5.kept (fun i i1 _ => eK i (by omega) (by omega)), ⟨R, n, k1, k2, (eK 9 (by decide) (by decide)).trans k3, (eK 10 (by decide) (by decide)).trans k4⟩, c7.kept (fun i i1 _ => eK i (by omega) (by omega)), fun r r1 r2 => ?_, fun f f1 f2 => ?_, ch_rc c1 ⟨ch1, ch2⟩⟩
  · have r2 : r ≤ st_n σ + 1 := r2
    by_cases e : r = st_n σ + 1
    · subst e
      show h' (up1 (aB A) (st_n σ + 1) q (st_n σ + 1)) = _
      rw [up1_s, eq, rc_rks, up1_s, up1_s, upb_s]
      have e1 : nxt (st_n (su_rc σ k)) (st_n σ + 1) = 0 := nxt_ge (by show ¬ st_n σ + 1 < st_n σ + 1; omega)
      have e2 : st_in (su_rc σ k) (st_n σ + 1) = 0 := (a5c _ (by omega)).1
      have e3 : st_lk (su_rc σ k) (st_n σ + 1) = false := (a5c _ (by omega)).2
      rw [e1, e2, e3]
      rfl
    · have B := c8 r r1 (by omega)
      obtain ⟨d1, d2, -⟩ := ch1 r r1 (by omega)
      have d3 := (a5 r r1 (by omega)).1
      show h' (up1 (aB A) (st_n σ + 1) q r) = _
      rw [up1_n e, rc_rkn e, up1_n e, up1_n e, upb_n e, pB_n (show st_in (su_rc σ k) r ≠ st_n σ + 1 by show st_in σ r ≠ _; omega), pB_n (show la r ≠ st_n σ + 1 by omega), pB_n (show ea r ≠ st_n σ + 1 by omega)]
      by_cases e2 : r = st_n σ
      · subst e2
        rw [en (by omega)]
        have e1 : nxt (st_n (su_rc σ k)) (st_n σ) = st_n σ + 1 := nxt_lt (by show st_n σ < st_n σ + 1; omega)
        rw [e1, pB_s (show st_n σ + 1 ≠ 0 by omega)]
        show _ = some (Sum.inr (0, [_, _, _, _, va_rf (some (up1 (aB A) (st_n σ + 1) q (st_n σ + 1))), _, _, _]))
        rw [up1_s]
        rfl
      · rw [hf _ (nq B) (c.bK r1 (by omega) (by decide)) (fun _ z => e2 (aB_inj c1.1 c8 r1 (by omega) (by omega) (Nat.le_refl _) z)), B]
        have e1 : nxt (st_n (su_rc σ k)) r = nxt (st_n σ) r := by rw [nxt_lt (show r < st_n σ by omega)]; exact nxt_lt (by show r < st_n σ + 1; omega)
        rw [e1, pB_n (by rw [nxt_lt (show r < st_n σ by omega)]; omega)]
        rfl
  · have B := c9 f f1 f2
    have e4 := (c1.2.2.2.2.2.1.1 f f1 f2).2.2.1
    obtain ⟨T, hT, -⟩ := B.2.2
    have e3 : aB (au_b A (st_n σ + 1) q) (st_ow σ f) = aB A (st_ow σ f) := by show up1 (aB A) (st_n σ + 1) q (st_ow σ f) = _; rw [up1_n (by omega)]
    show tx_at G h' (aT A f) (nI f) (nI (st_tg σ f)) (aB (au_b A (st_n σ + 1) q) (st_ow σ f)) (aC A f) (va_rf (pT A (nxt (st_k σ) f))) (st_sz σ f) (st_sg σ f)
    rw [e3]
    refine B.kept (hf _ (nq B.2.1) (c.tK f1 f2 (by decide)) (fun z y => (c.bT (r := st_n σ) (by omega) (Nat.le_refl _) f1 f2).1 y.symm)) (hf _ (nq hT) (c2.2.1 f f1 f2 0 (by decide)) (fun z y => (c.bT (r := st_n σ) (by omega) (Nat.le_refl _) f1 f2).2 y.symm))
theorem si_fl {σ : mxS} (h : si σ) {r g : Nat} (hk : st_k σ < 200) (r1 : 1 ≤ r) (r2 : r ≤ st_n σ) (hg : g ≤ 9) : si (su_fl σ r g) := by
  obtain ⟨a1, a2, a3, a4, a5, ⟨a6, a6b⟩, a7, a8⟩ := h
  refine ⟨a1, hk, a3, a4, a5, ⟨fun f f1 f2 => ?_, fun f hf => a6b f (Nat.lt_of_succ_lt hf)⟩, a7, a8⟩
  have f2 : f ≤ st_k σ + 1 := f2
  show (if f = st_k σ + 1 then g else st_tg σ f) ≤ 9 ∧ 1 ≤ (if f = st_k σ + 1 then r else st_ow σ f) ∧ (if f = st_k σ + 1 then r else st_ow σ f) ≤ st_n σ ∧ st_sz σ f ≤ 60 ∧ ∀ j, j < st_sz σ f → st_sg σ f j < 256
  by_cases e : f = st_k σ + 1
  · simp only [if_pos e]
    have := a6b f (by omega)
    exact ⟨hg, r1, r2, by omega, fun j hj => by omega⟩
  · simp only [if_neg e]
    exact a6 f f1 (by omega)
/-- a field more -/
theorem CI.fl {G : mx_G} {A : mxA} {h h' : mx_H} {σ : mxS} {la ea : Nat → Nat} {mk : Nat → Bool} (c : CI G A h σ la ea mk) {r g q q2 : Nat} (hk : st_k σ < 200) (r1 : 1 ≤ r) (r2 : r ≤ st_n σ) (hg : g ≤ 9) (hq : h q = none) (hq2 : h q2 = none)
    (e0 : h' (aK A 0) = some (.inr (8, mo (au_t A (st_k σ + 1) q q2) (su_fl σ r g))))
    (eq : h' q = some (.inr (6, [.int (nI (st_k σ + 1)), .int (nI g), .ref (aB A r), .ref q2, .int 0, .null])))
    (eq2 : h' q2 = some (.inl (G.2 2, 60, .inl (fun _ => 0))))
    (en : st_k σ ≠ 0 → h' (aT A (st_k σ)) = some (.inr (6, [.int (nI (st_k σ)), .int (nI (st_tg σ (st_k σ))), .ref (aB A (st_ow σ (st_k σ))), .ref (aC A (st_k σ)), .int (nI (st_sz σ (st_k σ))), .ref q])))
    (hf : ∀ a, a ≠ q → a ≠ q2 → a ≠ aK A 0 → (st_k σ ≠ 0 → a ≠ aT A (st_k σ)) → h' a = h a) : CI G (au_t A (st_k σ + 1) q q2) h' (su_fl σ r g) la ea mk := by
  obtain ⟨c1, c2, c3, ⟨F, c4, c4b⟩, c5, ⟨R, n, k1, k2, k3, k4⟩, c7, c8, c9, c10⟩ := id c
  have nq : ∀ {a : Nat} {x : va_E}, h a = some x → a ≠ q := fun ha z => by rw [z, hq] at ha; cases ha
  have nq2 : ∀ {a : Nat} {x : va_E}, h a = some x → a ≠ q2 := fun ha z => by rw [z, hq2] at ha; cases ha
  have eK : ∀ i, i < 23 → 1 ≤ i → h' (aK A i) = h (aK A i) := fun i hi i1 => by
    obtain ⟨x, hx, -⟩ := ci_K c i hi
    exact hf _ (nq hx) (nq2 hx) (c2.1.ne hi (by decide) (by omega)) (fun z y => c.tK (f := st_k σ) (by omega) (Nat.le_refl _) hi y.symm)
  have hC : ∀ f, 1 ≤ f → f ≤ st_k σ → ∃ x, h (aC A f) = some x := fun f f1 f2 => by obtain ⟨T, hT, -⟩ := (c9 f f1 f2).2.2; exact ⟨_, hT⟩
  refine ⟨si_fl c1 hk r1 r2 hg, ⟨c2.1, fun f f1 f2 i hi => ?_, fun f f' f1 f2 f3 f4 z => ?_⟩, e0, ⟨F, (eK 1 (by decide) (by decide)).trans c4, c4b⟩, c5.kept (fun i i1 _ => eK i (by omega) (by omega)), ⟨R, n, k1, k2, (eK 9 (by decide) (by decide)).trans k3, (eK 10 (by decide) (by decide)).trans k4⟩, c7.kept (fun i i1 _ => eK i (by omega) (by omega)), fun x x1 x2 => ?_, fun f f1 f2 => ?_, c10⟩
  · have f2 : f ≤ st_k σ + 1 := f2
    show up1 (aC A) (st_k σ + 1) q2 f ≠ aK A i
    by_cases e : f = st_k σ + 1
    · subst e
      rw [up1_s]
      obtain ⟨x, hx, -⟩ := ci_K c i hi
      exact fun z => nq2 hx z.symm
    · rw [up1_n e]; exact c2.2.1 f f1 (by omega) i hi
  · have f2 : f ≤ st_k σ + 1 := f2
    have f4 : f' ≤ st_k σ + 1 := f4
    have z : up1 (aC A) (st_k σ + 1) q2 f = up1 (aC A) (st_k σ + 1) q2 f' := z
    by_cases e : f = st_k σ + 1
    · by_cases e' : f' = st_k σ + 1
      · omega
      · rw [e, up1_s, up1_n e'] at z
        obtain ⟨x, hx⟩ := hC f' f3 (by omega)
        exact absurd z.symm (nq2 hx)
    · by_cases e' : f' = st_k σ + 1
      · rw [e', up1_s, up1_n e] at z
        obtain ⟨x, hx⟩ := hC f f1 (by omega)
        exact absurd z (nq2 hx)
      · rw [up1_n e, up1_n e'] at z
        exact c2.2.2 f f' f1 (by omega) f3 (by omega) z
  · have B := c8 x x1 x2
    rw [show aB (au_t A (st_k σ + 1) q q2) x = aB A x from rfl, hf _ (nq B) (nq2 B) (c.bK x1 x2 (by decide)) (fun z => (c.bT x1 x2 (f := st_k σ) (by omega) (Nat.le_refl _)).1)]
    exact B
  · have f2 : f ≤ st_k σ + 1 := f2
    by_cases e : f = st_k σ + 1
    · subst e
      have e1 : nxt (st_k (su_fl σ r g)) (st_k σ + 1) = 0 := nxt_ge (by show ¬ st_k σ + 1 < st_k σ + 1; omega)
      have e2 : st_tg (su_fl σ r g) (st_k σ + 1) = g := if_pos rfl
      have e3 : st_ow (su_fl σ r g) (st_k σ + 1) = r := if_pos rfl
      have e4 : st_sz (su_fl σ r g) (st_k σ + 1) = 0 := c1.2.2.2.2.2.1.2 _ (by omega)
      have e5 : aT (au_t A (st_k σ + 1) q q2) (st_k σ + 1) = q := up1_s
      have e6 : aC (au_t A (st_k σ + 1) q q2) (st_k σ + 1) = q2 := up1_s
      rw [e1, e2, e3, e4, e5, e6]
      exact ⟨by omega, eq, _, eq2, fun j hj => by omega⟩
    · have B := c9 f f1 (by omega)
      obtain ⟨T, hT, -⟩ := B.2.2
      have e2 : st_tg (su_fl σ r g) f = st_tg σ f := if_neg e
      have e3 : st_ow (su_fl σ r g) f = st_ow σ f := if_neg e
      have e5 : aT (au_t A (st_k σ + 1) q q2) f = aT A f := up1_n e
      have e6 : aC (au_t A (st_k σ + 1) q q2) f = aC A f := up1_n e
      rw [e2, e3, e5, e6]
      have hCf : h' (aC A f) = h (aC A f) := hf _ (nq hT) (nq2 hT) (c2.2.1 f f1 (by omega) 0 (by decide)) (fun z y => c.tC (g := st_k σ) (by omega) (Nat.le_refl _) f1 (by omega) y.symm)
      by_cases e7 : f = st_k σ
      · subst e7
        have e1 : nxt (st_k (su_fl σ r g)) (st_k σ) = st_k σ + 1 := nxt_lt (by show st_k σ < st_k σ + 1; omega)
        rw [e1, pT_s (show st_k σ + 1 ≠ 0 by omega)]
        obtain ⟨b1, b2, T', b3, b4⟩ := B
        refine ⟨b1, ?_, T', hCf.trans b3, b4⟩
        rw [en (by omega)]
        have e8 : aT (au_t A (st_k σ + 1) q q2) (st_k σ + 1) = q := up1_s
        rw [e8]
        rfl
      · have e1 : nxt (st_k (su_fl σ r g)) f = nxt (st_k σ) f := by rw [nxt_lt (show f < st_k σ by omega)]; exact nxt_lt (by show f < st_k σ + 1; omega)
        rw [e1, pT_n (by rw [nxt_lt (show f < st_k σ by omega)]; omega)]
        exact B.kept (hf _ (nq B.2.1) (nq2 B.2.1) (c.tK f1 (by omega) (by decide)) (fun _ z => e7 (aT_inj c1.2.1 c9 f1 (by omega) (by omega) (Nat.le_refl _) z))) hCf
section MK
variable (l : Launch) (G : mx_G) (base : Nat)
set_option maxRecDepth 20000
theorem c_X0_init (h : mx_H) {a : Nat} {i k : Int32} (ha : h a = some (.inr (0, [.int 0, .int 0, .int 0, .int 0, .null, .null, .null, .null]))) : mx_M l G base yX0_init cX0_init 3 none 1 24 0 0 [.ref a, .int i, .int k] h (fun v h' => v = none ∧ h' = va_up h a (some (.inr (0, [.int i, .int k, .int 0, .int 0, .null, .null, .null, .null])))) := by
  refine mx_enter (lo := [some (.ref a), some (.int i), some (.int k)]) (by decide) (mx_in wd_code_yX0_init rfl) (Nat.le_of_ble_eq_true rfl) rfl ?_
  intro p ev s mt args below meth cd C hr hnm
  have C : mx_C p s mt args meth cd cX0_init 3 RX0 G base := C
  first | refine mx_aload_n C dX0_init_0 (pc' := 1) rfl rfl ?_ | refine mx_aload_nq C dX0_init_0 (pc' := 1) rfl rfl ?_
  refine oX0_1 C dX0_init_1 (pc' := 4) rfl ⟨by decide, Nat.le_of_ble_eq_true rfl⟩ ?_
  first | refine mx_aload_n C dX0_init_4 (pc' := 5) rfl rfl ?_ | refine mx_aload_nq C dX0_init_4 (pc' := 5) rfl rfl ?_
  refine mx_iload_n C dX0_init_5 (pc' := 6) rfl rfl ?_
  refine pX0_7 C hnm dX0_init_6 (pc' := 9) rfl (ha) (Nat.le_of_ble_eq_true rfl) rfl rfl (fs' := [_, _, _, _, _, _, _, _]) rfl ?_
  first | refine mx_aload_n C dX0_init_9 (pc' := 10) rfl rfl ?_ | refine mx_aload_nq C dX0_init_9 (pc' := 10) rfl rfl ?_
  refine mx_iload_n C dX0_init_10 (pc' := 11) rfl rfl ?_
  refine pX0_13 C hnm dX0_init_11 (pc' := 14) rfl (va_up_self _ _ _) (Nat.le_of_ble_eq_true rfl) rfl rfl (fs' := [_, _, _, _, _, _, _, _]) rfl ?_
  refine mx_heap (bx_uu _ _ _ _) ?_
  exact mx_vret C hr dX0_init_14 (by omega) (by omega) (⟨rfl, rfl⟩)
theorem c_X6_init (h : mx_H) {a o : Nat} {i k : Int32} (ha : h a = some (.inr (6, [.int 0, .int 0, .null, .null, .int 0, .null]))) : mx_M l G base yX6_init cX6_init 4 none 1 24 1 60 [.ref a, .int i, .int k, .ref o] h (fun v h' => v = none ∧ ∃ q, h q = none ∧ q ≠ a ∧ h' = va_up (va_up h a (some (.inr (6, [.int i, .int k, .ref o, .ref q, .int 0, .null])))) q (some (.inl (G.2 2, 60, .inl (fun _ => 0))))) := by
  refine mx_enter (lo := [some (.ref a), some (.int i), some (.int k), some (.ref o)]) (by decide) (mx_in wd_code_yX6_init rfl) (Nat.le_of_ble_eq_true rfl) rfl ?_
  intro p ev s mt args below meth cd C hr hnm
  have C : mx_C p s mt args meth cd cX6_init 4 RX6 G base := C
  first | refine mx_aload_n C dX6_init_0 (pc' := 1) rfl rfl ?_ | refine mx_aload_nq C dX6_init_0 (pc' := 1) rfl rfl ?_
  refine oX6_3 C dX6_init_1 (pc' := 4) rfl ⟨by decide, Nat.le_of_ble_eq_true rfl⟩ ?_
  first | refine mx_aload_n C dX6_init_4 (pc' := 5) rfl rfl ?_ | refine mx_aload_nq C dX6_init_4 (pc' := 5) rfl rfl ?_
  refine mx_iload_n C dX6_init_5 (pc' := 6) rfl rfl ?_
  refine pX6_9 C hnm dX6_init_6 (pc' := 9) rfl (ha) (Nat.le_of_ble_eq_true rfl) rfl rfl (fs' := [_, _, _, _, _, _]) rfl ?_
  first | refine mx_aload_n C dX6_init_9 (pc' := 10) rfl rfl ?_ | refine mx_aload_nq C dX6_init_9 (pc' := 10) rfl rfl ?_
  refine mx_iload_n C dX6_init_10 (pc' := 11) rfl rfl ?_
  refine pX6_15 C hnm dX6_init_11 (pc' := 14) rfl (va_up_self _ _ _) (Nat.le_of_ble_eq_true rfl) rfl rfl (fs' := [_, _, _, _, _, _]) rfl ?_
  refine mx_heap (bx_uu _ _ _ _) ?_
  first | refine mx_aload_n C dX6_init_14 (pc' := 15) rfl rfl ?_ | refine mx_aload_nq C dX6_init_14 (pc' := 15) rfl rfl ?_
  first | refine mx_aload_n C dX6_init_15 (pc' := 16) rfl rfl ?_ | refine mx_aload_nq C dX6_init_15 (pc' := 16) rfl rfl ?_
  first | refine pX6_18 C hnm dX6_init_16 (pc' := 19) rfl (va_up_self _ _ _) (Nat.le_of_ble_eq_true rfl) rfl rfl (fs' := [_, _, _, _, _, _]) rfl ?_ | refine pX6_18 C hnm dX6_init_16 (pc' := 19) rfl (va_up_self _ _ _) (Nat.le_of_ble_eq_true rfl) (mx_nrf _ _) (mx_frf _ _) (fs' := [_, _, _, _, _, _]) rfl ?_
  refine mx_heap (bx_uu _ _ _ _) ?_
  first | refine mx_aload_n C dX6_init_19 (pc' := 20) rfl rfl ?_ | refine mx_aload_nq C dX6_init_19 (pc' := 20) rfl rfl ?_
  refine mx_bipush C (v := nI 60) (by decide) dX6_init_20 (pc' := 22) rfl ?_
  refine mx_newac C (mx_in wd_arr_char rfl) (N := 60) (by rfl) (by decide) dX6_init_22 (pc' := 24) rfl (by decide) (by decide) ?_
  intro q hq
  have hqa : q ≠ a := fun z => by rw [z, va_up_self] at hq; cases hq
  refine pX6_22 C hnm dX6_init_24 (pc' := 27) rfl (by rw [va_up_ne _ _ (fun z => hqa z.symm), va_up_self]) (Nat.le_of_ble_eq_true rfl) rfl rfl (fs' := [_, _, _, _, _, _]) rfl ?_
  refine mx_vret C hr dX6_init_27 (by omega) (by omega) ⟨rfl, q, by rw [va_up_ne _ _ hqa] at hq; exact hq, hqa, ?_⟩
  funext y
  unfold va_up
  by_cases e1 : y = a
  · subst e1
    have e5 : y ≠ q := fun z => hqa z.symm
    simp [e5]
  · by_cases e2 : y = q
    · subst e2; simp [e1]
    · simp [e1, e2]
theorem c_X8_record (h : mx_H) {A : mxA} {σ : mxS} {la ea : Nat → Nat} {mk : Nat → Bool} (c : CI G A h σ la ea mk) {k : Int32} :
    mx_M l G base yX8_record cX8_record 3 (some .int) 2 46 1 8 [.ref (aK A 0), .int k] h (fun v h' => (¬ st_n σ < 40 → v = some (.int (nI 0)) ∧ h = h') ∧ (st_n σ < 40 → v = some (.int (nI (st_n σ + 1))) ∧ ∃ q la' ea' mk', h q = none ∧ CI G (au_b A (st_n σ + 1) q) h' (su_rc σ k) la' ea' mk' ∧ ∀ x, x ≠ q → (∀ i, i < 23 → x ≠ aK A i) → (∀ r, 1 ≤ r → r ≤ st_n σ → x ≠ aB A r) → h' x = h x)) := by
  have hn := c.1.1
  have c3 := c.2.2.1
  refine mx_enter (lo := [some (.ref (aK A 0)), some (.int k), none]) (by decide) (mx_in wd_code_yX8_record rfl) (Nat.le_of_ble_eq_true rfl) rfl ?_
  intro p ev s mt args below meth cd C hr hnm
  have C : mx_C p s mt args meth cd cX8_record 3 RX8 G base := C
  first | refine mx_aload_n C dX8_record_0 (pc' := 1) rfl rfl ?_ | refine mx_aload_nq C dX8_record_0 (pc' := 1) rfl rfl ?_
  refine gX8_34 C dX8_record_1 (pc' := 4) rfl (c3) rfl ?_
  refine mx_bipush C (v := nI 40) (by decide) dX8_record_4 (pc' := 6) rfl ?_
  refine mx_N_lt C dX8_record_6 (tgt := 11) (by decide) (pc' := 9) rfl (by omega) (by omega) (fun h6 => ?_) (fun h6 => ?_)
  rotate_left
  · skip
    refine mx_iconst C (v := nI 0) (by decide) dX8_record_9 (pc' := 10) rfl ?_
    exact mx_iret C hr dX8_record_10 (by omega) (by omega) (⟨fun _ => ⟨rfl, rfl⟩, fun z => absurd z (by omega)⟩)
  first | refine mx_aload_n C dX8_record_11 (pc' := 12) rfl rfl ?_ | refine mx_aload_nq C dX8_record_11 (pc' := 12) rfl rfl ?_
  refine mx_dup C rfl dX8_record_12 (pc' := 13) rfl ?_
  refine gX8_34 C dX8_record_13 (pc' := 16) rfl (c3) rfl ?_
  refine mx_iconst C (v := nI 1) (by decide) dX8_record_16 (pc' := 17) rfl ?_
  refine mx_iadd C dX8_record_17 (pc' := 18) rfl ?_
  rw [nI_add]
  refine pX8_34 C dX8_record_18 (pc' := 21) rfl (c3) (Nat.le_of_ble_eq_true rfl) rfl rfl (fs' := [_, _, _, _, _, _, _, _, _, _, _]) rfl ?_
  refine nX8_38 C dX8_record_21 (pc' := 24) rfl (by decide) (by decide) ?_
  intro q hq
  have hq0 : q ≠ aK A 0 := fun z => by rw [z, va_up_self] at hq; cases hq
  have hq1 : h q = none := by rw [va_up_ne _ _ hq0] at hq; exact hq
  refine mx_dup C rfl dX8_record_24 (pc' := 25) rfl ?_
  first | refine mx_aload_n C dX8_record_25 (pc' := 26) rfl rfl ?_ | refine mx_aload_nq C dX8_record_25 (pc' := 26) rfl rfl ?_
  refine gX8_34 C dX8_record_26 (pc' := 29) rfl (by rw [va_up_ne _ _ (fun z => hq0 z.symm), va_up_self]) rfl ?_
  refine mx_iload_n C dX8_record_29 (pc' := 30) rfl rfl ?_
  refine cX8_40 C dX8_record_30 (pc' := 33) rfl (c_X0_init l G base _ (va_up_self _ _ _)) ⟨by decide, by decide, by decide, by decide, Nat.le_of_ble_eq_true rfl⟩ ?_
  rintro _ _ ⟨rfl, rfl⟩
  refine mx_heap (bx_uu _ _ _ _) ?_
  by_cases e : st_n σ = 0
  · have eB : pB A (st_n σ) = none := by rw [e]; rfl
    rw [eB]
    first | refine mx_astore_n C dX8_record_33 (pc' := 34) rfl (by first | exact mx_c1_0 | exact mx_c1_int rfl | exact mx_c1_ref rfl | exact mx_c1_none rfl | exact mx_c1_rf rfl | exact mx_c1_null rfl) (by decide) (lo' := [_, _, _]) rfl ?_ | refine mx_astore_nq C dX8_record_33 (pc' := 34) rfl (by first | exact mx_c1_0 | exact mx_c1_int rfl | exact mx_c1_ref rfl | exact mx_c1_none rfl | exact mx_c1_rf rfl | exact mx_c1_null rfl) (by decide) (lo' := [_, _, _]) rfl ?_
    first | refine mx_aload_n C dX8_record_34 (pc' := 35) rfl rfl ?_ | refine mx_aload_nq C dX8_record_34 (pc' := 35) rfl rfl ?_
    refine gX8_43 C dX8_record_35 (pc' := 38) rfl (by rw [va_up_ne _ _ (fun z => hq0 z.symm), va_up_self]) rfl ?_
    refine mx_stk (st' := [va_rf none]) rfl ?_
    refine mx_ifnonnull C dX8_record_38 (tgt := 49) (by decide) (pc' := 41) rfl (fun h38_a h38 => ?_) (fun h38 => ?_)
    · cases h38
    first | refine mx_aload_n C dX8_record_41 (pc' := 42) rfl rfl ?_ | refine mx_aload_nq C dX8_record_41 (pc' := 42) rfl rfl ?_
    first | refine mx_aload_n C dX8_record_42 (pc' := 43) rfl rfl ?_ | refine mx_aload_nq C dX8_record_42 (pc' := 43) rfl rfl ?_
    first | refine pX8_47 C dX8_record_43 (pc' := 46) rfl (by rw [va_up_ne _ _ (fun z => hq0 z.symm), va_up_self]) (Nat.le_of_ble_eq_true rfl) rfl rfl (fs' := [_, _, _, _, _, _, _, _, _, _, _]) rfl ?_ | refine pX8_47 C dX8_record_43 (pc' := 46) rfl (by rw [va_up_ne _ _ (fun z => hq0 z.symm), va_up_self]) (Nat.le_of_ble_eq_true rfl) (mx_nrf _ _) (mx_frf _ _) (fs' := [_, _, _, _, _, _, _, _, _, _, _]) rfl ?_
    refine mx_goto C dX8_record_46 (tgt := 57) (by decide) ?_
    first | refine mx_aload_n C dX8_record_57 (pc' := 58) rfl rfl ?_ | refine mx_aload_nq C dX8_record_57 (pc' := 58) rfl rfl ?_
    first | refine mx_aload_n C dX8_record_58 (pc' := 59) rfl rfl ?_ | refine mx_aload_nq C dX8_record_58 (pc' := 59) rfl rfl ?_
    first | refine pX8_43 C dX8_record_59 (pc' := 62) rfl (va_up_self _ _ _) (Nat.le_of_ble_eq_true rfl) rfl rfl (fs' := [_, _, _, _, _, _, _, _, _, _, _]) rfl ?_ | refine pX8_43 C dX8_record_59 (pc' := 62) rfl (va_up_self _ _ _) (Nat.le_of_ble_eq_true rfl) (mx_nrf _ _) (mx_frf _ _) (fs' := [_, _, _, _, _, _, _, _, _, _, _]) rfl ?_
    first | refine mx_aload_n C dX8_record_62 (pc' := 63) rfl rfl ?_ | refine mx_aload_nq C dX8_record_62 (pc' := 63) rfl rfl ?_
    refine gX8_53 C dX8_record_63 (pc' := 66) rfl (by rw [va_up_ne _ _ hq0, va_up_ne _ _ hq0, va_up_self]) rfl ?_
    refine mx_iret C hr dX8_record_66 (by omega) (by omega) ⟨fun z => absurd h6 z, fun _ => ⟨rfl, q, _, _, _, hq1, c.rc h6 hq1 ?_ ?_ (fun z => absurd e z) (fun x x1 x2 x3 => ?_), fun x x1 x2 x3 => ?_⟩⟩
    · rw [va_up_self]
      have e1 : nxt (st_n (su_rc σ k)) 0 = 1 := nxt_lt (by show 0 < st_n σ + 1; omega)
      have e2 : pB (au_b A (st_n σ + 1) q) (st_n σ + 1) = some q := by rw [pB_s (by omega)]; exact congrArg some up1_s
      have e3 : pB (au_b A (st_n σ + 1) q) 1 = some q := by rw [← e2, e]
      show _ = some (Sum.inr (8, [va_rf (pB (au_b A (st_n σ + 1) q) (nxt (st_n (su_rc σ k)) 0)), va_rf (pB (au_b A (st_n σ + 1) q) (st_n σ + 1)), _, _, _, _, _, _, _, _, _]))
      rw [e1, e3, e2]
      rfl
    · rw [va_up_ne _ _ hq0, va_up_ne _ _ hq0, va_up_self]
    · rw [va_up_ne _ _ x2, va_up_ne _ _ x2, va_up_ne _ _ x1, va_up_ne _ _ x2]
    · have x2 := x2 0 (by decide)
      rw [va_up_ne _ _ x2, va_up_ne _ _ x2, va_up_ne _ _ x1, va_up_ne _ _ x2]
  · have eB : pB A (st_n σ) = some (aB A (st_n σ)) := pB_s e
    rw [eB]
    have B := c.2.2.2.2.2.2.2.1 (st_n σ) (by omega) (Nat.le_refl _)
    have hbq : aB A (st_n σ) ≠ q := fun z => by rw [z, hq1] at B; cases B
    have hb0 : aB A (st_n σ) ≠ aK A 0 := c.bK (by omega) (Nat.le_refl _) (by decide)
    have en : nxt (st_n σ) (st_n σ) = 0 := nxt_ge (by omega)
    rw [en, pB_0] at B
    first | refine mx_astore_n C dX8_record_33 (pc' := 34) rfl (by first | exact mx_c1_0 | exact mx_c1_int rfl | exact mx_c1_ref rfl | exact mx_c1_none rfl | exact mx_c1_rf rfl | exact mx_c1_null rfl) (by decide) (lo' := [_, _, _]) rfl ?_ | refine mx_astore_nq C dX8_record_33 (pc' := 34) rfl (by first | exact mx_c1_0 | exact mx_c1_int rfl | exact mx_c1_ref rfl | exact mx_c1_none rfl | exact mx_c1_rf rfl | exact mx_c1_null rfl) (by decide) (lo' := [_, _, _]) rfl ?_
    first | refine mx_aload_n C dX8_record_34 (pc' := 35) rfl rfl ?_ | refine mx_aload_nq C dX8_record_34 (pc' := 35) rfl rfl ?_
    refine gX8_43 C dX8_record_35 (pc' := 38) rfl (by rw [va_up_ne _ _ (fun z => hq0 z.symm), va_up_self]) rfl ?_
    refine mx_stk (st' := [va_rf (some (aB A (st_n σ)))]) rfl ?_
    refine mx_ifnonnull C dX8_record_38 (tgt := 49) (by decide) (pc' := 41) rfl (fun h38_a h38 => ?_) (fun h38 => ?_)
    rotate_left
    · cases h38
    first | refine mx_aload_n C dX8_record_49 (pc' := 50) rfl rfl ?_ | refine mx_aload_nq C dX8_record_49 (pc' := 50) rfl rfl ?_
    refine gX8_43 C dX8_record_50 (pc' := 53) rfl (by rw [va_up_ne _ _ (fun z => hq0 z.symm), va_up_self]) rfl ?_
    first | refine mx_aload_n C dX8_record_53 (pc' := 54) rfl rfl ?_ | refine mx_aload_nq C dX8_record_53 (pc' := 54) rfl rfl ?_
    first | refine pX8_50 C dX8_record_54 (pc' := 57) rfl (by rw [va_up_ne _ _ hbq, va_up_ne _ _ hb0]; exact B) (Nat.le_of_ble_eq_true rfl) rfl rfl (fs' := [_, _, _, _, _, _, _, _]) rfl ?_ | refine pX8_50 C dX8_record_54 (pc' := 57) rfl (by rw [va_up_ne _ _ hbq, va_up_ne _ _ hb0]; exact B) (Nat.le_of_ble_eq_true rfl) (mx_nrf _ _) (mx_frf _ _) (fs' := [_, _, _, _, _, _, _, _]) rfl ?_
    first | refine mx_aload_n C dX8_record_57 (pc' := 58) rfl rfl ?_ | refine mx_aload_nq C dX8_record_57 (pc' := 58) rfl rfl ?_
    first | refine mx_aload_n C dX8_record_58 (pc' := 59) rfl rfl ?_ | refine mx_aload_nq C dX8_record_58 (pc' := 59) rfl rfl ?_
    first | refine pX8_43 C dX8_record_59 (pc' := 62) rfl (by rw [va_up_ne _ _ (fun z => hb0 z.symm), va_up_ne _ _ (fun z => hq0 z.symm), va_up_self]) (Nat.le_of_ble_eq_true rfl) rfl rfl (fs' := [_, _, _, _, _, _, _, _, _, _, _]) rfl ?_ | refine pX8_43 C dX8_record_59 (pc' := 62) rfl (by rw [va_up_ne _ _ (fun z => hb0 z.symm), va_up_ne _ _ (fun z => hq0 z.symm), va_up_self]) (Nat.le_of_ble_eq_true rfl) (mx_nrf _ _) (mx_frf _ _) (fs' := [_, _, _, _, _, _, _, _, _, _, _]) rfl ?_
    first | refine mx_aload_n C dX8_record_62 (pc' := 63) rfl rfl ?_ | refine mx_aload_nq C dX8_record_62 (pc' := 63) rfl rfl ?_
    refine gX8_53 C dX8_record_63 (pc' := 66) rfl (by rw [va_up_ne _ _ hq0, va_up_ne _ _ (fun z => hbq z.symm), va_up_self]) rfl ?_
    refine mx_iret C hr dX8_record_66 (by omega) (by omega) ⟨fun z => absurd h6 z, fun _ => ⟨rfl, q, _, _, _, hq1, c.rc h6 hq1 ?_ ?_ (fun _ => ?_) (fun x x1 x2 x3 => ?_), fun x x1 x2 x3 => ?_⟩⟩
    · rw [va_up_self]
      have e1 : nxt (st_n (su_rc σ k)) 0 = nxt (st_n σ) 0 := by rw [nxt_lt (show 0 < st_n σ by omega)]; exact nxt_lt (by show 0 < st_n σ + 1; omega)
      have e2 : pB (au_b A (st_n σ + 1) q) (st_n σ + 1) = some q := by rw [pB_s (by omega)]; exact congrArg some up1_s
      show _ = some (Sum.inr (8, [va_rf (pB (au_b A (st_n σ + 1) q) (nxt (st_n (su_rc σ k)) 0)), va_rf (pB (au_b A (st_n σ + 1) q) (st_n σ + 1)), _, _, _, _, _, _, _, _, _]))
      rw [e1, e2, pB_n (by rw [nxt_lt (show 0 < st_n σ by omega)]; omega)]
      rfl
    · rw [va_up_ne _ _ hq0, va_up_ne _ _ (fun z => hbq z.symm), va_up_self]
    · rw [va_up_ne _ _ hb0, va_up_self]
    · rw [va_up_ne _ _ x2, va_up_ne _ _ (x3 e), va_up_ne _ _ x1, va_up_ne _ _ x2]
    · have x2 := x2 0 (by decide)
      rw [va_up_ne _ _ x2, va_up_ne _ _ (x3 _ (by omega) (Nat.le_refl _)), va_up_ne _ _ x1, va_up_ne _ _ x2]
theorem c_X8_field (h : mx_H) {A : mxA} {σ : mxS} {la ea : Nat → Nat} {mk : Nat → Bool} (c : CI G A h σ la ea mk) {a k : Int32} {r : Nat} (hr0 : ixS σ a = r) :
    mx_M l G base yX8_field cX8_field 5 (some .int) 2 47 2 66 [.ref (aK A 0), .int a, .int k] h (fun v h' => (¬ (r ≠ 0 ∧ ¬ k < 0 ∧ ¬ nI 9 < k ∧ st_k σ < 200) → v = some (.int (nI 0)) ∧ h = h') ∧ (r ≠ 0 ∧ ¬ k < 0 ∧ ¬ nI 9 < k ∧ st_k σ < 200 → v = some (.int (nI (st_k σ + 1))) ∧ ∃ q q2, h q = none ∧ h q2 = none ∧ q ≠ q2 ∧ CI G (au_t A (st_k σ + 1) q q2) h' (su_fl σ r k.toInt.toNat) la ea mk ∧ ∀ x, x ≠ q → x ≠ q2 → (∀ i, i < 23 → x ≠ aK A i) → (∀ f, 1 ≤ f → f ≤ st_k σ → x ≠ aT A f) → h' x = h x)) := by
  have hn := c.1.2.1
  have c3 := c.2.2.1
  have hle := @ixS_le σ a
  rw [hr0] at hle
  refine mx_enter (lo := [some (.ref (aK A 0)), some (.int a), some (.int k), none, none]) (by decide) (mx_in wd_code_yX8_field rfl) (Nat.le_of_ble_eq_true rfl) rfl ?_
  intro p ev s mt args below meth cd C hr hnm
  have C : mx_C p s mt args meth cd cX8_field 5 RX8 G base := C
  first | refine mx_aload_n C dX8_field_0 (pc' := 1) rfl rfl ?_ | refine mx_aload_nq C dX8_field_0 (pc' := 1) rfl rfl ?_
  refine mx_iload_n C dX8_field_1 (pc' := 2) rfl rfl ?_
  refine cX8_56 C dX8_field_2 (pc' := 5) rfl (c.2.2.1) (c_X8_standingBook l G base h c) ⟨by decide, by decide, by decide, by decide, Nat.le_of_ble_eq_true rfl⟩ ?_
  rintro _ _ ⟨rfl, rfl⟩
  first | refine mx_astore_n C dX8_field_5 (pc' := 6) rfl (by first | exact mx_c1_0 | exact mx_c1_int rfl | exact mx_c1_ref rfl | exact mx_c1_none rfl | exact mx_c1_rf rfl | exact mx_c1_null rfl) (by decide) (lo' := [_, _, _, _, _]) rfl ?_ | refine mx_astore_nq C dX8_field_5 (pc' := 6) rfl (by first | exact mx_c1_0 | exact mx_c1_int rfl | exact mx_c1_ref rfl | exact mx_c1_none rfl | exact mx_c1_rf rfl | exact mx_c1_null rfl) (by decide) (lo' := [_, _, _, _, _]) rfl ?_
  first | refine mx_aload_n C dX8_field_6 (pc' := 7) rfl rfl ?_ | refine mx_aload_nq C dX8_field_6 (pc' := 7) rfl rfl ?_
  rw [hr0]
  by_cases er : r = 0
  · subst er
    rw [pB_0]
    refine mx_ifnull C dX8_field_7 (tgt := 30) (by decide) (pc' := 10) rfl (fun h7 => ?_) (fun h7_a h7 => ?_)
    · skip
      refine mx_iconst C (v := nI 0) (by decide) dX8_field_30 (pc' := 31) rfl ?_
      exact mx_iret C hr dX8_field_31 (by omega) (by omega) (⟨fun _ => ⟨rfl, rfl⟩, fun z => absurd rfl z.1⟩)
    · cases h7
  rw [pB_s er]
  refine mx_ifnull C dX8_field_7 (tgt := 30) (by decide) (pc' := 10) rfl (fun h7 => ?_) (fun h7_a h7 => ?_)
  · cases h7
  refine mx_iload_n C dX8_field_10 (pc' := 11) rfl rfl ?_
  refine mx_if_lt C dX8_field_11 (tgt := 30) (by decide) (pc' := 14) rfl (fun h11 => ?_) (fun h11 => ?_)
  · skip
    refine mx_iconst C (v := nI 0) (by decide) dX8_field_30 (pc' := 31) rfl ?_
    exact mx_iret C hr dX8_field_31 (by omega) (by omega) (⟨fun _ => ⟨rfl, rfl⟩, fun z => absurd h11 z.2.1⟩)
  refine mx_iload_n C dX8_field_14 (pc' := 15) rfl rfl ?_
  refine mx_bipush C (v := nI 9) (by decide) dX8_field_15 (pc' := 17) rfl ?_
  refine mx_icmp_gt C dX8_field_17 (tgt := 30) (by decide) (pc' := 20) rfl (fun h17 => ?_) (fun h17 => ?_)
  · skip
    refine mx_iconst C (v := nI 0) (by decide) dX8_field_30 (pc' := 31) rfl ?_
    exact mx_iret C hr dX8_field_31 (by omega) (by omega) (⟨fun _ => ⟨rfl, rfl⟩, fun z => absurd h17 z.2.2.1⟩)
  first | refine mx_aload_n C dX8_field_20 (pc' := 21) rfl rfl ?_ | refine mx_aload_nq C dX8_field_20 (pc' := 21) rfl rfl ?_
  refine gX8_60 C dX8_field_21 (pc' := 24) rfl (c3) rfl ?_
  refine mx_sipush C (v := nI 200) (by decide) dX8_field_24 (pc' := 27) rfl ?_
  refine mx_N_lt C dX8_field_27 (tgt := 32) (by decide) (pc' := 30) rfl (by omega) (by omega) (fun h27 => ?_) (fun h27 => ?_)
  rotate_left
  · skip
    refine mx_iconst C (v := nI 0) (by decide) dX8_field_30 (pc' := 31) rfl ?_
    exact mx_iret C hr dX8_field_31 (by omega) (by omega) (⟨fun _ => ⟨rfl, rfl⟩, fun z => absurd z.2.2.2 (by omega)⟩)
  obtain ⟨g, hg, ek⟩ : ∃ g : Nat, g ≤ 9 ∧ k = nI g := nI_of2 (M := nI 9) (n := 9) (by decide) h11 (Int32.not_lt.mp h17)
  have eg : k.toInt.toNat = g := by rw [ek, nI_toInt (by omega)]; rfl
  rw [eg]
  subst ek
  have hall : r ≠ 0 ∧ ¬ nI g < 0 ∧ ¬ nI 9 < nI g ∧ st_k σ < 200 := ⟨er, h11, h17, h27⟩
  first | refine mx_aload_n C dX8_field_32 (pc' := 33) rfl rfl ?_ | refine mx_aload_nq C dX8_field_32 (pc' := 33) rfl rfl ?_
  refine mx_dup C rfl dX8_field_33 (pc' := 34) rfl ?_
  refine gX8_60 C dX8_field_34 (pc' := 37) rfl (c3) rfl ?_
  refine mx_iconst C (v := nI 1) (by decide) dX8_field_37 (pc' := 38) rfl ?_
  refine mx_iadd C dX8_field_38 (pc' := 39) rfl ?_
  rw [nI_add]
  refine pX8_60 C dX8_field_39 (pc' := 42) rfl (c3) (Nat.le_of_ble_eq_true rfl) rfl rfl (fs' := [_, _, _, _, _, _, _, _, _, _, _]) rfl ?_
  refine nX8_63 C dX8_field_42 (pc' := 45) rfl (by decide) (by decide) ?_
  intro q hq
  have hq0 : q ≠ aK A 0 := fun z => by rw [z, va_up_self] at hq; cases hq
  have hq1 : h q = none := by rw [va_up_ne _ _ hq0] at hq; exact hq
  refine mx_dup C rfl dX8_field_45 (pc' := 46) rfl ?_
  first | refine mx_aload_n C dX8_field_46 (pc' := 47) rfl rfl ?_ | refine mx_aload_nq C dX8_field_46 (pc' := 47) rfl rfl ?_
  refine gX8_60 C dX8_field_47 (pc' := 50) rfl (by rw [va_up_ne _ _ (fun z => hq0 z.symm), va_up_self]) rfl ?_
  refine mx_iload_n C dX8_field_50 (pc' := 51) rfl rfl ?_
  first | refine mx_aload_n C dX8_field_51 (pc' := 52) rfl rfl ?_ | refine mx_aload_nq C dX8_field_51 (pc' := 52) rfl rfl ?_
  refine cX8_65 C dX8_field_52 (pc' := 55) rfl (c_X6_init l G base _ (va_up_self _ _ _)) ⟨by decide, by decide, by decide, by decide, Nat.le_of_ble_eq_true rfl⟩ ?_
  rintro _ _ ⟨rfl, q2, hq2, hq2q, rfl⟩
  have hq20 : q2 ≠ aK A 0 := fun z => by rw [z, va_up_ne _ _ (fun z => hq0 z.symm), va_up_self] at hq2; cases hq2
  have hq21 : h q2 = none := by rw [va_up_ne _ _ hq2q, va_up_ne _ _ hq20] at hq2; exact hq2
  have hqq2 : q ≠ q2 := fun z => hq2q z.symm
  have h0q2 : aK A 0 ≠ q2 := fun z => hq20 z.symm
  have h0q : aK A 0 ≠ q := fun z => hq0 z.symm
  by_cases e : st_k σ = 0
  · have eB : pT A (st_k σ) = none := by rw [e]; rfl
    rw [eB]
    first | refine mx_astore C dX8_field_55 (pc' := 57) rfl (by first | exact mx_c1_0 | exact mx_c1_int rfl | exact mx_c1_ref rfl | exact mx_c1_none rfl | exact mx_c1_rf rfl | exact mx_c1_null rfl) (by decide) (lo' := [_, _, _, _, _]) rfl ?_ | refine mx_astoreq C dX8_field_55 (pc' := 57) rfl (by first | exact mx_c1_0 | exact mx_c1_int rfl | exact mx_c1_ref rfl | exact mx_c1_none rfl | exact mx_c1_rf rfl | exact mx_c1_null rfl) (by decide) (lo' := [_, _, _, _, _]) rfl ?_
    first | refine mx_aload_n C dX8_field_57 (pc' := 58) rfl rfl ?_ | refine mx_aload_nq C dX8_field_57 (pc' := 58) rfl rfl ?_
    refine gX8_68 C dX8_field_58 (pc' := 61) rfl (by rw [va_up_ne _ _ h0q2, va_up_ne _ _ h0q, va_up_ne _ _ h0q, va_up_self]) rfl ?_
    refine mx_stk (st' := [va_rf none]) rfl ?_
    refine mx_ifnonnull C dX8_field_61 (tgt := 73) (by decide) (pc' := 64) rfl (fun h61_a h61 => ?_) (fun h61 => ?_)
    · cases h61
    first | refine mx_aload_n C dX8_field_64 (pc' := 65) rfl rfl ?_ | refine mx_aload_nq C dX8_field_64 (pc' := 65) rfl rfl ?_
    first | refine mx_aload C dX8_field_65 (pc' := 67) rfl rfl ?_ | refine mx_aloadq C dX8_field_65 (pc' := 67) rfl rfl ?_
    first | refine pX8_72 C dX8_field_67 (pc' := 70) rfl (by rw [va_up_ne _ _ h0q2, va_up_ne _ _ h0q, va_up_ne _ _ h0q, va_up_self]) (Nat.le_of_ble_eq_true rfl) rfl rfl (fs' := [_, _, _, _, _, _, _, _, _, _, _]) rfl ?_ | refine pX8_72 C dX8_field_67 (pc' := 70) rfl (by rw [va_up_ne _ _ h0q2, va_up_ne _ _ h0q, va_up_ne _ _ h0q, va_up_self]) (Nat.le_of_ble_eq_true rfl) (mx_nrf _ _) (mx_frf _ _) (fs' := [_, _, _, _, _, _, _, _, _, _, _]) rfl ?_
    refine mx_goto C dX8_field_70 (tgt := 82) (by decide) ?_
    first | refine mx_aload_n C dX8_field_82 (pc' := 83) rfl rfl ?_ | refine mx_aload_nq C dX8_field_82 (pc' := 83) rfl rfl ?_
    first | refine mx_aload C dX8_field_83 (pc' := 85) rfl rfl ?_ | refine mx_aloadq C dX8_field_83 (pc' := 85) rfl rfl ?_
    first | refine pX8_68 C dX8_field_85 (pc' := 88) rfl (va_up_self _ _ _) (Nat.le_of_ble_eq_true rfl) rfl rfl (fs' := [_, _, _, _, _, _, _, _, _, _, _]) rfl ?_ | refine pX8_68 C dX8_field_85 (pc' := 88) rfl (va_up_self _ _ _) (Nat.le_of_ble_eq_true rfl) (mx_nrf _ _) (mx_frf _ _) (fs' := [_, _, _, _, _, _, _, _, _, _, _]) rfl ?_
    first | refine mx_aload C dX8_field_88 (pc' := 90) rfl rfl ?_ | refine mx_aloadq C dX8_field_88 (pc' := 90) rfl rfl ?_
    refine gX8_77 C dX8_field_90 (pc' := 93) rfl (by rw [va_up_ne _ _ hq0, va_up_ne _ _ hq0, va_up_ne _ _ hqq2, va_up_self]) rfl ?_
    refine mx_iret C hr dX8_field_93 (by omega) (by omega) ⟨fun z => absurd hall z, fun _ => ⟨rfl, q, q2, hq1, hq21, hqq2, c.fl h27 (show 1 ≤ r by omega) hle hg hq1 hq21 ?_ ?_ ?_ (fun z => absurd e z) (fun x x1 x2 x3 x4 => ?_), fun x x1 x2 x3 x4 => ?_⟩⟩
    · rw [va_up_self]
      have e1 : nxt (st_k (su_fl σ r g)) 0 = 1 := nxt_lt (by show 0 < st_k σ + 1; omega)
      have e2 : pT (au_t A (st_k σ + 1) q q2) (st_k σ + 1) = some q := by rw [pT_s (by omega)]; exact congrArg some up1_s
      have e3 : pT (au_t A (st_k σ + 1) q q2) 1 = some q := by rw [← e2, e]
      show _ = some (Sum.inr (8, [_, _, _, va_rf (pT (au_t A (st_k σ + 1) q q2) (nxt (st_k (su_fl σ r g)) 0)), va_rf (pT (au_t A (st_k σ + 1) q q2) (st_k σ + 1)), _, _, _, _, _, _]))
      rw [e1, e3, e2]
      rfl
    · rw [va_up_ne _ _ hq0, va_up_ne _ _ hq0, va_up_ne _ _ hqq2, va_up_self]
    · rw [va_up_ne _ _ hq20, va_up_ne _ _ hq20, va_up_self]
    · rw [va_up_ne _ _ x3, va_up_ne _ _ x3, va_up_ne _ _ x2, va_up_ne _ _ x1, va_up_ne _ _ x1, va_up_ne _ _ x3]
    · have x3 := x3 0 (by decide)
      rw [va_up_ne _ _ x3, va_up_ne _ _ x3, va_up_ne _ _ x2, va_up_ne _ _ x1, va_up_ne _ _ x1, va_up_ne _ _ x3]
  · have eB : pT A (st_k σ) = some (aT A (st_k σ)) := pT_s e
    rw [eB]
    have B := (c.2.2.2.2.2.2.2.2.1 (st_k σ) (by omega) (Nat.le_refl _)).2.1
    have hbq : aT A (st_k σ) ≠ q := fun z => by rw [z, hq1] at B; cases B
    have hbq2 : aT A (st_k σ) ≠ q2 := fun z => by rw [z, hq21] at B; cases B
    have hb0 : aT A (st_k σ) ≠ aK A 0 := c.tK (by omega) (Nat.le_refl _) (by decide)
    have en : nxt (st_k σ) (st_k σ) = 0 := nxt_ge (by omega)
    rw [en, pT_0] at B
    first | refine mx_astore C dX8_field_55 (pc' := 57) rfl (by first | exact mx_c1_0 | exact mx_c1_int rfl | exact mx_c1_ref rfl | exact mx_c1_none rfl | exact mx_c1_rf rfl | exact mx_c1_null rfl) (by decide) (lo' := [_, _, _, _, _]) rfl ?_ | refine mx_astoreq C dX8_field_55 (pc' := 57) rfl (by first | exact mx_c1_0 | exact mx_c1_int rfl | exact mx_c1_ref rfl | exact mx_c1_none rfl | exact mx_c1_rf rfl | exact mx_c1_null rfl) (by decide) (lo' := [_, _, _, _, _]) rfl ?_
    first | refine mx_aload_n C dX8_field_57 (pc' := 58) rfl rfl ?_ | refine mx_aload_nq C dX8_field_57 (pc' := 58) rfl rfl ?_
    refine gX8_68 C dX8_field_58 (pc' := 61) rfl (by rw [va_up_ne _ _ h0q2, va_up_ne _ _ h0q, va_up_ne _ _ h0q, va_up_self]) rfl ?_
    refine mx_stk (st' := [va_rf (some (aT A (st_k σ)))]) rfl ?_
    refine mx_ifnonnull C dX8_field_61 (tgt := 73) (by decide) (pc' := 64) rfl (fun h61_a h61 => ?_) (fun h61 => ?_)
    rotate_left
    · cases h61
    first | refine mx_aload_n C dX8_field_73 (pc' := 74) rfl rfl ?_ | refine mx_aload_nq C dX8_field_73 (pc' := 74) rfl rfl ?_
    refine gX8_68 C dX8_field_74 (pc' := 77) rfl (by rw [va_up_ne _ _ h0q2, va_up_ne _ _ h0q, va_up_ne _ _ h0q, va_up_self]) rfl ?_
    first | refine mx_aload C dX8_field_77 (pc' := 79) rfl rfl ?_ | refine mx_aloadq C dX8_field_77 (pc' := 79) rfl rfl ?_
    first | refine pX8_75 C dX8_field_79 (pc' := 82) rfl (by rw [va_up_ne _ _ hbq2, va_up_ne _ _ hbq, va_up_ne _ _ hbq, va_up_ne _ _ hb0]; exact B) (Nat.le_of_ble_eq_true rfl) rfl rfl (fs' := [_, _, _, _, _, _]) rfl ?_ | refine pX8_75 C dX8_field_79 (pc' := 82) rfl (by rw [va_up_ne _ _ hbq2, va_up_ne _ _ hbq, va_up_ne _ _ hbq, va_up_ne _ _ hb0]; exact B) (Nat.le_of_ble_eq_true rfl) (mx_nrf _ _) (mx_frf _ _) (fs' := [_, _, _, _, _, _]) rfl ?_
    first | refine mx_aload_n C dX8_field_82 (pc' := 83) rfl rfl ?_ | refine mx_aload_nq C dX8_field_82 (pc' := 83) rfl rfl ?_
    first | refine mx_aload C dX8_field_83 (pc' := 85) rfl rfl ?_ | refine mx_aloadq C dX8_field_83 (pc' := 85) rfl rfl ?_
    first | refine pX8_68 C dX8_field_85 (pc' := 88) rfl (by rw [va_up_ne _ _ (fun z => hb0 z.symm), va_up_ne _ _ h0q2, va_up_ne _ _ h0q, va_up_ne _ _ h0q, va_up_self]) (Nat.le_of_ble_eq_true rfl) rfl rfl (fs' := [_, _, _, _, _, _, _, _, _, _, _]) rfl ?_ | refine pX8_68 C dX8_field_85 (pc' := 88) rfl (by rw [va_up_ne _ _ (fun z => hb0 z.symm), va_up_ne _ _ h0q2, va_up_ne _ _ h0q, va_up_ne _ _ h0q, va_up_self]) (Nat.le_of_ble_eq_true rfl) (mx_nrf _ _) (mx_frf _ _) (fs' := [_, _, _, _, _, _, _, _, _, _, _]) rfl ?_
    first | refine mx_aload C dX8_field_88 (pc' := 90) rfl rfl ?_ | refine mx_aloadq C dX8_field_88 (pc' := 90) rfl rfl ?_
    refine gX8_77 C dX8_field_90 (pc' := 93) rfl (by rw [va_up_ne _ _ hq0, va_up_ne _ _ (fun z => hbq z.symm), va_up_ne _ _ hqq2, va_up_self]) rfl ?_
    refine mx_iret C hr dX8_field_93 (by omega) (by omega) ⟨fun z => absurd hall z, fun _ => ⟨rfl, q, q2, hq1, hq21, hqq2, c.fl h27 (show 1 ≤ r by omega) hle hg hq1 hq21 ?_ ?_ ?_ (fun _ => ?_) (fun x x1 x2 x3 x4 => ?_), fun x x1 x2 x3 x4 => ?_⟩⟩
    · rw [va_up_self]
      have e1 : nxt (st_k (su_fl σ r g)) 0 = nxt (st_k σ) 0 := by rw [nxt_lt (show 0 < st_k σ by omega)]; exact nxt_lt (by show 0 < st_k σ + 1; omega)
      have e2 : pT (au_t A (st_k σ + 1) q q2) (st_k σ + 1) = some q := by rw [pT_s (by omega)]; exact congrArg some up1_s
      show _ = some (Sum.inr (8, [_, _, _, va_rf (pT (au_t A (st_k σ + 1) q q2) (nxt (st_k (su_fl σ r g)) 0)), va_rf (pT (au_t A (st_k σ + 1) q q2) (st_k σ + 1)), _, _, _, _, _, _]))
      rw [e1, e2, pT_n (by rw [nxt_lt (show 0 < st_k σ by omega)]; omega)]
      rfl
    · rw [va_up_ne _ _ hq0, va_up_ne _ _ (fun z => hbq z.symm), va_up_ne _ _ hqq2, va_up_self]
    · rw [va_up_ne _ _ hq20, va_up_ne _ _ (fun z => hbq2 z.symm), va_up_self]
    · rw [va_up_ne _ _ hb0, va_up_self]
    · rw [va_up_ne _ _ x3, va_up_ne _ _ (x4 e), va_up_ne _ _ x2, va_up_ne _ _ x1, va_up_ne _ _ x1, va_up_ne _ _ x3]
    · have x3 := x3 0 (by decide)
      rw [va_up_ne _ _ x3, va_up_ne _ _ (x4 _ (by omega) (Nat.le_refl _)), va_up_ne _ _ x2, va_up_ne _ _ x1, va_up_ne _ _ x1, va_up_ne _ _ x3]
end MK
