/-! merge, undo, record, field -/
def su_mg (σ : mxS) (w g : Nat) : mxS := ((σ.1.1, σ.1.2.1, σ.1.2.2.1 + 1, σ.1.2.2.2), (σ.2.1.1, σ.2.1.2.1, (fun q => if q = g then w else σ.2.1.2.2.1 q), (fun q => if q = g then σ.1.2.2.1 + 1 else σ.2.1.2.2.2 q)), σ.2.2)
def su_un (σ : mxS) (g : Nat) : mxS := (σ.1, (σ.2.1.1, σ.2.1.2.1, (fun q => if q = g then 0 else σ.2.1.2.2.1 q), σ.2.1.2.2.2), σ.2.2)
def su_rc (σ : mxS) (k : Int32) : mxS := ((σ.1.1 + 1, σ.1.2), ((fun q => if q = σ.1.1 + 1 then k else σ.2.1.1 q), σ.2.1.2), σ.2.2)
def su_fl (σ : mxS) (r g : Nat) : mxS := ((σ.1.1, σ.1.2.1 + 1, σ.1.2.2), σ.2.1, ((fun q => if q = σ.1.2.1 + 1 then g else σ.2.2.1.1 q), (fun q => if q = σ.1.2.1 + 1 then r else σ.2.2.1.2.1 q), σ.2.2.1.2.2), σ.2.2.2)
def up1 (f : Nat → Nat) (k v : Nat) : Nat → Nat := fun q => if q = k then v else f q
theorem up1_s {f : Nat → Nat} {k v : Nat} : up1 f k v k = v := if_pos rfl
theorem up1_n {f : Nat → Nat} {k v q : Nat} (h : q ≠ k) : up1 f k v q = f q := if_neg h
theorem mg_in {σ : mxS} {w g q : Nat} : st_in (su_mg σ w g) q = if q = g then w else st_in σ q := rfl
theorem mg_wh {σ : mxS} {w g q : Nat} : st_wh (su_mg σ w g) q = if q = g then st_m σ + 1 else st_wh σ q := rfl
theorem mg_ins {σ : mxS} {w g : Nat} : st_in (su_mg σ w g) g = w := if_pos rfl
theorem mg_inn {σ : mxS} {w g q : Nat} (h : q ≠ g) : st_in (su_mg σ w g) q = st_in σ q := if_neg h
theorem mg_whs {σ : mxS} {w g : Nat} : st_wh (su_mg σ w g) g = st_m σ + 1 := if_pos rfl
theorem mg_whn {σ : mxS} {w g q : Nat} (h : q ≠ g) : st_wh (su_mg σ w g) q = st_wh σ q := if_neg h
theorem si_mg {σ : mxS} (h : si σ) {w g : Nat} (w1 : 1 ≤ w) (w2 : w ≤ st_n σ) (g1 : 1 ≤ g) (g2 : g ≤ st_n σ) (hw : st_in σ w = 0) (hg : st_in σ g = 0) (hne : w ≠ g) (hm : st_m σ + 1 < 2 ^ 30) : si (su_mg σ w g) := by
  obtain ⟨a1, a2, a3, a4, ⟨a5, a5b, a5c⟩, a6, a7, a8⟩ := h
  refine ⟨a1, a2, hm, a4, ⟨fun r r1 r2 => ?_, fun r r' r1 r2 r3 r4 e1 e2 e3 => ?_, fun q hq => ⟨?_, (a5c q hq).2⟩⟩, a6, a7, a8⟩
  · have r2 : r ≤ st_n σ := r2
    show st_in (su_mg σ w g) r ≤ st_n σ ∧ (st_in (su_mg σ w g) r ≠ 0 → 1 ≤ st_wh (su_mg σ w g) r ∧ st_wh (su_mg σ w g) r ≤ st_m σ + 1 ∧ (st_in (su_mg σ w g) (st_in (su_mg σ w g) r) ≠ 0 → st_wh (su_mg σ w g) r < st_wh (su_mg σ w g) (st_in (su_mg σ w g) r)))
    by_cases e : r = g
    · subst e
      rw [mg_ins, mg_whs, mg_inn hne]
      exact ⟨w2, fun _ => ⟨by omega, by omega, fun z => absurd hw z⟩⟩
    · rw [mg_inn e, mg_whn e]
      obtain ⟨b1, b2⟩ := a5 r r1 r2
      refine ⟨b1, fun z => ?_⟩
      obtain ⟨b3, b4, b5⟩ := b2 z
      refine ⟨b3, by omega, fun z2 => ?_⟩
      by_cases e2 : st_in σ r = g
      · rw [e2, mg_whs]; omega
      · rw [mg_inn e2] at z2
        rw [mg_whn e2]; exact b5 z2
  · have r2 : r ≤ st_n σ := r2
    have r4 : r' ≤ st_n σ := r4
    by_cases e : r = g
    · by_cases e' : r' = g
      · omega
      · rw [e, mg_whs, mg_whn e'] at e3
        rw [mg_inn e'] at e2
        have := ((a5 r' r3 r4).2 e2).2.1
        omega
    · by_cases e' : r' = g
      · rw [e', mg_whs, mg_whn e] at e3
        rw [mg_inn e] at e1
        have := ((a5 r r1 r2).2 e1).2.1
        omega
      · rw [mg_inn e] at e1
        rw [mg_inn e'] at e2
        rw [mg_whn e, mg_whn e'] at e3
        exact a5b r r' r1 r2 r3 r4 e1 e2 e3
  · have hq : st_n σ < q := hq
    rw [mg_inn (by omega)]
    exact (a5c q hq).1
theorem ch_mg {σ : mxS} (h : si σ) {la ea : Nat → Nat} (hc : ci_ch σ la ea) {w g : Nat} (w1 : 1 ≤ w) (w2 : w ≤ st_n σ) (g1 : 1 ≤ g) (g2 : g ≤ st_n σ) (hw : st_in σ w = 0) (hg : st_in σ g = 0) (hne : w ≠ g) : ci_ch (su_mg σ w g) (up1 la w g) (up1 ea g (la w)) := by
  obtain ⟨c1, c2⟩ := hc
  have a5 := h.2.2.2.2.1.1
  have hlw := c1 w w1 w2
  refine ⟨fun r r1 r2 => ?_, fun r r1 r2 => ?_⟩
  · have r2 : r ≤ st_n σ := r2
    obtain ⟨d1, d2, d3, d4⟩ := c1 r r1 r2
    refine ⟨?_, ?_, fun z q q1 q2 => ?_, fun z => ?_⟩
    · show up1 la w g r ≤ st_n σ
      unfold up1; split <;> omega
    · show up1 ea g (la w) r ≤ st_n σ
      unfold up1; split <;> omega
    · by_cases e : r = w
      · subst e; rw [up1_s] at z; omega
      · rw [up1_n e] at z
        by_cases e2 : q = g
        · subst e2; rw [mg_ins]; exact fun z => e z.symm
        · rw [mg_inn e2]; exact d3 z q q1 q2
    · by_cases e : r = w
      · subst e
        rw [up1_s, mg_ins, mg_whs]
        refine ⟨rfl, fun q q1 q2 z2 => ?_⟩
        by_cases e2 : q = g
        · subst e2; rw [mg_whs]; omega
        · rw [mg_inn e2] at z2
          rw [mg_whn e2]
          have := ((a5 q q1 q2).2 (by omega)).2.1
          omega
      · rw [up1_n e] at z ⊢
        obtain ⟨f1, f2⟩ := d4 z
        have e2 : la r ≠ g := fun z => by rw [z, hg] at f1; omega
        rw [mg_inn e2, mg_whn e2]
        refine ⟨f1, fun q q1 q2 z2 => ?_⟩
        by_cases e3 : q = g
        · subst e3; rw [mg_ins] at z2; exact absurd z2.symm e
        · rw [mg_inn e3] at z2; rw [mg_whn e3]; exact f2 q q1 q2 z2
  · have r2 : r ≤ st_n σ := r2
    obtain ⟨d1, d2⟩ := c2 r r1 r2
    by_cases e : r = g
    · subst e
      rw [mg_ins, mg_whs, up1_s]
      refine ⟨fun z => by omega, fun _ => ⟨fun z q q1 q2 z2 => ?_, fun z => ?_⟩⟩
      · by_cases e2 : q = r
        · subst e2; rw [mg_whs]; omega
        · rw [mg_inn e2] at z2; exact absurd z2 (hlw.2.2.1 z q q1 q2)
      · obtain ⟨f1, f2⟩ := hlw.2.2.2 z
        have e2 : la w ≠ r := fun z => by rw [z, hg] at f1; omega
        rw [mg_inn e2, mg_whn e2]
        have l1 := hlw.1
        have := ((a5 (la w) (by omega) l1).2 (by omega)).2.1
        refine ⟨f1, by omega, fun q q1 q2 z2 z3 => ?_⟩
        by_cases e3 : q = r
        · subst e3; rw [mg_whs] at z3; omega
        · rw [mg_inn e3] at z2; rw [mg_whn e3]; exact f2 q q1 q2 z2
    · rw [mg_inn e, mg_whn e, up1_n e]
      refine ⟨d1, fun z => ?_⟩
      obtain ⟨f1, f2⟩ := d2 z
      have hwr := ((a5 r r1 r2).2 z).2.1
      refine ⟨fun z2 q q1 q2 z3 => ?_, fun z2 => ?_⟩
      · by_cases e3 : q = g
        · subst e3; rw [mg_whs]; omega
        · rw [mg_inn e3] at z3; rw [mg_whn e3]; exact f1 z2 q q1 q2 z3
      · obtain ⟨f3, f4, f5⟩ := f2 z2
        have e2 : ea r ≠ g := fun z5 => by rw [z5, hg] at f3; exact z f3.symm
        rw [mg_inn e2, mg_whn e2]
        refine ⟨f3, f4, fun q q1 q2 z3 z4 => ?_⟩
        by_cases e3 : q = g
        · subst e3; rw [mg_whs] at z4; omega
        · rw [mg_inn e3] at z3; rw [mg_whn e3] at z4 ⊢; exact f5 q q1 q2 z3 z4
theorem un_ins {σ : mxS} {g : Nat} : st_in (su_un σ g) g = 0 := if_pos rfl
theorem un_inn {σ : mxS} {g q : Nat} (h : q ≠ g) : st_in (su_un σ g) q = st_in σ q := if_neg h
theorem un_nz {σ : mxS} {g q : Nat} (h : st_in (su_un σ g) q ≠ 0) : q ≠ g ∧ st_in σ q ≠ 0 := by
  by_cases e : q = g
  · subst e; exact absurd un_ins h
  · rw [un_inn e] at h; exact ⟨e, h⟩
theorem si_un {σ : mxS} (h : si σ) {g : Nat} : si (su_un σ g) := by
  obtain ⟨a1, a2, a3, a4, ⟨a5, a5b, a5c⟩, a6, a7, a8⟩ := h
  refine ⟨a1, a2, a3, a4, ⟨fun r r1 r2 => ⟨?_, fun z => ?_⟩, fun r r' r1 r2 r3 r4 e1 e2 e3 => a5b r r' r1 r2 r3 r4 (un_nz e1).2 (un_nz e2).2 e3, fun q hq => ⟨?_, (a5c q hq).2⟩⟩, a6, a7, a8⟩
  · show (if r = g then 0 else st_in σ r) ≤ st_n σ
    have := (a5 r r1 r2).1
    split <;> omega
  · obtain ⟨z1, z2⟩ := un_nz z
    obtain ⟨b1, b2, b3⟩ := (a5 r r1 r2).2 z2
    refine ⟨b1, b2, fun z3 => ?_⟩
    rw [un_inn z1] at z3 ⊢
    exact b3 (un_nz z3).2
  · show (if q = g then 0 else st_in σ q) = 0
    have := (a5c q hq).1
    split <;> omega
theorem ch_un {σ : mxS} (h : si σ) {la ea : Nat → Nat} (hc : ci_ch σ la ea) {w : Nat} (w1 : 1 ≤ w) (w2 : w ≤ st_n σ) (hl : la w ≠ 0) : ci_ch (su_un σ (la w)) (up1 la w (ea (la w))) (up1 ea (la w) 0) := by
  obtain ⟨c1, c2⟩ := hc
  obtain ⟨-, a5b, -⟩ := h.2.2.2.2.1
  obtain ⟨l1, -, -, l4⟩ := c1 w w1 w2
  obtain ⟨l5, l6⟩ := l4 hl
  have lg1 : 1 ≤ la w := by omega
  obtain ⟨-, m1, -, -⟩ := c1 (la w) lg1 l1
  obtain ⟨-, m2⟩ := c2 (la w) lg1 l1
  obtain ⟨m3, m4⟩ := m2 (by omega)
  have hst : ∀ q, 1 ≤ q → q ≤ st_n σ → st_in σ q = w → q ≠ la w → st_wh σ q < st_wh σ (la w) := fun q q1 q2 z z2 => by
    have := l6 q q1 q2 z
    by_cases e : st_wh σ q = st_wh σ (la w)
    · exact absurd (a5b q (la w) q1 q2 lg1 l1 (by omega) (by omega) e) z2
    · omega
  refine ⟨fun r r1 r2 => ?_, fun r r1 r2 => ?_⟩
  · have r2 : r ≤ st_n σ := r2
    obtain ⟨d1, d2, d3, d4⟩ := c1 r r1 r2
    refine ⟨?_, ?_, fun z q q1 q2 => ?_, fun z => ?_⟩
    · show up1 la w (ea (la w)) r ≤ st_n σ
      unfold up1; split <;> omega
    · show up1 ea (la w) 0 r ≤ st_n σ
      unfold up1; split <;> omega
    · by_cases e2 : q = la w
      · subst e2; rw [un_ins]; omega
      · rw [un_inn e2]
        by_cases e : r = w
        · subst e
          rw [up1_s] at z
          intro z2
          have z3 := m3 z q q1 q2 (by omega)
          have := hst q q1 q2 z2 e2
          omega
        · rw [up1_n e] at z; exact d3 z q q1 q2
    · by_cases e : r = w
      · subst e
        rw [up1_s] at z ⊢
        obtain ⟨n1, n2, n3⟩ := m4 z
        have e3 : ea (la r) ≠ la r := fun z => by rw [z] at n2; omega
        rw [un_inn e3]
        refine ⟨by omega, fun q q1 q2 z2 => ?_⟩
        obtain ⟨z3, -⟩ := un_nz (show st_in (su_un σ (la r)) q ≠ 0 by omega)
        rw [un_inn z3] at z2
        exact n3 q q1 q2 (by omega) (hst q q1 q2 z2 z3)
      · rw [up1_n e] at z ⊢
        obtain ⟨f1, f2⟩ := d4 z
        have e2 : la r ≠ la w := fun z => by rw [z, l5] at f1; exact e f1.symm
        rw [un_inn e2]
        refine ⟨f1, fun q q1 q2 z2 => ?_⟩
        obtain ⟨z3, -⟩ := un_nz (show st_in (su_un σ (la w)) q ≠ 0 by omega)
        rw [un_inn z3] at z2
        exact f2 q q1 q2 z2
  · have r2 : r ≤ st_n σ := r2
    obtain ⟨d1, d2⟩ := c2 r r1 r2
    by_cases e : r = la w
    · subst e
      rw [un_ins, up1_s]
      exact ⟨fun _ => rfl, fun z => absurd rfl z⟩
    · rw [un_inn e, up1_n e]
      refine ⟨d1, fun z => ?_⟩
      obtain ⟨f1, f2⟩ := d2 z
      refine ⟨fun z2 q q1 q2 z3 => ?_, fun z2 => ?_⟩
      · obtain ⟨z4, -⟩ := un_nz (show st_in (su_un σ (la w)) q ≠ 0 by omega)
        rw [un_inn z4] at z3
        exact f1 z2 q q1 q2 z3
      · obtain ⟨f3, f4, f5⟩ := f2 z2
        have e2 : ea r ≠ la w := fun z5 => by
          rw [z5, l5] at f3
          rw [z5] at f4
          have := l6 r r1 r2 f3.symm
          omega
        rw [un_inn e2]
        refine ⟨f3, f4, fun q q1 q2 z3 z4 => ?_⟩
        obtain ⟨z5, -⟩ := un_nz (show st_in (su_un σ (la w)) q ≠ 0 by omega)
        rw [un_inn z5] at z3
        exact f5 q q1 q2 z3 z4
/-- two books change -/
theorem CI.two {G : mx_G} {A : mxA} {h h' : mx_H} {σ σ' : mxS} {la ea la' ea' : Nat → Nat} {mk : Nat → Bool} (c : CI G A h σ la ea mk) {x y : Nat} (x1 : 1 ≤ x) (x2 : x ≤ st_n σ) (y1 : 1 ≤ y) (y2 : y ≤ st_n σ) (hf : ∀ a, a ≠ aB A x → a ≠ aB A y → h' a = h a) (hs : si σ') (hch : ci_ch σ' la' ea') (e1 : σ'.1.1 = σ.1.1) (e2 : σ'.1.2.1 = σ.1.2.1) (e3 : σ'.1.2.2.2 = σ.1.2.2.2) (e4 : σ'.2.2 = σ.2.2) (hb : ci_bk A h' σ' la' ea' mk) : CI G A h' σ' la' ea' mk := by
  obtain ⟨c1, c2, c3, ⟨F, c4, c4b⟩, c5, ⟨R, n, k1, k2, k3, k4⟩, c7, c8, c9, c10⟩ := id c
  have eK : ∀ i, i < 23 → h' (aK A i) = h (aK A i) := fun i hi => hf _ (fun z => c.bK x1 x2 hi z.symm) (fun z => c.bK y1 y2 hi z.symm)
  obtain ⟨⟨n', k', m', f'⟩, b', d'⟩ := σ'
  obtain ⟨⟨n0, k0, m0, f0⟩, b0, d0⟩ := σ
  dsimp only at e1 e2 e3 e4
  subst e1; subst e2; subst e3; subst e4
  exact ⟨hs, c2, (eK 0 (by decide)).trans c3, ⟨F, (eK 1 (by decide)).trans c4, c4b⟩, c5.kept (fun i _ _ => eK i (by omega)), ⟨R, n, k1, k2, (eK 9 (by decide)).trans k3, (eK 10 (by decide)).trans k4⟩, c7.kept (fun i _ _ => eK i (by omega)), hb, fun f f1 f2 => (c9 f f1 f2).kept (hf _ (fun z => (c.bT x1 x2 f1 f2).1 z.symm) (fun z => (c.bT y1 y2 f1 f2).1 z.symm)) (hf _ (fun z => (c.bT x1 x2 f1 f2).2 z.symm) (fun z => (c.bT y1 y2 f1 f2).2 z.symm)), hch⟩
section P3
variable (l : Launch) (G : mx_G) (base : Nat)
set_option maxRecDepth 20000
/-- take, in the state's words -/
theorem CI.take {G : mx_G} {A : mxA} {h : mx_H} {σ : mxS} {la ea : Nat → Nat} {mk : Nat → Bool} (c : CI G A h σ la ea mk) {w g : Nat} (w1 : 1 ≤ w) (w2 : w ≤ st_n σ) (g1 : 1 ≤ g) (g2 : g ≤ st_n σ) (hw : st_in σ w = 0) (hg : st_in σ g = 0) (hne : w ≠ g) (hm : st_m σ + 1 < 2 ^ 30) :
    CI G A (va_up (va_up h (aB A g) (some (.inr (0, [.int (nI g), .int (st_rk σ g), .int (mx_b (st_lk σ g)), .int (mx_b (mk g)), va_rf (pB A (nxt (st_n σ) g)), .ref (aB A w), va_rf (pB A (la g)), va_rf (pB A (la w))])))) (aB A w) (some (.inr (0, [.int (nI w), .int (st_rk σ w), .int (mx_b (st_lk σ w)), .int (mx_b (mk w)), va_rf (pB A (nxt (st_n σ) w)), va_rf (pB A (st_in σ w)), .ref (aB A g), va_rf (pB A (ea w))])))) (su_mg σ w g) (up1 la w g) (up1 ea g (la w)) mk := by
  have c8 := c.2.2.2.2.2.2.2.1
  have hab : aB A g ≠ aB A w := fun z => hne (aB_inj c.1.1 c8 g1 g2 w1 w2 z).symm
  refine c.two g1 g2 w1 w2 (fun a a1 a2 => by rw [va_up_ne _ _ a2, va_up_ne _ _ a1]) (si_mg c.1 w1 w2 g1 g2 hw hg hne hm) (ch_mg c.1 c.2.2.2.2.2.2.2.2.2 w1 w2 g1 g2 hw hg hne) rfl rfl rfl rfl (fun r r1 r2 => ?_)
  have r2 : r ≤ st_n σ := r2
  by_cases e : r = w
  · subst e
    rw [va_up_self, mg_inn hne, up1_s, up1_n hne, pB_s (show g ≠ 0 by omega)]
    rfl
  · by_cases e2 : r = g
    · subst e2
      rw [va_up_ne _ _ hab, va_up_self, mg_ins, up1_s, up1_n e, pB_s (show w ≠ 0 by omega)]
      rfl
    · rw [va_up_ne _ _ (fun z => e (aB_inj c.1.1 c8 r1 r2 w1 w2 z)), va_up_ne _ _ (fun z => e2 (aB_inj c.1.1 c8 r1 r2 g1 g2 z)), mg_inn e2, up1_n e, up1_n e2]
      exact c8 r r1 r2
def ldr (σ : mxS) (x y : Nat) : Bool := decide (st_rk σ y < st_rk σ x ∨ (st_rk σ x = st_rk σ y ∧ x < y))
theorem c_X8_merge (h : mx_H) {A : mxA} {σ : mxS} {la ea : Nat → Nat} {mk : Nat → Bool} (c : CI G A h σ la ea mk) {a b : Int32} {x y : Nat} (hx0 : ixS σ a = x) (hy0 : ixS σ b = y) (hm : st_m σ + 1 < 2 ^ 30) :
    mx_M l G base yX8_merge cX8_merge 5 (some .int) 2 44 0 0 [.ref (aK A 0), .int a, .int b] h (fun v h' => (x = 0 ∨ y = 0 ∨ x = y ∨ (st_lk σ x = true ∧ st_lk σ y = true) → v = some (.int (nI 0)) ∧ h = h') ∧ (¬ (x = 0 ∨ y = 0 ∨ x = y ∨ (st_lk σ x = true ∧ st_lk σ y = true)) → v = some (.int (nI (if ldr σ x y then x else y))) ∧ OUT A σ h h' ∧ ∃ la' ea', CI G A h' (su_mg σ (if ldr σ x y then x else y) (if ldr σ x y then y else x)) la' ea' mk)) := by
  have hn := c.1.1
  have hlx := @ixS_le σ a
  have htx := @ixS_top σ a
  rw [hx0] at hlx htx
  have hly := @ixS_le σ b
  have hty := @ixS_top σ b
  rw [hy0] at hly hty
  have c8 := c.2.2.2.2.2.2.2.1
  refine mx_enter (lo := [some (.ref (aK A 0)), some (.int a), some (.int b), none, none]) (by decide) (mx_in wd_code_yX8_merge rfl) (Nat.le_of_ble_eq_true rfl) rfl ?_
  intro p ev s mt args below meth cd C hr hnm
  have C : mx_C p s mt args meth cd cX8_merge 5 RX8 G base := C
  first | refine mx_aload_n C dX8_merge_0 (pc' := 1) rfl rfl ?_ | refine mx_aload_nq C dX8_merge_0 (pc' := 1) rfl rfl ?_
  refine mx_iload_n C dX8_merge_1 (pc' := 2) rfl rfl ?_
  refine cX8_56 C dX8_merge_2 (pc' := 5) rfl (c.2.2.1) (c_X8_standingBook l G base h c) ⟨by decide, by decide, by decide, by decide, Nat.le_of_ble_eq_true rfl⟩ ?_
  rintro _ _ ⟨rfl, rfl⟩
  first | refine mx_astore_n C dX8_merge_5 (pc' := 6) rfl (by first | exact mx_c1_0 | exact mx_c1_int rfl | exact mx_c1_ref rfl | exact mx_c1_none rfl | exact mx_c1_rf rfl | exact mx_c1_null rfl) (by decide) (lo' := [_, _, _, _, _]) rfl ?_ | refine mx_astore_nq C dX8_merge_5 (pc' := 6) rfl (by first | exact mx_c1_0 | exact mx_c1_int rfl | exact mx_c1_ref rfl | exact mx_c1_none rfl | exact mx_c1_rf rfl | exact mx_c1_null rfl) (by decide) (lo' := [_, _, _, _, _]) rfl ?_
  first | refine mx_aload_n C dX8_merge_6 (pc' := 7) rfl rfl ?_ | refine mx_aload_nq C dX8_merge_6 (pc' := 7) rfl rfl ?_
  refine mx_iload_n C dX8_merge_7 (pc' := 8) rfl rfl ?_
  rw [hx0]
  refine cX8_56 C dX8_merge_8 (pc' := 11) rfl (c.2.2.1) (c_X8_standingBook l G base h c) ⟨by decide, by decide, by decide, by decide, Nat.le_of_ble_eq_true rfl⟩ ?_
  rintro _ _ ⟨rfl, rfl⟩
  first | refine mx_astore C dX8_merge_11 (pc' := 13) rfl (by first | exact mx_c1_0 | exact mx_c1_int rfl | exact mx_c1_ref rfl | exact mx_c1_none rfl | exact mx_c1_rf rfl | exact mx_c1_null rfl) (by decide) (lo' := [_, _, _, _, _]) rfl ?_ | refine mx_astoreq C dX8_merge_11 (pc' := 13) rfl (by first | exact mx_c1_0 | exact mx_c1_int rfl | exact mx_c1_ref rfl | exact mx_c1_none rfl | exact mx_c1_rf rfl | exact mx_c1_null rfl) (by decide) (lo' := [_, _, _, _, _]) rfl ?_
  first | refine mx_aload_n C dX8_merge_13 (pc' := 14) rfl rfl ?_ | refine mx_aload_nq C dX8_merge_13 (pc' := 14) rfl rfl ?_
  rw [hy0]
  by_cases ex : x = 0
  · subst ex
    rw [pB_0]
    refine mx_ifnull C dX8_merge_14 (tgt := 43) (by decide) (pc' := 17) rfl (fun h14 => ?_) (fun h14_a h14 => ?_)
    · skip
      refine mx_iconst C (v := nI 0) (by decide) dX8_merge_43 (pc' := 44) rfl ?_
      exact mx_iret C hr dX8_merge_44 (by omega) (by omega) (⟨fun _ => ⟨rfl, rfl⟩, fun z => absurd (Or.inl rfl) z⟩)
    · cases h14
  rw [pB_s ex]
  refine mx_ifnull C dX8_merge_14 (tgt := 43) (by decide) (pc' := 17) rfl (fun h14 => ?_) (fun h14_a h14 => ?_)
  · cases h14
  first | refine mx_aload C dX8_merge_17 (pc' := 19) rfl rfl ?_ | refine mx_aloadq C dX8_merge_17 (pc' := 19) rfl rfl ?_
  by_cases ey : y = 0
  · subst ey
    rw [pB_0]
    refine mx_ifnull C dX8_merge_19 (tgt := 43) (by decide) (pc' := 22) rfl (fun h19 => ?_) (fun h19_a h19 => ?_)
    · skip
      refine mx_iconst C (v := nI 0) (by decide) dX8_merge_43 (pc' := 44) rfl ?_
      exact mx_iret C hr dX8_merge_44 (by omega) (by omega) (⟨fun _ => ⟨rfl, rfl⟩, fun z => absurd (Or.inr (Or.inl rfl)) z⟩)
    · cases h19
  rw [pB_s ey]
  refine mx_ifnull C dX8_merge_19 (tgt := 43) (by decide) (pc' := 22) rfl (fun h19 => ?_) (fun h19_a h19 => ?_)
  · cases h19
  have x1 : 1 ≤ x := by omega
  have y1 : 1 ≤ y := by omega
  have Bx := c8 x x1 hlx
  have By := c8 y y1 hly
  have tx := (htx ex).1
  have ty := (hty ey).1
  first | refine mx_aload_n C dX8_merge_22 (pc' := 23) rfl rfl ?_ | refine mx_aload_nq C dX8_merge_22 (pc' := 23) rfl rfl ?_
  first | refine mx_aload C dX8_merge_23 (pc' := 25) rfl rfl ?_ | refine mx_aloadq C dX8_merge_23 (pc' := 25) rfl rfl ?_
  refine mx_stk (st' := [va_rf (some (aB A y)), va_rf (some (aB A x))]) rfl ?_
  refine mx_acmp_eq C dX8_merge_25 (tgt := 43) (by decide) (pc' := 28) rfl (fun h25 => ?_) (fun h25 => ?_)
  · have e := aB_inj hn c8 x1 hlx y1 hly (Option.some.inj h25)
    refine mx_iconst C (v := nI 0) (by decide) dX8_merge_43 (pc' := 44) rfl ?_
    exact mx_iret C hr dX8_merge_44 (by omega) (by omega) (⟨fun _ => ⟨rfl, rfl⟩, fun z => absurd (Or.inr (Or.inr (Or.inl e))) z⟩)
  have hne : x ≠ y := fun z => h25 (by rw [z])
  have habxy : aB A x ≠ aB A y := fun z => hne (aB_inj hn c8 x1 hlx y1 hly z)
  have go : ¬ (x = 0 ∨ y = 0 ∨ x = y ∨ (st_lk σ x = true ∧ st_lk σ y = true)) → mx_V p l ev { frames := 2, cells := 0, slots := 0, locals := 44 } s mt args below meth cd G base 5 (MQ below (mx_Qc G base (fun v h' => (x = 0 ∨ y = 0 ∨ x = y ∨ (st_lk σ x = true ∧ st_lk σ y = true) → v = some (.int (nI 0)) ∧ h = h') ∧ (¬ (x = 0 ∨ y = 0 ∨ x = y ∨ (st_lk σ x = true ∧ st_lk σ y = true)) → v = some (.int (nI (if ldr σ x y then x else y))) ∧ OUT A σ h h' ∧ ∃ la' ea', CI G A h' (su_mg σ (if ldr σ x y then x else y) (if ldr σ x y then y else x)) la' ea' mk))) args s 0 0 (mx_A base)) h 0 0 45 [some (.ref (aK A 0)), some (.int a), some (.int b), some (.ref (aB A x)), some (.ref (aB A y))] [] := by
    intro hno
    first | refine mx_aload_n C dX8_merge_45 (pc' := 46) rfl rfl ?_ | refine mx_aload_nq C dX8_merge_45 (pc' := 46) rfl rfl ?_
    first | refine mx_aload C dX8_merge_46 (pc' := 48) rfl rfl ?_ | refine mx_aloadq C dX8_merge_46 (pc' := 48) rfl rfl ?_
    refine cX8_171 C dX8_merge_48 (pc' := 51) rfl (Bx) (c_X0_leads l G base h Bx By (by omega) (by omega)) ⟨by decide, by decide, by decide, by decide, Nat.le_of_ble_eq_true rfl⟩ ?_
    rintro _ _ ⟨rfl, rfl⟩
    refine mx_B_eq C dX8_merge_51 (tgt := 65) (by decide) (pc' := 54) rfl (fun h51 => ?_) (fun h51 => ?_)
    · have e1 : ldr σ x y = false := h51
      have c' := c.take y1 hly x1 hlx ty tx (fun z => hne z.symm) hm
      have B' := c'.2.2.2.2.2.2.2.1 y y1 hly
      first | refine mx_aload C dX8_merge_65 (pc' := 67) rfl rfl ?_ | refine mx_aloadq C dX8_merge_65 (pc' := 67) rfl rfl ?_
      first | refine mx_aload_n C dX8_merge_67 (pc' := 68) rfl rfl ?_ | refine mx_aload_nq C dX8_merge_67 (pc' := 68) rfl rfl ?_
      refine cX8_174 C dX8_merge_68 (pc' := 71) rfl (By) (c_X0_take l G base h By Bx (fun z => habxy z.symm)) ⟨by decide, by decide, by decide, by decide, Nat.le_of_ble_eq_true rfl⟩ ?_
      rintro _ _ ⟨rfl, rfl⟩
      first | refine mx_aload C dX8_merge_71 (pc' := 73) rfl rfl ?_ | refine mx_aloadq C dX8_merge_71 (pc' := 73) rfl rfl ?_
      refine gX8_53 C dX8_merge_73 (pc' := 76) rfl (B') rfl ?_
      exact mx_iret C hr dX8_merge_76 (by omega) (by omega) (⟨fun z => absurd z hno, fun _ => ⟨by rw [e1]; rfl, fun q q1 q2 q3 => by rw [va_up_ne _ _ (q2 y y1 hly), va_up_ne _ _ (q2 x x1 hlx)], _, _, by rw [e1]; exact c'⟩⟩)
    · have e1 : ldr σ x y = true := h51
      have c' := c.take x1 hlx y1 hly tx ty hne hm
      have B' := c'.2.2.2.2.2.2.2.1 x x1 hlx
      first | refine mx_aload_n C dX8_merge_54 (pc' := 55) rfl rfl ?_ | refine mx_aload_nq C dX8_merge_54 (pc' := 55) rfl rfl ?_
      first | refine mx_aload C dX8_merge_55 (pc' := 57) rfl rfl ?_ | refine mx_aloadq C dX8_merge_55 (pc' := 57) rfl rfl ?_
      refine cX8_174 C dX8_merge_57 (pc' := 60) rfl (Bx) (c_X0_take l G base h Bx By habxy) ⟨by decide, by decide, by decide, by decide, Nat.le_of_ble_eq_true rfl⟩ ?_
      rintro _ _ ⟨rfl, rfl⟩
      first | refine mx_aload_n C dX8_merge_60 (pc' := 61) rfl rfl ?_ | refine mx_aload_nq C dX8_merge_60 (pc' := 61) rfl rfl ?_
      refine gX8_53 C dX8_merge_61 (pc' := 64) rfl (B') rfl ?_
      exact mx_iret C hr dX8_merge_64 (by omega) (by omega) (⟨fun z => absurd z hno, fun _ => ⟨by rw [e1]; rfl, fun q q1 q2 q3 => by rw [va_up_ne _ _ (q2 x x1 hlx), va_up_ne _ _ (q2 y y1 hly)], _, _, by rw [e1]; exact c'⟩⟩)
  first | refine mx_aload_n C dX8_merge_28 (pc' := 29) rfl rfl ?_ | refine mx_aload_nq C dX8_merge_28 (pc' := 29) rfl rfl ?_
  refine gX8_168 C dX8_merge_29 (pc' := 32) rfl (Bx) rfl ?_
  refine mx_B_eq C dX8_merge_32 (tgt := 45) (by decide) (pc' := 35) rfl (fun h32 => ?_) (fun h32 => ?_)
  · exact go (fun z => by rcases z with z | z | z | ⟨z, -⟩; exact ex z; exact ey z; exact hne z; rw [h32] at z; cases z)
  first | refine mx_aload C dX8_merge_35 (pc' := 37) rfl rfl ?_ | refine mx_aloadq C dX8_merge_35 (pc' := 37) rfl rfl ?_
  refine gX8_168 C dX8_merge_37 (pc' := 40) rfl (By) rfl ?_
  refine mx_B_eq C dX8_merge_40 (tgt := 45) (by decide) (pc' := 43) rfl (fun h40 => ?_) (fun h40 => ?_)
  · exact go (fun z => by rcases z with z | z | z | ⟨-, z⟩; exact ex z; exact ey z; exact hne z; rw [h40] at z; cases z)
  refine mx_iconst C (v := nI 0) (by decide) dX8_merge_43 (pc' := 44) rfl ?_
  exact mx_iret C hr dX8_merge_44 (by omega) (by omega) (⟨fun _ => ⟨rfl, rfl⟩, fun z => absurd (Or.inr (Or.inr (Or.inr ⟨h32, h40⟩))) z⟩)
theorem c_X8_undo (h : mx_H) {A : mxA} {σ : mxS} {la ea : Nat → Nat} {mk : Nat → Bool} (c : CI G A h σ la ea mk) {a : Int32} {x : Nat} (hx0 : ixS σ a = x) :
    mx_M l G base yX8_undo cX8_undo 3 (some .int) 2 44 0 0 [.ref (aK A 0), .int a] h (fun v h' => (x = 0 ∨ la x = 0 → v = some (.int (nI 0)) ∧ h = h') ∧ (x ≠ 0 → la x ≠ 0 → v = some (.int (nI 1)) ∧ OUT A σ h h' ∧ ∃ la' ea', CI G A h' (su_un σ (la x)) la' ea' mk)) := by
  have hn := c.1.1
  have hlx := @ixS_le σ a
  rw [hx0] at hlx
  have c8 := c.2.2.2.2.2.2.2.1
  refine mx_enter (lo := [some (.ref (aK A 0)), some (.int a), none]) (by decide) (mx_in wd_code_yX8_undo rfl) (Nat.le_of_ble_eq_true rfl) rfl ?_
  intro p ev s mt args below meth cd C hr hnm
  have C : mx_C p s mt args meth cd cX8_undo 3 RX8 G base := C
  first | refine mx_aload_n C dX8_undo_0 (pc' := 1) rfl rfl ?_ | refine mx_aload_nq C dX8_undo_0 (pc' := 1) rfl rfl ?_
  refine mx_iload_n C dX8_undo_1 (pc' := 2) rfl rfl ?_
  refine cX8_56 C dX8_undo_2 (pc' := 5) rfl (c.2.2.1) (c_X8_standingBook l G base h c) ⟨by decide, by decide, by decide, by decide, Nat.le_of_ble_eq_true rfl⟩ ?_
  rintro _ _ ⟨rfl, rfl⟩
  first | refine mx_astore_n C dX8_undo_5 (pc' := 6) rfl (by first | exact mx_c1_0 | exact mx_c1_int rfl | exact mx_c1_ref rfl | exact mx_c1_none rfl | exact mx_c1_rf rfl | exact mx_c1_null rfl) (by decide) (lo' := [_, _, _]) rfl ?_ | refine mx_astore_nq C dX8_undo_5 (pc' := 6) rfl (by first | exact mx_c1_0 | exact mx_c1_int rfl | exact mx_c1_ref rfl | exact mx_c1_none rfl | exact mx_c1_rf rfl | exact mx_c1_null rfl) (by decide) (lo' := [_, _, _]) rfl ?_
  first | refine mx_aload_n C dX8_undo_6 (pc' := 7) rfl rfl ?_ | refine mx_aload_nq C dX8_undo_6 (pc' := 7) rfl rfl ?_
  rw [hx0]
  by_cases ex : x = 0
  · subst ex
    rw [pB_0]
    refine mx_ifnull C dX8_undo_7 (tgt := 21) (by decide) (pc' := 10) rfl (fun h7 => ?_) (fun h7_a h7 => ?_)
    · skip
      refine mx_iconst C (v := nI 0) (by decide) dX8_undo_21 (pc' := 22) rfl ?_
      exact mx_iret C hr dX8_undo_22 (by omega) (by omega) (⟨fun _ => ⟨rfl, rfl⟩, fun z => absurd rfl z⟩)
    · cases h7
  rw [pB_s ex]
  refine mx_ifnull C dX8_undo_7 (tgt := 21) (by decide) (pc' := 10) rfl (fun h7 => ?_) (fun h7_a h7 => ?_)
  · cases h7
  have x1 : 1 ≤ x := by omega
  have Bx := c8 x x1 hlx
  obtain ⟨ch1, ch2⟩ := c.2.2.2.2.2.2.2.2.2
  obtain ⟨l1, l2, l3, l4⟩ := ch1 x x1 hlx
  by_cases el : la x = 0
  · have hg : ∀ g, pB A (la x) = some g → aB A x ≠ g ∧ ∃ b0 b1 b2 b3 b4 b5 b6 ea, h g = some (.inr (0, [b0, b1, b2, b3, b4, b5, b6, va_rf ea])) := fun g z => by rw [el, pB_0] at z; cases z
    first | refine mx_aload_n C dX8_undo_10 (pc' := 11) rfl rfl ?_ | refine mx_aload_nq C dX8_undo_10 (pc' := 11) rfl rfl ?_
    refine cX8_180 C dX8_undo_11 (pc' := 14) rfl (Bx) (c_X0_giveBackLatest l G base h Bx hg) ⟨by decide, by decide, by decide, by decide, Nat.le_of_ble_eq_true rfl⟩ ?_
    rintro _ h2 ⟨p1, -⟩
    obtain ⟨rfl, rfl⟩ := p1 (by rw [el, pB_0])
    refine mx_B_eq C dX8_undo_14 (tgt := 21) (by decide) (pc' := 17) rfl (fun h14 => ?_) (fun h14 => ?_)
    · skip
      refine mx_iconst C (v := nI 0) (by decide) dX8_undo_21 (pc' := 22) rfl ?_
      exact mx_iret C hr dX8_undo_22 (by omega) (by omega) (⟨fun _ => ⟨rfl, rfl⟩, fun _ z => absurd el z⟩)
    · cases h14
  · obtain ⟨m1, m2⟩ := l4 el
    have g1 : 1 ≤ la x := by omega
    have Bg := c8 (la x) g1 l1
    have hxg : x ≠ la x := fun z => by
      obtain ⟨-, tt⟩ := c.1.2.2.2.2.1.1 x x1 hlx
      rw [← z] at m1
      obtain ⟨-, -, t3⟩ := tt (by omega)
      rw [m1] at t3
      have := t3 (by omega)
      omega
    have hab : aB A x ≠ aB A (la x) := fun z => hxg (aB_inj hn c8 x1 hlx g1 l1 z)
    have hg : ∀ g, pB A (la x) = some g → aB A x ≠ g ∧ ∃ b0 b1 b2 b3 b4 b5 b6 ea, h g = some (.inr (0, [b0, b1, b2, b3, b4, b5, b6, va_rf ea])) := fun g z => by
      rw [pB_s el] at z
      cases z
      exact ⟨hab, _, _, _, _, _, _, _, _, Bg⟩
    first | refine mx_aload_n C dX8_undo_10 (pc' := 11) rfl rfl ?_ | refine mx_aload_nq C dX8_undo_10 (pc' := 11) rfl rfl ?_
    refine cX8_180 C dX8_undo_11 (pc' := 14) rfl (Bx) (c_X0_giveBackLatest l G base h Bx hg) ⟨by decide, by decide, by decide, by decide, Nat.le_of_ble_eq_true rfl⟩ ?_
    rintro _ h2 ⟨-, p1⟩
    obtain ⟨rfl, rfl⟩ := p1 (aB A (la x)) (pB_s el) _ _ _ _ _ _ _ _ Bg
    have c' : CI G A (va_up (va_up h (aB A x) (some (.inr (0, [.int (nI x), .int (st_rk σ x), .int (mx_b (st_lk σ x)), .int (mx_b (mk x)), va_rf (pB A (nxt (st_n σ) x)), va_rf (pB A (st_in σ x)), va_rf (pB A (ea (la x))), va_rf (pB A (ea x))])))) (aB A (la x)) (some (.inr (0, [.int (nI (la x)), .int (st_rk σ (la x)), .int (mx_b (st_lk σ (la x))), .int (mx_b (mk (la x))), va_rf (pB A (nxt (st_n σ) (la x))), .null, va_rf (pB A (la (la x))), .null])))) (su_un σ (la x)) (up1 la x (ea (la x))) (up1 ea (la x) 0) mk := by
      refine c.two x1 hlx g1 l1 (fun q q1 q2 => by rw [va_up_ne _ _ q2, va_up_ne _ _ q1]) (si_un c.1) (ch_un c.1 ⟨ch1, ch2⟩ x1 hlx el) rfl rfl rfl rfl (fun r r1 r2 => ?_)
      have r2 : r ≤ st_n σ := r2
      by_cases e2 : r = la x
      · rw [e2, va_up_self, un_ins, up1_s, up1_n (fun z => hxg z.symm)]
        rfl
      · by_cases e : r = x
        · subst e
          rw [va_up_ne _ _ hab, va_up_self, un_inn e2, up1_s, up1_n e2]
          rfl
        · rw [va_up_ne _ _ (fun z => e2 (aB_inj hn c8 r1 r2 g1 l1 z)), va_up_ne _ _ (fun z => e (aB_inj hn c8 r1 r2 x1 hlx z)), un_inn e2, up1_n e, up1_n e2]
          exact c8 r r1 r2
    refine mx_B_eq C dX8_undo_14 (tgt := 21) (by decide) (pc' := 17) rfl (fun h14 => ?_) (fun h14 => ?_)
    · cases h14
    · skip
      refine mx_iconst C (v := nI 1) (by decide) dX8_undo_17 (pc' := 18) rfl ?_
      refine mx_goto C dX8_undo_18 (tgt := 22) (by decide) ?_
      exact mx_iret C hr dX8_undo_22 (by omega) (by omega) (⟨fun z => absurd z (fun z => z.elim ex el), fun _ _ => ⟨rfl, fun q q1 q2 q3 => by rw [va_up_ne _ _ (q2 (la x) g1 l1), va_up_ne _ _ (q2 x x1 hlx)], _, _, c'⟩⟩)
end P3
