/-! the state, as numbers: records, fields, merges made, found; rank, lock, in, when; tag, own record, size, signs; weights (up, down), found -/
abbrev mxS : Type := (Nat × Nat × Nat × Nat) × ((Nat → Int32) × (Nat → Bool) × (Nat → Nat) × (Nat → Nat)) × ((Nat → Nat) × (Nat → Nat) × (Nat → Nat) × (Nat → Nat → Nat)) × ((Nat → Nat) × (Nat → Nat) × (Nat → Nat))
def st_n (σ : mxS) : Nat := σ.1.1
def st_k (σ : mxS) : Nat := σ.1.2.1
def st_m (σ : mxS) : Nat := σ.1.2.2.1
def st_f (σ : mxS) : Nat := σ.1.2.2.2
def st_rk (σ : mxS) : Nat → Int32 := σ.2.1.1
def st_lk (σ : mxS) : Nat → Bool := σ.2.1.2.1
def st_in (σ : mxS) : Nat → Nat := σ.2.1.2.2.1
def st_wh (σ : mxS) : Nat → Nat := σ.2.1.2.2.2
def st_tg (σ : mxS) : Nat → Nat := σ.2.2.1.1
def st_ow (σ : mxS) : Nat → Nat := σ.2.2.1.2.1
def st_sz (σ : mxS) : Nat → Nat := σ.2.2.1.2.2.1
def st_sg (σ : mxS) : Nat → Nat → Nat := σ.2.2.1.2.2.2
def st_up (σ : mxS) : Nat → Nat := σ.2.2.2.1
def st_dn (σ : mxS) : Nat → Nat := σ.2.2.2.2.1
def st_fd (σ : mxS) : Nat → Nat := σ.2.2.2.2.2
/-- what always holds of it -/
def si_in (σ : mxS) : Prop := (∀ r, 1 ≤ r → r ≤ st_n σ → st_in σ r ≤ st_n σ ∧ (st_in σ r ≠ 0 → 1 ≤ st_wh σ r ∧ st_wh σ r ≤ st_m σ ∧ (st_in σ (st_in σ r) ≠ 0 → st_wh σ r < st_wh σ (st_in σ r)))) ∧ (∀ r r', 1 ≤ r → r ≤ st_n σ → 1 ≤ r' → r' ≤ st_n σ → st_in σ r ≠ 0 → st_in σ r' ≠ 0 → st_wh σ r = st_wh σ r' → r = r') ∧ ∀ r, st_n σ < r → st_in σ r = 0 ∧ st_lk σ r = false
def si_tx (σ : mxS) : Prop := (∀ f, 1 ≤ f → f ≤ st_k σ → st_tg σ f ≤ 9 ∧ 1 ≤ st_ow σ f ∧ st_ow σ f ≤ st_n σ ∧ st_sz σ f ≤ 60 ∧ ∀ j, j < st_sz σ f → st_sg σ f j < 256) ∧ ∀ f, st_k σ < f → st_sz σ f = 0
def si (σ : mxS) : Prop := st_n σ ≤ 40 ∧ st_k σ ≤ 200 ∧ st_m σ < 2 ^ 30 ∧ st_f σ ≤ 40 ∧ si_in σ ∧ si_tx σ ∧ (∀ p, p < 5 → st_up σ p ≤ 100 ∧ 1 ≤ st_dn σ p ∧ st_dn σ p ≤ 10) ∧ ∀ i, i < st_f σ → st_fd σ i ≤ 40
/-- the record that a record is in, outermost -/
def tpN (inn : Nat → Nat) : Nat → Nat → Nat
  | 0, r => r
  | d + 1, r => if inn r = 0 then r else tpN inn d (inn r)
def tp (σ : mxS) (r : Nat) : Nat := tpN (st_in σ) (st_m σ + 2) r
/-- how far a record is from its outermost, at most -/
def tpd (σ : mxS) (r : Nat) : Nat := if st_in σ r = 0 then 0 else st_m σ + 1 - st_wh σ r
theorem tpd_lt {σ : mxS} (h : si_in σ) {r : Nat} (h1 : 1 ≤ r) (h2 : r ≤ st_n σ) (h3 : st_in σ r ≠ 0) : tpd σ (st_in σ r) < tpd σ r := by
  obtain ⟨a1, a2⟩ := h.1 r h1 h2
  obtain ⟨b1, b2, b3⟩ := a2 h3
  unfold tpd
  rw [if_neg h3]
  by_cases e : st_in σ (st_in σ r) = 0
  · rw [if_pos e]; omega
  · rw [if_neg e]
    have := b3 e
    obtain ⟨c1, c2⟩ := h.1 (st_in σ r) (by omega) a1
    have := (c2 e).2.1
    omega
theorem tpN_eq {σ : mxS} (h : si_in σ) : ∀ (d d' r : Nat), 1 ≤ r → r ≤ st_n σ → tpd σ r < d → tpd σ r < d' → tpN (st_in σ) d r = tpN (st_in σ) d' r := by
  intro d
  induction d with
  | zero => intro d' r _ _ hd; omega
  | succ d ih =>
    intro d' r h1 h2 hd hd'
    cases d' with
    | zero => omega
    | succ d' =>
      simp only [tpN]
      by_cases e : st_in σ r = 0
      · rw [if_pos e, if_pos e]
      · rw [if_neg e, if_neg e]
        have h3 := tpd_lt h h1 h2 e
        exact ih d' (st_in σ r) (by omega) (h.1 r h1 h2).1 (by omega) (by omega)
theorem tpd_le {σ : mxS} (r : Nat) : tpd σ r < st_m σ + 2 := by unfold tpd; split <;> omega
theorem tp_0 {σ : mxS} {r : Nat} (e : st_in σ r = 0) : tp σ r = r := by
  unfold tp
  show tpN (st_in σ) (st_m σ + 1 + 1) r = r
  simp only [tpN]
  rw [if_pos e]
theorem tp_s {σ : mxS} (h : si_in σ) {r : Nat} (h1 : 1 ≤ r) (h2 : r ≤ st_n σ) (e : st_in σ r ≠ 0) : tp σ r = tp σ (st_in σ r) := by
  have h3 : tp σ r = tpN (st_in σ) (st_m σ + 1) (st_in σ r) := by
    unfold tp
    show tpN (st_in σ) (st_m σ + 1 + 1) r = _
    simp only [tpN]
    rw [if_neg e]
  rw [h3]
  have h4 := tpd_lt h h1 h2 e
  have h5 := @tpd_le σ r
  exact tpN_eq h _ _ _ (by omega) (h.1 r h1 h2).1 (by omega) (by omega)
theorem tp_in {σ : mxS} (h : si_in σ) : ∀ (d r : Nat), tpd σ r = d → 1 ≤ r → r ≤ st_n σ → 1 ≤ tp σ r ∧ tp σ r ≤ st_n σ ∧ st_in σ (tp σ r) = 0 := by
  intro d
  induction d using Nat.strongRecOn with
  | ind d ih =>
    intro r hd h1 h2
    by_cases e : st_in σ r = 0
    · rw [tp_0 e]; exact ⟨h1, h2, e⟩
    · rw [tp_s h h1 h2 e]
      exact ih _ (by have := tpd_lt h h1 h2 e; omega) _ rfl (by omega) (h.1 r h1 h2).1
/-- addresses: the class's fixed cells, records, fields, their rows of signs -/
abbrev mxA : Type := (Nat → Nat) × (Nat → Nat) × (Nat → Nat) × (Nat → Nat)
def aK (A : mxA) : Nat → Nat := A.1
def aB (A : mxA) : Nat → Nat := A.2.1
def aT (A : mxA) : Nat → Nat := A.2.2.1
def aC (A : mxA) : Nat → Nat := A.2.2.2
def pB (A : mxA) (r : Nat) : Option Nat := if r = 0 then none else some (aB A r)
def pT (A : mxA) (f : Nat) : Option Nat := if f = 0 then none else some (aT A f)
/-- the one behind r, of n -/
def nxt (n r : Nat) : Nat := if r < n then r + 1 else 0
def ci_bk (A : mxA) (h : mx_H) (σ : mxS) (la ea : Nat → Nat) (mk : Nat → Bool) : Prop := ∀ r, 1 ≤ r → r ≤ st_n σ → h (aB A r) = some (.inr (0, [.int (nI r), .int (st_rk σ r), .int (mx_b (st_lk σ r)), .int (mx_b (mk r)), va_rf (pB A (nxt (st_n σ) r)), va_rf (pB A (st_in σ r)), va_rf (pB A (la r)), va_rf (pB A (ea r))]))
def ci_tx (G : mx_G) (A : mxA) (h : mx_H) (σ : mxS) : Prop := ∀ f, 1 ≤ f → f ≤ st_k σ → tx_at G h (aT A f) (nI f) (nI (st_tg σ f)) (aB A (st_ow σ f)) (aC A f) (va_rf (pT A (nxt (st_k σ) f))) (st_sz σ f) (st_sg σ f)
/-- which were got, the latest first -/
def ci_ch (σ : mxS) (la ea : Nat → Nat) : Prop := (∀ r, 1 ≤ r → r ≤ st_n σ → la r ≤ st_n σ ∧ ea r ≤ st_n σ ∧ (la r = 0 → ∀ q, 1 ≤ q → q ≤ st_n σ → st_in σ q ≠ r) ∧ (la r ≠ 0 → st_in σ (la r) = r ∧ ∀ q, 1 ≤ q → q ≤ st_n σ → st_in σ q = r → st_wh σ q ≤ st_wh σ (la r)))
  ∧ ∀ r, 1 ≤ r → r ≤ st_n σ → (st_in σ r = 0 → ea r = 0) ∧ (st_in σ r ≠ 0 → (ea r = 0 → ∀ q, 1 ≤ q → q ≤ st_n σ → st_in σ q = st_in σ r → st_wh σ r ≤ st_wh σ q) ∧ (ea r ≠ 0 → st_in σ (ea r) = st_in σ r ∧ st_wh σ (ea r) < st_wh σ r ∧ ∀ q, 1 ≤ q → q ≤ st_n σ → st_in σ q = st_in σ r → st_wh σ q < st_wh σ r → st_wh σ q ≤ st_wh σ (ea r)))
def nm (t : Nat → Nat) : Nat → Nat
  | 0 => 0
  | i + 1 => if dg (t i) then (nm t i * 10 + (t i - 48)) % 10000 else nm t i
theorem nm_lt (t : Nat → Nat) (i : Nat) : nm t i < 10000 := by
  induction i with
  | zero => simp [nm]
  | succ i ih => simp only [nm]; split <;> omega
theorem aB_inj {A : mxA} {h : mx_H} {σ : mxS} {la ea : Nat → Nat} {mk : Nat → Bool} (hn : st_n σ ≤ 40) (hb : ci_bk A h σ la ea mk) {r r' : Nat} (h1 : 1 ≤ r) (h2 : r ≤ st_n σ) (h3 : 1 ≤ r') (h4 : r' ≤ st_n σ) (e : aB A r = aB A r') : r = r' := by
  have a1 := hb r h1 h2
  have a2 := hb r' h3 h4
  rw [e, a2] at a1
  simp only [Option.some.injEq, Sum.inr.injEq, Prod.mk.injEq, List.cons.injEq, Value.int.injEq] at a1
  exact (mx_inj (by omega) (by omega) a1.2.1).symm
theorem aT_inj {G : mx_G} {A : mxA} {h : mx_H} {σ : mxS} (hn : st_k σ ≤ 200) (hb : ci_tx G A h σ) {r r' : Nat} (h1 : 1 ≤ r) (h2 : r ≤ st_k σ) (h3 : 1 ≤ r') (h4 : r' ≤ st_k σ) (e : aT A r = aT A r') : r = r' := by
  have a1 := (hb r h1 h2).2.1
  have a2 := (hb r' h3 h4).2.1
  rw [e, a2] at a1
  simp only [Option.some.injEq, Sum.inr.injEq, Prod.mk.injEq, List.cons.injEq, Value.int.injEq] at a1
  exact (mx_inj (by omega) (by omega) a1.2.1).symm
section BK
variable (l : Launch) (G : mx_G) (base : Nat)
set_option maxRecDepth 20000
theorem c_X0_outermost (h : mx_H) {A : mxA} {σ : mxS} {la ea : Nat → Nat} {mk : Nat → Bool} (hs : si_in σ) (hb : ci_bk A h σ la ea mk) {r : Nat} (h1 : 1 ≤ r) (h2 : r ≤ st_n σ) :
    mx_M l G base yX0_outermost cX0_outermost 2 (some (.object "RecordMatch$Book")) 0 0 0 0 [.ref (aB A r)] h (fun v h' => v = some (va_rf (some (aB A (tp σ r)))) ∧ h = h') := by
  refine mx_enter (lo := [some (.ref (aB A r)), none]) (by decide) (mx_in wd_code_yX0_outermost rfl) (Nat.le_of_ble_eq_true rfl) rfl ?_
  intro p ev s mt args below meth cd C hr hnm
  have C : mx_C p s mt args meth cd cX0_outermost 2 RX0 G base := C
  have loop : ∀ (d q : Nat), tpd σ q = d → 1 ≤ q → q ≤ st_n σ → tp σ q = tp σ r → mx_V p l ev { frames := 0, cells := 0, slots := 0, locals := 0 } s mt args below meth cd G base 2 (MQ below (mx_Qc G base (fun v h' => v = some (va_rf (some (aB A (tp σ r)))) ∧ h = h')) args s 0 0 (mx_A base)) h 0 0 2 [some (.ref (aB A r)), some (.ref (aB A q))] [] := by
    intro d
    induction d using Nat.strongRecOn with
    | ind d ih =>
    intro q hd q1 q2 hq
    have B := hb q q1 q2
    first | refine mx_aload_n C dX0_outermost_2 (pc' := 3) rfl rfl ?_ | refine mx_aload_nq C dX0_outermost_2 (pc' := 3) rfl rfl ?_
    refine gX0_16 C dX0_outermost_3 (pc' := 6) rfl (B) rfl ?_
    by_cases e : st_in σ q = 0
    · have e2 : pB A (st_in σ q) = none := if_pos e
      rw [e2]
      refine mx_ifnull C dX0_outermost_6 (tgt := 17) (by decide) (pc' := 9) rfl (fun h6 => ?_) (fun h6_a h6 => ?_)
      · skip
        first | refine mx_aload_n C dX0_outermost_17 (pc' := 18) rfl rfl ?_ | refine mx_aload_nq C dX0_outermost_17 (pc' := 18) rfl rfl ?_
        exact mx_aret (x := some (aB A q)) C hr dX0_outermost_18 (by omega) (by omega) ⟨by rw [← hq, tp_0 e], rfl⟩
      · cases h6
    · have e2 : pB A (st_in σ q) = some (aB A (st_in σ q)) := if_neg e
      rw [e2]
      refine mx_ifnull C dX0_outermost_6 (tgt := 17) (by decide) (pc' := 9) rfl (fun h6 => ?_) (fun h6_a h6 => ?_)
      · cases h6
      · skip
        first | refine mx_aload_n C dX0_outermost_9 (pc' := 10) rfl rfl ?_ | refine mx_aload_nq C dX0_outermost_9 (pc' := 10) rfl rfl ?_
        refine gX0_16 C dX0_outermost_10 (pc' := 13) rfl (B) rfl ?_
        rw [e2]
        first | refine mx_astore_n C dX0_outermost_13 (pc' := 14) rfl (by first | exact mx_c1_0 | exact mx_c1_int rfl | exact mx_c1_ref rfl | exact mx_c1_none rfl | exact mx_c1_rf rfl | exact mx_c1_null rfl) (by decide) (lo' := [_, _]) rfl ?_ | refine mx_astore_nq C dX0_outermost_13 (pc' := 14) rfl (by first | exact mx_c1_0 | exact mx_c1_int rfl | exact mx_c1_ref rfl | exact mx_c1_none rfl | exact mx_c1_rf rfl | exact mx_c1_null rfl) (by decide) (lo' := [_, _]) rfl ?_
        refine mx_goto C dX0_outermost_14 (tgt := 2) (by decide) ?_
        exact ih _ (by have := tpd_lt hs q1 q2 e; omega) _ rfl (by omega) (hs.1 q q1 q2).1 (by rw [← tp_s hs q1 q2 e]; exact hq)
  first | refine mx_aload_n C dX0_outermost_0 (pc' := 1) rfl rfl ?_ | refine mx_aload_nq C dX0_outermost_0 (pc' := 1) rfl rfl ?_
  first | refine mx_astore_n C dX0_outermost_1 (pc' := 2) rfl (by first | exact mx_c1_0 | exact mx_c1_int rfl | exact mx_c1_ref rfl | exact mx_c1_none rfl | exact mx_c1_rf rfl | exact mx_c1_null rfl) (by decide) (lo' := [_, _]) rfl ?_ | refine mx_astore_nq C dX0_outermost_1 (pc' := 2) rfl (by first | exact mx_c1_0 | exact mx_c1_int rfl | exact mx_c1_ref rfl | exact mx_c1_none rfl | exact mx_c1_rf rfl | exact mx_c1_null rfl) (by decide) (lo' := [_, _]) rfl ?_
  exact loop _ r rfl h1 h2 rfl
theorem c_X0_leads (h : mx_H) {a b : Nat} {x y : Int32} {i j : Nat} {fa fb : List Value} (ha : h a = some (.inr (0, .int (nI i) :: .int x :: fa))) (hb : h b = some (.inr (0, .int (nI j) :: .int y :: fb))) (hi : i ≤ 40) (hj : j ≤ 40) :
    mx_M l G base yX0_leads cX0_leads 2 (some .boolean) 0 0 0 0 [.ref a, .ref b] h (fun v h' => v = some (.int (mx_b (decide (y < x ∨ (x = y ∧ i < j))))) ∧ h = h') := by
  refine mx_enter (lo := [some (.ref a), some (.ref b)]) (by decide) (mx_in wd_code_yX0_leads rfl) (Nat.le_of_ble_eq_true rfl) rfl ?_
  intro p ev s mt args below meth cd C hr hnm
  have C : mx_C p s mt args meth cd cX0_leads 2 RX0 G base := C
  first | refine mx_aload_n C dX0_leads_0 (pc' := 1) rfl rfl ?_ | refine mx_aload_nq C dX0_leads_0 (pc' := 1) rfl rfl ?_
  refine gX0_13 C dX0_leads_1 (pc' := 4) rfl (ha) rfl ?_
  first | refine mx_aload_n C dX0_leads_4 (pc' := 5) rfl rfl ?_ | refine mx_aload_nq C dX0_leads_4 (pc' := 5) rfl rfl ?_
  refine gX0_13 C dX0_leads_5 (pc' := 8) rfl (hb) rfl ?_
  refine mx_icmp_gt C dX0_leads_8 (tgt := 33) (by decide) (pc' := 11) rfl (fun hb8 => ?_) (fun hb8 => ?_)
  · refine mx_iconst C (v := nI 1) (by decide) dX0_leads_33 (pc' := 34) rfl ?_
    refine mx_goto C dX0_leads_34 (tgt := 38) (by decide) ?_
    first | exact mx_zret C hr (mx_b_nz _) dX0_leads_38 (by omega) (by omega) (⟨by first | exact mx_ok1 (decide_eq_true (by first | exact Or.inl (by assumption) | exact Or.inr ⟨by assumption, by assumption⟩)) | exact mx_ok0 (decide_eq_false (fun z => z.elim (fun z => absurd z (by assumption)) (fun z => by first | exact absurd z.1 (by assumption) | exact absurd z.2 (by omega)))), rfl⟩) | exact mx_zret C hr rfl dX0_leads_38 (by omega) (by omega) (⟨by first | exact mx_ok1 (decide_eq_true (by first | exact Or.inl (by assumption) | exact Or.inr ⟨by assumption, by assumption⟩)) | exact mx_ok0 (decide_eq_false (fun z => z.elim (fun z => absurd z (by assumption)) (fun z => by first | exact absurd z.1 (by assumption) | exact absurd z.2 (by omega)))), rfl⟩)
  · first | refine mx_aload_n C dX0_leads_11 (pc' := 12) rfl rfl ?_ | refine mx_aload_nq C dX0_leads_11 (pc' := 12) rfl rfl ?_
    refine gX0_13 C dX0_leads_12 (pc' := 15) rfl (ha) rfl ?_
    first | refine mx_aload_n C dX0_leads_15 (pc' := 16) rfl rfl ?_ | refine mx_aload_nq C dX0_leads_15 (pc' := 16) rfl rfl ?_
    refine gX0_13 C dX0_leads_16 (pc' := 19) rfl (hb) rfl ?_
    refine mx_icmp_ne C dX0_leads_19 (tgt := 37) (by decide) (pc' := 22) rfl (fun hb19 => ?_) (fun hb19 => ?_)
    · refine mx_iconst C (v := nI 0) (by decide) dX0_leads_37 (pc' := 38) rfl ?_
      first | exact mx_zret C hr (mx_b_nz _) dX0_leads_38 (by omega) (by omega) (⟨by first | exact mx_ok1 (decide_eq_true (by first | exact Or.inl (by assumption) | exact Or.inr ⟨by assumption, by assumption⟩)) | exact mx_ok0 (decide_eq_false (fun z => z.elim (fun z => absurd z (by assumption)) (fun z => by first | exact absurd z.1 (by assumption) | exact absurd z.2 (by omega)))), rfl⟩) | exact mx_zret C hr rfl dX0_leads_38 (by omega) (by omega) (⟨by first | exact mx_ok1 (decide_eq_true (by first | exact Or.inl (by assumption) | exact Or.inr ⟨by assumption, by assumption⟩)) | exact mx_ok0 (decide_eq_false (fun z => z.elim (fun z => absurd z (by assumption)) (fun z => by first | exact absurd z.1 (by assumption) | exact absurd z.2 (by omega)))), rfl⟩)
    · first | refine mx_aload_n C dX0_leads_22 (pc' := 23) rfl rfl ?_ | refine mx_aload_nq C dX0_leads_22 (pc' := 23) rfl rfl ?_
      refine gX0_7 C dX0_leads_23 (pc' := 26) rfl (ha) rfl ?_
      first | refine mx_aload_n C dX0_leads_26 (pc' := 27) rfl rfl ?_ | refine mx_aload_nq C dX0_leads_26 (pc' := 27) rfl rfl ?_
      refine gX0_7 C dX0_leads_27 (pc' := 30) rfl (hb) rfl ?_
      refine mx_N_ge C dX0_leads_30 (tgt := 37) (by decide) (pc' := 33) rfl (by omega) (by omega) (fun hb30 => ?_) (fun hb30 => ?_)
      · refine mx_iconst C (v := nI 0) (by decide) dX0_leads_37 (pc' := 38) rfl ?_
        first | exact mx_zret C hr (mx_b_nz _) dX0_leads_38 (by omega) (by omega) (⟨by first | exact mx_ok1 (decide_eq_true (by first | exact Or.inl (by assumption) | exact Or.inr ⟨by assumption, by assumption⟩)) | exact mx_ok0 (decide_eq_false (fun z => z.elim (fun z => absurd z (by assumption)) (fun z => by first | exact absurd z.1 (by assumption) | exact absurd z.2 (by omega)))), rfl⟩) | exact mx_zret C hr rfl dX0_leads_38 (by omega) (by omega) (⟨by first | exact mx_ok1 (decide_eq_true (by first | exact Or.inl (by assumption) | exact Or.inr ⟨by assumption, by assumption⟩)) | exact mx_ok0 (decide_eq_false (fun z => z.elim (fun z => absurd z (by assumption)) (fun z => by first | exact absurd z.1 (by assumption) | exact absurd z.2 (by omega)))), rfl⟩)
      · refine mx_iconst C (v := nI 1) (by decide) dX0_leads_33 (pc' := 34) rfl ?_
        refine mx_goto C dX0_leads_34 (tgt := 38) (by decide) ?_
        first | exact mx_zret C hr (mx_b_nz _) dX0_leads_38 (by omega) (by omega) (⟨by first | exact mx_ok1 (decide_eq_true (by first | exact Or.inl (by assumption) | exact Or.inr ⟨by assumption, by assumption⟩)) | exact mx_ok0 (decide_eq_false (fun z => z.elim (fun z => absurd z (by assumption)) (fun z => by first | exact absurd z.1 (by assumption) | exact absurd z.2 (by omega)))), rfl⟩) | exact mx_zret C hr rfl dX0_leads_38 (by omega) (by omega) (⟨by first | exact mx_ok1 (decide_eq_true (by first | exact Or.inl (by assumption) | exact Or.inr ⟨by assumption, by assumption⟩)) | exact mx_ok0 (decide_eq_false (fun z => z.elim (fun z => absurd z (by assumption)) (fun z => by first | exact absurd z.1 (by assumption) | exact absurd z.2 (by omega)))), rfl⟩)
theorem c_X0_take (h : mx_H) {a b : Nat} {a0 a1 a2 a3 a4 a5 a7 b0 b1 b2 b3 b4 b5 b6 b7 : Value} {la : Option Nat} (ha : h a = some (.inr (0, [a0, a1, a2, a3, a4, a5, va_rf la, a7]))) (hb : h b = some (.inr (0, [b0, b1, b2, b3, b4, b5, b6, b7]))) (hne : a ≠ b) :
    mx_M l G base yX0_take cX0_take 2 none 0 0 0 0 [.ref a, .ref b] h (fun v h' => v = none ∧ h' = va_up (va_up h b (some (.inr (0, [b0, b1, b2, b3, b4, .ref a, b6, va_rf la])))) a (some (.inr (0, [a0, a1, a2, a3, a4, a5, .ref b, a7])))) := by
  refine mx_enter (lo := [some (.ref a), some (.ref b)]) (by decide) (mx_in wd_code_yX0_take rfl) (Nat.le_of_ble_eq_true rfl) rfl ?_
  intro p ev s mt args below meth cd C hr hnm
  have C : mx_C p s mt args meth cd cX0_take 2 RX0 G base := C
  first | refine mx_aload_n C dX0_take_0 (pc' := 1) rfl rfl ?_ | refine mx_aload_nq C dX0_take_0 (pc' := 1) rfl rfl ?_
  first | refine mx_aload_n C dX0_take_1 (pc' := 2) rfl rfl ?_ | refine mx_aload_nq C dX0_take_1 (pc' := 2) rfl rfl ?_
  first | refine pX0_16 C dX0_take_2 (pc' := 5) rfl (hb) (Nat.le_of_ble_eq_true rfl) rfl rfl (fs' := [_, _, _, _, _, _, _, _]) rfl ?_ | refine pX0_16 C dX0_take_2 (pc' := 5) rfl (hb) (Nat.le_of_ble_eq_true rfl) (mx_nrf _ _) (mx_frf _ _) (fs' := [_, _, _, _, _, _, _, _]) rfl ?_
  first | refine mx_aload_n C dX0_take_5 (pc' := 6) rfl rfl ?_ | refine mx_aload_nq C dX0_take_5 (pc' := 6) rfl rfl ?_
  first | refine mx_aload_n C dX0_take_6 (pc' := 7) rfl rfl ?_ | refine mx_aload_nq C dX0_take_6 (pc' := 7) rfl rfl ?_
  refine gX0_20 C dX0_take_7 (pc' := 10) rfl (by rw [va_up_ne _ _ hne]; exact ha) rfl ?_
  first | refine pX0_23 C dX0_take_10 (pc' := 13) rfl (va_up_self _ _ _) (Nat.le_of_ble_eq_true rfl) rfl rfl (fs' := [_, _, _, _, _, _, _, _]) rfl ?_ | refine pX0_23 C dX0_take_10 (pc' := 13) rfl (va_up_self _ _ _) (Nat.le_of_ble_eq_true rfl) (mx_nrf _ _) (mx_frf _ _) (fs' := [_, _, _, _, _, _, _, _]) rfl ?_
  refine mx_heap (bx_uu _ _ _ _) ?_
  first | refine mx_aload_n C dX0_take_13 (pc' := 14) rfl rfl ?_ | refine mx_aload_nq C dX0_take_13 (pc' := 14) rfl rfl ?_
  first | refine mx_aload_n C dX0_take_14 (pc' := 15) rfl rfl ?_ | refine mx_aload_nq C dX0_take_14 (pc' := 15) rfl rfl ?_
  first | refine pX0_20 C dX0_take_15 (pc' := 18) rfl (by rw [va_up_ne _ _ hne]; exact ha) (Nat.le_of_ble_eq_true rfl) rfl rfl (fs' := [_, _, _, _, _, _, _, _]) rfl ?_ | refine pX0_20 C dX0_take_15 (pc' := 18) rfl (by rw [va_up_ne _ _ hne]; exact ha) (Nat.le_of_ble_eq_true rfl) (mx_nrf _ _) (mx_frf _ _) (fs' := [_, _, _, _, _, _, _, _]) rfl ?_
  exact mx_vret C hr dX0_take_18 (by omega) (by omega) (⟨rfl, rfl⟩)
theorem c_X0_giveBackLatest (h : mx_H) {a : Nat} {a0 a1 a2 a3 a4 a5 a7 : Value} {la : Option Nat} (ha : h a = some (.inr (0, [a0, a1, a2, a3, a4, a5, va_rf la, a7]))) (hg : ∀ g, la = some g → a ≠ g ∧ ∃ b0 b1 b2 b3 b4 b5 b6 ea, h g = some (.inr (0, [b0, b1, b2, b3, b4, b5, b6, va_rf ea]))) :
    mx_M l G base yX0_giveBackLatest cX0_giveBackLatest 2 (some .boolean) 0 0 0 0 [.ref a] h (fun v h' => (la = none → v = some (.int (mx_b false)) ∧ h = h') ∧ ∀ g, la = some g → ∀ b0 b1 b2 b3 b4 b5 b6 ea, h g = some (.inr (0, [b0, b1, b2, b3, b4, b5, b6, va_rf ea])) → v = some (.int (mx_b true)) ∧ h' = va_up (va_up h a (some (.inr (0, [a0, a1, a2, a3, a4, a5, va_rf ea, a7])))) g (some (.inr (0, [b0, b1, b2, b3, b4, .null, b6, .null])))) := by
  refine mx_enter (lo := [some (.ref a), none]) (by decide) (mx_in wd_code_yX0_giveBackLatest rfl) (Nat.le_of_ble_eq_true rfl) rfl ?_
  intro p ev s mt args below meth cd C hr hnm
  have C : mx_C p s mt args meth cd cX0_giveBackLatest 2 RX0 G base := C
  first | refine mx_aload_n C dX0_giveBackLatest_0 (pc' := 1) rfl rfl ?_ | refine mx_aload_nq C dX0_giveBackLatest_0 (pc' := 1) rfl rfl ?_
  refine gX0_20 C dX0_giveBackLatest_1 (pc' := 4) rfl (ha) rfl ?_
  first | refine mx_astore_n C dX0_giveBackLatest_4 (pc' := 5) rfl (by first | exact mx_c1_0 | exact mx_c1_int rfl | exact mx_c1_ref rfl | exact mx_c1_none rfl | exact mx_c1_rf rfl | exact mx_c1_null rfl) (by decide) (lo' := [_, _]) rfl ?_ | refine mx_astore_nq C dX0_giveBackLatest_4 (pc' := 5) rfl (by first | exact mx_c1_0 | exact mx_c1_int rfl | exact mx_c1_ref rfl | exact mx_c1_none rfl | exact mx_c1_rf rfl | exact mx_c1_null rfl) (by decide) (lo' := [_, _]) rfl ?_
  first | refine mx_aload_n C dX0_giveBackLatest_5 (pc' := 6) rfl rfl ?_ | refine mx_aload_nq C dX0_giveBackLatest_5 (pc' := 6) rfl rfl ?_
  refine mx_ifnonnull C dX0_giveBackLatest_6 (tgt := 11) (by decide) (pc' := 9) rfl (fun h6_a h6 => ?_) (fun h6 => ?_)
  rotate_left
  · skip
    refine mx_iconst C (v := nI 0) (by decide) dX0_giveBackLatest_9 (pc' := 10) rfl ?_
    first | exact mx_zret C hr (mx_b_nz _) dX0_giveBackLatest_10 (by omega) (by omega) (⟨fun _ => ⟨rfl, rfl⟩, fun g z => by rw [h6] at z; cases z⟩) | exact mx_zret C hr rfl dX0_giveBackLatest_10 (by omega) (by omega) (⟨fun _ => ⟨rfl, rfl⟩, fun g z => by rw [h6] at z; cases z⟩)
  obtain ⟨hne, b0, b1, b2, b3, b4, b5, b6, ea, hgc⟩ := hg h6_a h6
  have hne2 : h6_a ≠ a := fun z => hne z.symm
  subst h6
  first | refine mx_aload_n C dX0_giveBackLatest_11 (pc' := 12) rfl rfl ?_ | refine mx_aload_nq C dX0_giveBackLatest_11 (pc' := 12) rfl rfl ?_
  first | refine mx_aload_n C dX0_giveBackLatest_12 (pc' := 13) rfl rfl ?_ | refine mx_aload_nq C dX0_giveBackLatest_12 (pc' := 13) rfl rfl ?_
  refine gX0_23 C dX0_giveBackLatest_13 (pc' := 16) rfl (hgc) rfl ?_
  first | refine pX0_20 C dX0_giveBackLatest_16 (pc' := 19) rfl (ha) (Nat.le_of_ble_eq_true rfl) rfl rfl (fs' := [_, _, _, _, _, _, _, _]) rfl ?_ | refine pX0_20 C dX0_giveBackLatest_16 (pc' := 19) rfl (ha) (Nat.le_of_ble_eq_true rfl) (mx_nrf _ _) (mx_frf _ _) (fs' := [_, _, _, _, _, _, _, _]) rfl ?_
  first | refine mx_aload_n C dX0_giveBackLatest_19 (pc' := 20) rfl rfl ?_ | refine mx_aload_nq C dX0_giveBackLatest_19 (pc' := 20) rfl rfl ?_
  refine mx_null C dX0_giveBackLatest_20 (pc' := 21) rfl ?_
  first | refine pX0_23 C dX0_giveBackLatest_21 (pc' := 24) rfl (by rw [va_up_ne _ _ hne2]; exact hgc) (Nat.le_of_ble_eq_true rfl) rfl rfl (fs' := [_, _, _, _, _, _, _, _]) rfl ?_ | refine pX0_23 C dX0_giveBackLatest_21 (pc' := 24) rfl (by rw [va_up_ne _ _ hne2]; exact hgc) (Nat.le_of_ble_eq_true rfl) (mx_nrf _ _) (mx_frf _ _) (fs' := [_, _, _, _, _, _, _, _]) rfl ?_
  first | refine mx_aload_n C dX0_giveBackLatest_24 (pc' := 25) rfl rfl ?_ | refine mx_aload_nq C dX0_giveBackLatest_24 (pc' := 25) rfl rfl ?_
  refine mx_null C dX0_giveBackLatest_25 (pc' := 26) rfl ?_
  first | refine pX0_16 C dX0_giveBackLatest_26 (pc' := 29) rfl (va_up_self _ _ _) (Nat.le_of_ble_eq_true rfl) rfl rfl (fs' := [_, _, _, _, _, _, _, _]) rfl ?_ | refine pX0_16 C dX0_giveBackLatest_26 (pc' := 29) rfl (va_up_self _ _ _) (Nat.le_of_ble_eq_true rfl) (mx_nrf _ _) (mx_frf _ _) (fs' := [_, _, _, _, _, _, _, _]) rfl ?_
  refine mx_heap (bx_uu _ _ _ _) ?_
  refine mx_iconst C (v := nI 1) (by decide) dX0_giveBackLatest_29 (pc' := 30) rfl ?_
  first | exact mx_zret C hr (mx_b_nz _) dX0_giveBackLatest_30 (by omega) (by omega) (⟨fun z => (by cases z), fun g z c0 c1 c2 c3 c4 c5 c6 ea' z2 => by cases z; rw [hgc] at z2; simp only [Option.some.injEq, Sum.inr.injEq, Prod.mk.injEq, List.cons.injEq] at z2; obtain ⟨-, rfl, rfl, rfl, rfl, rfl, rfl, rfl, e1, -⟩ := z2; exact ⟨rfl, by rw [e1]⟩⟩) | exact mx_zret C hr rfl dX0_giveBackLatest_30 (by omega) (by omega) (⟨fun z => (by cases z), fun g z c0 c1 c2 c3 c4 c5 c6 ea' z2 => by cases z; rw [hgc] at z2; simp only [Option.some.injEq, Sum.inr.injEq, Prod.mk.injEq, List.cons.injEq] at z2; obtain ⟨-, rfl, rfl, rfl, rfl, rfl, rfl, rfl, e1, -⟩ := z2; exact ⟨rfl, by rw [e1]⟩⟩)
theorem c_X6_append (h : mx_H) {x ow ch n c : Nat} {nu tg : Int32} {nx : Value} {t : Nat → Nat} (hx : tx_at G h x nu tg ow ch nx n t) (hc : c < 256) (hne : x ≠ ch) :
    mx_M l G base yX6_append cX6_append 2 none 0 0 0 0 [.ref x, .int (nI c)] h (fun v h' => v = none ∧ (n < 60 → ∃ T : Nat → Int32, (∀ j, j < n + 1 → T j = nI (va_up t n c j)) ∧ h' = va_up (va_up h ch (some (.inl (G.2 2, 60, .inl T)))) x (some (.inr (6, [.int nu, .int tg, .ref ow, .ref ch, .int (nI (n + 1)), nx])))) ∧ (n = 60 → h = h')) := by
  obtain ⟨hn, hx1, T, hch, hT⟩ := hx
  refine mx_enter (lo := [some (.ref x), some (.int (nI c))]) (by decide) (mx_in wd_code_yX6_append rfl) (Nat.le_of_ble_eq_true rfl) rfl ?_
  intro p ev s mt args below meth cd C hr hnm
  have C : mx_C p s mt args meth cd cX6_append 2 RX6 G base := C
  first | refine mx_aload_n C dX6_append_0 (pc' := 1) rfl rfl ?_ | refine mx_aload_nq C dX6_append_0 (pc' := 1) rfl rfl ?_
  refine gX6_26 C dX6_append_1 (pc' := 4) rfl (hx1) rfl ?_
  first | refine mx_aload_n C dX6_append_4 (pc' := 5) rfl rfl ?_ | refine mx_aload_nq C dX6_append_4 (pc' := 5) rfl rfl ?_
  refine gX6_22 C dX6_append_5 (pc' := 8) rfl (hx1) rfl ?_
  refine mx_alenc C dX6_append_8 (pc' := 9) rfl (hch) ?_
  refine mx_N_ge C dX6_append_9 (tgt := 32) (by decide) (pc' := 12) rfl (by omega) (by omega) (fun h9 => ?_) (fun h9 => ?_)
  · skip
    exact mx_vret C hr dX6_append_32 (by omega) (by omega) (⟨rfl, fun z => absurd z (by omega), fun _ => rfl⟩)
  first | refine mx_aload_n C dX6_append_12 (pc' := 13) rfl rfl ?_ | refine mx_aload_nq C dX6_append_12 (pc' := 13) rfl rfl ?_
  refine gX6_22 C dX6_append_13 (pc' := 16) rfl (hx1) rfl ?_
  first | refine mx_aload_n C dX6_append_16 (pc' := 17) rfl rfl ?_ | refine mx_aload_nq C dX6_append_16 (pc' := 17) rfl rfl ?_
  refine gX6_26 C dX6_append_17 (pc' := 20) rfl (hx1) rfl ?_
  refine mx_iload_n C dX6_append_20 (pc' := 21) rfl rfl ?_
  refine mx_cast C dX6_append_21 (pc' := 22) rfl hch rfl (show n < 60 by omega) (by decide) ?_
  rw [nar_c hc]
  have E : va_up h ch (some (.inl (G.2 2, 60, .inl (upd T n (nI c))))) x = some (.inr (6, [.int nu, .int tg, .ref ow, .ref ch, .int (nI n), nx])) := by rw [va_up_ne _ _ hne]; exact hx1
  first | refine mx_aload_n C dX6_append_22 (pc' := 23) rfl rfl ?_ | refine mx_aload_nq C dX6_append_22 (pc' := 23) rfl rfl ?_
  refine mx_dup C rfl dX6_append_23 (pc' := 24) rfl ?_
  refine gX6_26 C dX6_append_24 (pc' := 27) rfl (E) rfl ?_
  refine mx_iconst C (v := nI 1) (by decide) dX6_append_27 (pc' := 28) rfl ?_
  refine mx_iadd C dX6_append_28 (pc' := 29) rfl ?_
  rw [nI_add]
  refine pX6_26 C dX6_append_29 (pc' := 32) rfl (E) (Nat.le_of_ble_eq_true rfl) rfl rfl (fs' := [_, _, _, _, _, _]) rfl ?_
  exact mx_vret C hr dX6_append_32 (by omega) (by omega) (⟨rfl, fun _ => ⟨_, fun j hj => by unfold upd va_up; by_cases e1 : j = n <;> simp [e1]; exact (hT j (by omega)).1, rfl⟩, fun z => absurd z (by omega)⟩)
theorem c_X6_isOf (h : mx_H) {A : mxA} {σ : mxS} {la ea : Nat → Nat} {mk : Nat → Bool} (hn : st_n σ ≤ 40) (hs : si_in σ) (hb : ci_bk A h σ la ea mk) {x o r n ch : Nat} {nu tg : Int32} {nx : Value} {t : Nat → Nat} (hx : tx_at G h x nu tg (aB A o) ch nx n t) (h1 : 1 ≤ o) (h2 : o ≤ st_n σ) (h3 : 1 ≤ r) (h4 : r ≤ st_n σ) :
    mx_M l G base yX6_isOf cX6_isOf 2 (some .boolean) 1 21 0 0 [.ref x, .ref (aB A r)] h (fun v h' => v = some (.int (mx_b (decide (tp σ o = r)))) ∧ h = h') := by
  obtain ⟨t1, t2, t3⟩ := tp_in hs _ o rfl h1 h2
  refine mx_enter (lo := [some (.ref x), some (.ref (aB A r))]) (by decide) (mx_in wd_code_yX6_isOf rfl) (Nat.le_of_ble_eq_true rfl) rfl ?_
  intro p ev s mt args below meth cd C hr hnm
  have C : mx_C p s mt args meth cd cX6_isOf 2 RX6 G base := C
  first | refine mx_aload_n C dX6_isOf_0 (pc' := 1) rfl rfl ?_ | refine mx_aload_nq C dX6_isOf_0 (pc' := 1) rfl rfl ?_
  refine gX6_18 C dX6_isOf_1 (pc' := 4) rfl (hx.2.1) rfl ?_
  refine cX6_29 C dX6_isOf_4 (pc' := 7) rfl (hb o h1 h2) (c_X0_outermost l G base h hs hb h1 h2) ⟨by decide, by decide, by decide, by decide, Nat.le_of_ble_eq_true rfl⟩ ?_
  rintro _ _ ⟨rfl, rfl⟩
  first | refine mx_aload_n C dX6_isOf_7 (pc' := 8) rfl rfl ?_ | refine mx_aload_nq C dX6_isOf_7 (pc' := 8) rfl rfl ?_
  refine mx_stk (st' := [va_rf (some (aB A r)), va_rf (some (aB A (tp σ o)))]) rfl ?_
  refine mx_acmp_ne C dX6_isOf_8 (tgt := 15) (by decide) (pc' := 11) rfl (fun h8 => ?_) (fun h8 => ?_)
  · skip
    refine mx_iconst C (v := nI 0) (by decide) dX6_isOf_15 (pc' := 16) rfl ?_
    first | exact mx_zret C hr (mx_b_nz _) dX6_isOf_16 (by omega) (by omega) (⟨mx_ok0 (decide_eq_false (fun z => h8 (by rw [z]))), rfl⟩) | exact mx_zret C hr rfl dX6_isOf_16 (by omega) (by omega) (⟨mx_ok0 (decide_eq_false (fun z => h8 (by rw [z]))), rfl⟩)
  · skip
    refine mx_iconst C (v := nI 1) (by decide) dX6_isOf_11 (pc' := 12) rfl ?_
    refine mx_goto C dX6_isOf_12 (tgt := 16) (by decide) ?_
    first | exact mx_zret C hr (mx_b_nz _) dX6_isOf_16 (by omega) (by omega) (⟨mx_ok1 (decide_eq_true (aB_inj hn hb t1 t2 h3 h4 (Option.some.inj h8))), rfl⟩) | exact mx_zret C hr rfl dX6_isOf_16 (by omega) (by omega) (⟨mx_ok1 (decide_eq_true (aB_inj hn hb t1 t2 h3 h4 (Option.some.inj h8))), rfl⟩)
theorem c_X6_beats (h : mx_H) {x y o1 o2 c1 c2 n1 n2 i j : Nat} {g1 g2 k1 k2 : Int32} {x1 x2 u1 u2 : Value} {f1 f2 : List Value} {t1 t2 : Nat → Nat} (hx : tx_at G h x (nI i) g1 o1 c1 x1 n1 t1) (hy : tx_at G h y (nI j) g2 o2 c2 x2 n2 t2) (ho1 : h o1 = some (.inr (0, u1 :: .int k1 :: f1))) (ho2 : h o2 = some (.inr (0, u2 :: .int k2 :: f2))) (hi : i ≤ 200) (hj : j ≤ 200) :
    mx_M l G base yX6_beats cX6_beats 2 (some .boolean) 0 0 0 0 [.ref x, .ref y] h (fun v h' => v = some (.int (mx_b (if n1 = n2 then (if k1 = k2 then decide (i < j) else decide (k2 < k1)) else decide (n2 < n1)))) ∧ h = h') := by
  obtain ⟨hn1, hx, -⟩ := hx
  obtain ⟨hn2, hy, -⟩ := hy
  refine mx_enter (lo := [some (.ref x), some (.ref y)]) (by decide) (mx_in wd_code_yX6_beats rfl) (Nat.le_of_ble_eq_true rfl) rfl ?_
  intro p ev s mt args below meth cd C hr hnm
  have C : mx_C p s mt args meth cd cX6_beats 2 RX6 G base := C
  have q : ∀ z w : Int32, ¬ z ≤ w → w < z := fun z w h9 => Int32.not_le.mp h9
  have q2 : ∀ z w : Int32, z ≤ w → ¬ w < z := fun z w h9 => Int32.not_lt.mpr h9
  first | refine mx_aload_n C dX6_beats_0 (pc' := 1) rfl rfl ?_ | refine mx_aload_nq C dX6_beats_0 (pc' := 1) rfl rfl ?_
  refine gX6_26 C dX6_beats_1 (pc' := 4) rfl (hx) rfl ?_
  first | refine mx_aload_n C dX6_beats_4 (pc' := 5) rfl rfl ?_ | refine mx_aload_nq C dX6_beats_4 (pc' := 5) rfl rfl ?_
  refine gX6_26 C dX6_beats_5 (pc' := 8) rfl (hy) rfl ?_
  refine mx_N_eq C dX6_beats_8 (tgt := 28) (by decide) (pc' := 11) rfl (by omega) (by omega) (fun hb8 => ?_) (fun hb8 => ?_)
  · first | refine mx_aload_n C dX6_beats_28 (pc' := 29) rfl rfl ?_ | refine mx_aload_nq C dX6_beats_28 (pc' := 29) rfl rfl ?_
    refine gX6_18 C dX6_beats_29 (pc' := 32) rfl (hx) rfl ?_
    refine gX6_35 C dX6_beats_32 (pc' := 35) rfl (ho1) rfl ?_
    first | refine mx_aload_n C dX6_beats_35 (pc' := 36) rfl rfl ?_ | refine mx_aload_nq C dX6_beats_35 (pc' := 36) rfl rfl ?_
    refine gX6_18 C dX6_beats_36 (pc' := 39) rfl (hy) rfl ?_
    refine gX6_35 C dX6_beats_39 (pc' := 42) rfl (ho2) rfl ?_
    refine mx_icmp_eq C dX6_beats_42 (tgt := 68) (by decide) (pc' := 45) rfl (fun hb42 => ?_) (fun hb42 => ?_)
    · first | refine mx_aload_n C dX6_beats_68 (pc' := 69) rfl rfl ?_ | refine mx_aload_nq C dX6_beats_68 (pc' := 69) rfl rfl ?_
      refine gX6_9 C dX6_beats_69 (pc' := 72) rfl (hx) rfl ?_
      first | refine mx_aload_n C dX6_beats_72 (pc' := 73) rfl rfl ?_ | refine mx_aload_nq C dX6_beats_72 (pc' := 73) rfl rfl ?_
      refine gX6_9 C dX6_beats_73 (pc' := 76) rfl (hy) rfl ?_
      refine mx_N_ge C dX6_beats_76 (tgt := 83) (by decide) (pc' := 79) rfl (by omega) (by omega) (fun hb76 => ?_) (fun hb76 => ?_)
      · refine mx_iconst C (v := nI 0) (by decide) dX6_beats_83 (pc' := 84) rfl ?_
        first | exact mx_zret C hr (mx_b_nz _) dX6_beats_84 (by omega) (by omega) (⟨by first | (rw [if_pos (by assumption), if_pos (by assumption)]; first | exact mx_ok1 (decide_eq_true (by omega)) | exact mx_ok0 (decide_eq_false (by omega))) | (rw [if_pos (by assumption), if_neg (by assumption)]; first | exact mx_ok1 (decide_eq_true (q _ _ (by assumption))) | exact mx_ok0 (decide_eq_false (q2 _ _ (by assumption)))) | (rw [if_neg (by assumption)]; first | exact mx_ok1 (decide_eq_true (by omega)) | exact mx_ok0 (decide_eq_false (by omega))), rfl⟩) | exact mx_zret C hr rfl dX6_beats_84 (by omega) (by omega) (⟨by first | (rw [if_pos (by assumption), if_pos (by assumption)]; first | exact mx_ok1 (decide_eq_true (by omega)) | exact mx_ok0 (decide_eq_false (by omega))) | (rw [if_pos (by assumption), if_neg (by assumption)]; first | exact mx_ok1 (decide_eq_true (q _ _ (by assumption))) | exact mx_ok0 (decide_eq_false (q2 _ _ (by assumption)))) | (rw [if_neg (by assumption)]; first | exact mx_ok1 (decide_eq_true (by omega)) | exact mx_ok0 (decide_eq_false (by omega))), rfl⟩)
      · refine mx_iconst C (v := nI 1) (by decide) dX6_beats_79 (pc' := 80) rfl ?_
        refine mx_goto C dX6_beats_80 (tgt := 84) (by decide) ?_
        first | exact mx_zret C hr (mx_b_nz _) dX6_beats_84 (by omega) (by omega) (⟨by first | (rw [if_pos (by assumption), if_pos (by assumption)]; first | exact mx_ok1 (decide_eq_true (by omega)) | exact mx_ok0 (decide_eq_false (by omega))) | (rw [if_pos (by assumption), if_neg (by assumption)]; first | exact mx_ok1 (decide_eq_true (q _ _ (by assumption))) | exact mx_ok0 (decide_eq_false (q2 _ _ (by assumption)))) | (rw [if_neg (by assumption)]; first | exact mx_ok1 (decide_eq_true (by omega)) | exact mx_ok0 (decide_eq_false (by omega))), rfl⟩) | exact mx_zret C hr rfl dX6_beats_84 (by omega) (by omega) (⟨by first | (rw [if_pos (by assumption), if_pos (by assumption)]; first | exact mx_ok1 (decide_eq_true (by omega)) | exact mx_ok0 (decide_eq_false (by omega))) | (rw [if_pos (by assumption), if_neg (by assumption)]; first | exact mx_ok1 (decide_eq_true (q _ _ (by assumption))) | exact mx_ok0 (decide_eq_false (q2 _ _ (by assumption)))) | (rw [if_neg (by assumption)]; first | exact mx_ok1 (decide_eq_true (by omega)) | exact mx_ok0 (decide_eq_false (by omega))), rfl⟩)
    · first | refine mx_aload_n C dX6_beats_45 (pc' := 46) rfl rfl ?_ | refine mx_aload_nq C dX6_beats_45 (pc' := 46) rfl rfl ?_
      refine gX6_18 C dX6_beats_46 (pc' := 49) rfl (hx) rfl ?_
      refine gX6_35 C dX6_beats_49 (pc' := 52) rfl (ho1) rfl ?_
      first | refine mx_aload_n C dX6_beats_52 (pc' := 53) rfl rfl ?_ | refine mx_aload_nq C dX6_beats_52 (pc' := 53) rfl rfl ?_
      refine gX6_18 C dX6_beats_53 (pc' := 56) rfl (hy) rfl ?_
      refine gX6_35 C dX6_beats_56 (pc' := 59) rfl (ho2) rfl ?_
      refine mx_icmp_le C dX6_beats_59 (tgt := 66) (by decide) (pc' := 62) rfl (fun hb59 => ?_) (fun hb59 => ?_)
      · refine mx_iconst C (v := nI 0) (by decide) dX6_beats_66 (pc' := 67) rfl ?_
        first | exact mx_zret C hr (mx_b_nz _) dX6_beats_67 (by omega) (by omega) (⟨by first | (rw [if_pos (by assumption), if_pos (by assumption)]; first | exact mx_ok1 (decide_eq_true (by omega)) | exact mx_ok0 (decide_eq_false (by omega))) | (rw [if_pos (by assumption), if_neg (by assumption)]; first | exact mx_ok1 (decide_eq_true (q _ _ (by assumption))) | exact mx_ok0 (decide_eq_false (q2 _ _ (by assumption)))) | (rw [if_neg (by assumption)]; first | exact mx_ok1 (decide_eq_true (by omega)) | exact mx_ok0 (decide_eq_false (by omega))), rfl⟩) | exact mx_zret C hr rfl dX6_beats_67 (by omega) (by omega) (⟨by first | (rw [if_pos (by assumption), if_pos (by assumption)]; first | exact mx_ok1 (decide_eq_true (by omega)) | exact mx_ok0 (decide_eq_false (by omega))) | (rw [if_pos (by assumption), if_neg (by assumption)]; first | exact mx_ok1 (decide_eq_true (q _ _ (by assumption))) | exact mx_ok0 (decide_eq_false (q2 _ _ (by assumption)))) | (rw [if_neg (by assumption)]; first | exact mx_ok1 (decide_eq_true (by omega)) | exact mx_ok0 (decide_eq_false (by omega))), rfl⟩)
      · refine mx_iconst C (v := nI 1) (by decide) dX6_beats_62 (pc' := 63) rfl ?_
        refine mx_goto C dX6_beats_63 (tgt := 67) (by decide) ?_
        first | exact mx_zret C hr (mx_b_nz _) dX6_beats_67 (by omega) (by omega) (⟨by first | (rw [if_pos (by assumption), if_pos (by assumption)]; first | exact mx_ok1 (decide_eq_true (by omega)) | exact mx_ok0 (decide_eq_false (by omega))) | (rw [if_pos (by assumption), if_neg (by assumption)]; first | exact mx_ok1 (decide_eq_true (q _ _ (by assumption))) | exact mx_ok0 (decide_eq_false (q2 _ _ (by assumption)))) | (rw [if_neg (by assumption)]; first | exact mx_ok1 (decide_eq_true (by omega)) | exact mx_ok0 (decide_eq_false (by omega))), rfl⟩) | exact mx_zret C hr rfl dX6_beats_67 (by omega) (by omega) (⟨by first | (rw [if_pos (by assumption), if_pos (by assumption)]; first | exact mx_ok1 (decide_eq_true (by omega)) | exact mx_ok0 (decide_eq_false (by omega))) | (rw [if_pos (by assumption), if_neg (by assumption)]; first | exact mx_ok1 (decide_eq_true (q _ _ (by assumption))) | exact mx_ok0 (decide_eq_false (q2 _ _ (by assumption)))) | (rw [if_neg (by assumption)]; first | exact mx_ok1 (decide_eq_true (by omega)) | exact mx_ok0 (decide_eq_false (by omega))), rfl⟩)
  · first | refine mx_aload_n C dX6_beats_11 (pc' := 12) rfl rfl ?_ | refine mx_aload_nq C dX6_beats_11 (pc' := 12) rfl rfl ?_
    refine gX6_26 C dX6_beats_12 (pc' := 15) rfl (hx) rfl ?_
    first | refine mx_aload_n C dX6_beats_15 (pc' := 16) rfl rfl ?_ | refine mx_aload_nq C dX6_beats_15 (pc' := 16) rfl rfl ?_
    refine gX6_26 C dX6_beats_16 (pc' := 19) rfl (hy) rfl ?_
    refine mx_N_le C dX6_beats_19 (tgt := 26) (by decide) (pc' := 22) rfl (by omega) (by omega) (fun hb19 => ?_) (fun hb19 => ?_)
    · refine mx_iconst C (v := nI 0) (by decide) dX6_beats_26 (pc' := 27) rfl ?_
      first | exact mx_zret C hr (mx_b_nz _) dX6_beats_27 (by omega) (by omega) (⟨by first | (rw [if_pos (by assumption), if_pos (by assumption)]; first | exact mx_ok1 (decide_eq_true (by omega)) | exact mx_ok0 (decide_eq_false (by omega))) | (rw [if_pos (by assumption), if_neg (by assumption)]; first | exact mx_ok1 (decide_eq_true (q _ _ (by assumption))) | exact mx_ok0 (decide_eq_false (q2 _ _ (by assumption)))) | (rw [if_neg (by assumption)]; first | exact mx_ok1 (decide_eq_true (by omega)) | exact mx_ok0 (decide_eq_false (by omega))), rfl⟩) | exact mx_zret C hr rfl dX6_beats_27 (by omega) (by omega) (⟨by first | (rw [if_pos (by assumption), if_pos (by assumption)]; first | exact mx_ok1 (decide_eq_true (by omega)) | exact mx_ok0 (decide_eq_false (by omega))) | (rw [if_pos (by assumption), if_neg (by assumption)]; first | exact mx_ok1 (decide_eq_true (q _ _ (by assumption))) | exact mx_ok0 (decide_eq_false (q2 _ _ (by assumption)))) | (rw [if_neg (by assumption)]; first | exact mx_ok1 (decide_eq_true (by omega)) | exact mx_ok0 (decide_eq_false (by omega))), rfl⟩)
    · refine mx_iconst C (v := nI 1) (by decide) dX6_beats_22 (pc' := 23) rfl ?_
      refine mx_goto C dX6_beats_23 (tgt := 27) (by decide) ?_
      first | exact mx_zret C hr (mx_b_nz _) dX6_beats_27 (by omega) (by omega) (⟨by first | (rw [if_pos (by assumption), if_pos (by assumption)]; first | exact mx_ok1 (decide_eq_true (by omega)) | exact mx_ok0 (decide_eq_false (by omega))) | (rw [if_pos (by assumption), if_neg (by assumption)]; first | exact mx_ok1 (decide_eq_true (q _ _ (by assumption))) | exact mx_ok0 (decide_eq_false (q2 _ _ (by assumption)))) | (rw [if_neg (by assumption)]; first | exact mx_ok1 (decide_eq_true (by omega)) | exact mx_ok0 (decide_eq_false (by omega))), rfl⟩) | exact mx_zret C hr rfl dX6_beats_27 (by omega) (by omega) (⟨by first | (rw [if_pos (by assumption), if_pos (by assumption)]; first | exact mx_ok1 (decide_eq_true (by omega)) | exact mx_ok0 (decide_eq_false (by omega))) | (rw [if_pos (by assumption), if_neg (by assumption)]; first | exact mx_ok1 (decide_eq_true (q _ _ (by assumption))) | exact mx_ok0 (decide_eq_false (q2 _ _ (by assumption)))) | (rw [if_neg (by assumption)]; first | exact mx_ok1 (decide_eq_true (by omega)) | exact mx_ok0 (decide_eq_false (by omega))), rfl⟩)
theorem c_X6_lastFourDigits (h : mx_H) {x ow ch n : Nat} {nu tg : Int32} {nx : Value} {t : Nat → Nat} (hx : tx_at G h x nu tg ow ch nx n t) :
    mx_M l G base yX6_lastFourDigits cX6_lastFourDigits 3 (some .int) 1 20 0 0 [.ref x] h (fun v h' => v = some (.int (nI (nm t n))) ∧ h = h') := by
  obtain ⟨hn, hx1, T, hch, hT⟩ := hx
  refine mx_enter (lo := [some (.ref x), none, none]) (by decide) (mx_in wd_code_yX6_lastFourDigits rfl) (Nat.le_of_ble_eq_true rfl) rfl ?_
  intro p ev s mt args below meth cd C hr hnm
  have C : mx_C p s mt args meth cd cX6_lastFourDigits 3 RX6 G base := C
  have loop : ∀ (d i : Nat), n - i = d → i ≤ n → mx_V p l ev { frames := 1, cells := 0, slots := 0, locals := 20 } s mt args below meth cd G base 3 (MQ below (mx_Qc G base (fun v h' => v = some (.int (nI (nm t n))) ∧ h = h')) args s 0 0 (mx_A base)) h 0 0 4 [some (.ref x), some (.int (nI (nm t i))), some (.int (nI i))] [] := by
    intro d
    induction d using Nat.strongRecOn with
    | ind d ih =>
    intro i hd hi
    have hlt := nm_lt t i
    refine mx_iload_n C dX6_lastFourDigits_4 (pc' := 5) rfl rfl ?_
    first | refine mx_aload_n C dX6_lastFourDigits_5 (pc' := 6) rfl rfl ?_ | refine mx_aload_nq C dX6_lastFourDigits_5 (pc' := 6) rfl rfl ?_
    refine gX6_26 C dX6_lastFourDigits_6 (pc' := 9) rfl (hx1) rfl ?_
    refine mx_N_ge C dX6_lastFourDigits_9 (tgt := 58) (by decide) (pc' := 12) rfl (by omega) (by omega) (fun h9 => ?_) (fun h9 => ?_)
    · have e1 : i = n := by omega
      subst e1
      refine mx_iload_n C dX6_lastFourDigits_58 (pc' := 59) rfl rfl ?_
      exact mx_iret C hr dX6_lastFourDigits_59 (by omega) (by omega) (⟨rfl, rfl⟩)
    refine mx_iload_n C dX6_lastFourDigits_12 (pc' := 13) rfl rfl ?_
    first | refine mx_aload_n C dX6_lastFourDigits_13 (pc' := 14) rfl rfl ?_ | refine mx_aload_nq C dX6_lastFourDigits_13 (pc' := 14) rfl rfl ?_
    refine gX6_22 C dX6_lastFourDigits_14 (pc' := 17) rfl (hx1) rfl ?_
    refine mx_alenc C dX6_lastFourDigits_17 (pc' := 18) rfl (hch) ?_
    refine mx_N_ge C dX6_lastFourDigits_18 (tgt := 58) (by decide) (pc' := 21) rfl (by omega) (by omega) (fun h18 => ?_) (fun h18 => ?_)
    · exact absurd h18 (by omega)
    obtain ⟨hTi, hti⟩ := hT i h9
    have key := ih _ (by omega) (i + 1) rfl (by omega)
    simp only [nm] at key
    first | refine mx_aload_n C dX6_lastFourDigits_21 (pc' := 22) rfl rfl ?_ | refine mx_aload_nq C dX6_lastFourDigits_21 (pc' := 22) rfl rfl ?_
    refine gX6_22 C dX6_lastFourDigits_22 (pc' := 25) rfl (hx1) rfl ?_
    refine mx_iload_n C dX6_lastFourDigits_25 (pc' := 26) rfl rfl ?_
    refine mx_cald C dX6_lastFourDigits_26 (pc' := 27) rfl (hch) (rfl) (show i < 60 by omega) (by decide) ?_
    rw [hTi]
    refine cX6_38 C dX6_lastFourDigits_27 (pc' := 30) rfl (c_X5_isDigit l G base h hti) ⟨by decide, by decide, by decide, by decide, Nat.le_of_ble_eq_true rfl⟩ ?_
    rintro _ _ ⟨rfl, rfl⟩
    refine mx_B_eq C dX6_lastFourDigits_30 (tgt := 52) (by decide) (pc' := 33) rfl (fun h30 => ?_) (fun h30 => ?_)
    · simp only [h30, Bool.false_eq_true, if_false] at key
      refine mx_iinc C dX6_lastFourDigits_52 (pc' := 55) rfl rfl (mx_inc _) (by first | exact mx_c1_0 | exact mx_c1_int rfl | exact mx_c1_ref rfl | exact mx_c1_none rfl | exact mx_c1_rf rfl | exact mx_c1_null rfl) (by decide) (lo' := [_, _, _]) rfl ?_
      refine mx_goto C dX6_lastFourDigits_55 (tgt := 4) (by decide) ?_
      exact key
    · have h48 := dg_i h30
      simp only [h30, if_true] at key
      refine mx_iload_n C dX6_lastFourDigits_33 (pc' := 34) rfl rfl ?_
      refine mx_bipush C (v := nI 10) (by decide) dX6_lastFourDigits_34 (pc' := 36) rfl ?_
      refine mx_imul C dX6_lastFourDigits_36 (pc' := 37) rfl ?_
      rw [pk_mul]
      first | refine mx_aload_n C dX6_lastFourDigits_37 (pc' := 38) rfl rfl ?_ | refine mx_aload_nq C dX6_lastFourDigits_37 (pc' := 38) rfl rfl ?_
      refine gX6_22 C dX6_lastFourDigits_38 (pc' := 41) rfl (hx1) rfl ?_
      refine mx_iload_n C dX6_lastFourDigits_41 (pc' := 42) rfl rfl ?_
      refine mx_cald C dX6_lastFourDigits_42 (pc' := 43) rfl (hch) (rfl) (show i < 60 by omega) (by decide) ?_
      rw [hTi]
      refine mx_iadd C dX6_lastFourDigits_43 (pc' := 44) rfl ?_
      rw [nI_add]
      refine mx_bipush C (v := nI 48) (by decide) dX6_lastFourDigits_44 (pc' := 46) rfl ?_
      refine mx_isub C dX6_lastFourDigits_46 (pc' := 47) rfl ?_
      rw [pk_sub (show 48 ≤ nm t i * 10 + t i by omega), show nm t i * 10 + t i - 48 = nm t i * 10 + (t i - 48) by omega]
      refine mx_sipush C (v := nI 10000) (by decide) dX6_lastFourDigits_47 (pc' := 50) rfl ?_
      refine mx_irem C (by decide) dX6_lastFourDigits_50 (pc' := 51) rfl ?_
      rw [pk_rem (by omega) (by decide) (by decide)]
      refine mx_istore_n C dX6_lastFourDigits_51 (pc' := 52) rfl (by first | exact mx_c1_0 | exact mx_c1_int rfl | exact mx_c1_ref rfl | exact mx_c1_none rfl | exact mx_c1_rf rfl | exact mx_c1_null rfl) (by decide) (lo' := [_, _, _]) rfl ?_
      refine mx_iinc C dX6_lastFourDigits_52 (pc' := 55) rfl rfl (mx_inc _) (by first | exact mx_c1_0 | exact mx_c1_int rfl | exact mx_c1_ref rfl | exact mx_c1_none rfl | exact mx_c1_rf rfl | exact mx_c1_null rfl) (by decide) (lo' := [_, _, _]) rfl ?_
      refine mx_goto C dX6_lastFourDigits_55 (tgt := 4) (by decide) ?_
      exact key
  refine mx_iconst C (v := nI 0) (by decide) dX6_lastFourDigits_0 (pc' := 1) rfl ?_
  refine mx_istore_n C dX6_lastFourDigits_1 (pc' := 2) rfl (by first | exact mx_c1_0 | exact mx_c1_int rfl | exact mx_c1_ref rfl | exact mx_c1_none rfl | exact mx_c1_rf rfl | exact mx_c1_null rfl) (by decide) (lo' := [_, _, _]) rfl ?_
  refine mx_iconst C (v := nI 0) (by decide) dX6_lastFourDigits_2 (pc' := 3) rfl ?_
  refine mx_istore_n C dX6_lastFourDigits_3 (pc' := 4) rfl (by first | exact mx_c1_0 | exact mx_c1_int rfl | exact mx_c1_ref rfl | exact mx_c1_none rfl | exact mx_c1_rf rfl | exact mx_c1_null rfl) (by decide) (lo' := [_, _, _]) rfl ?_
  exact loop _ 0 rfl (by omega)
end BK
