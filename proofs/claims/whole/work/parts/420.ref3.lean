/-! the reference: keys -/
def spr (p : Nat) : Nat := p / 2097152 % 128 * 16777216 + p / 16384 % 128 * 65536 + p / 128 % 128 * 256 + p % 128
theorem spr_at {a b c d : Nat} (ha : a < 128) (hb : b < 128) (hc : c < 128) (hd : d < 128) : spr (((a * 128 + b) * 128 + c) * 128 + d) = ((a * 256 + b) * 256 + c) * 256 + d := by
  unfold spr
  rw [show (((a * 128 + b) * 128 + c) * 128 + d) / 2097152 = a by omega, show (((a * 128 + b) * 128 + c) * 128 + d) / 16384 = a * 128 + b by omega, show (((a * 128 + b) * 128 + c) * 128 + d) / 128 = (a * 128 + b) * 128 + c by omega]
  omega
theorem spr_of {p : Nat} (h : p < 268435456) : ∃ a b c d : Nat, a < 128 ∧ b < 128 ∧ c < 128 ∧ d < 128 ∧ p = ((a * 128 + b) * 128 + c) * 128 + d :=
  ⟨p / 2097152, p / 16384 % 128, p / 128 % 128, p % 128, by omega, by omega, by omega, by omega, by omega⟩
theorem spr_inj {p q : Nat} (hp : p < 268435456) (hq : q < 268435456) (h : spr p = spr q) : p = q := by
  obtain ⟨a, b, c, d, ha, hb, hc, hd, rfl⟩ := spr_of hp
  obtain ⟨a', b', c', d', ha', hb', hc', hd', rfl⟩ := spr_of hq
  rw [spr_at ha hb hc hd, spr_at ha' hb' hc' hd'] at h
  have : a = a' ∧ b = b' ∧ c = c' ∧ d = d' := ⟨by omega, by omega, by omega, by omega⟩
  obtain ⟨rfl, rfl, rfl, rfl⟩ := this
  rfl
theorem spr_lt {p : Nat} (h : p < 268435456) : spr p < 4294967296 := by
  obtain ⟨a, b, c, d, ha, hb, hc, hd, rfl⟩ := spr_of h
  rw [spr_at ha hb hc hd]; omega
def rp (t : Nat → Nat) (s : Nat) : Nat → Nat
  | 0 => 1
  | k + 1 => 256 * rp t s k + lw (t (s + k))
theorem rp_spr {t : Nat → Nat} {s : Nat} (h : ∀ j, j < 4 → t (s + j) < 256 ∧ wd (t (s + j)) = true) : rp t s 4 = spr (pv t s 4) + 4294967296 := by
  have e : ∀ j, j < 4 → iw (t (s + j)) = lw (t (s + j)) ∧ iw (t (s + j)) < 128 := fun j hj => ⟨iw_wd (h j hj).2, iw_lt _ (h j hj).1⟩
  obtain ⟨a0, b0⟩ := e 0 (by decide)
  obtain ⟨a1, b1⟩ := e 1 (by decide)
  obtain ⟨a2, b2⟩ := e 2 (by decide)
  obtain ⟨a3, b3⟩ := e 3 (by decide)
  have e1 : pv t s 4 = ((iw (t (s + 0)) * 128 + iw (t (s + 1))) * 128 + iw (t (s + 2))) * 128 + iw (t (s + 3)) := by
    simp only [pv]; omega
  rw [e1, spr_at b0 b1 b2 b3]
  simp only [rp]
  omega
def encR (o : Option (Bool × Nat)) : Int64 := match o with
  | none => -1
  | some (false, p) => lN (spr p + 4294967296 + 1125899906842624)
  | some (true, f) => lN f
def kvr (q : Bool × Nat) : Prop := (q.1 = false → q.2 < 268435456) ∧ (q.1 = true → q.2 < 10000000000000)
def encN (q : Bool × Nat) : Nat := if q.1 then q.2 else spr q.2 + 4294967296 + 1125899906842624
theorem encR_N (q : Bool × Nat) : encR (some q) = lN (encN q) := by
  obtain ⟨b, v⟩ := q
  cases b <;> rfl
theorem encN_lt {q : Bool × Nat} (h : kvr q) : encN q < 2000000000000000 := by
  obtain ⟨b, v⟩ := q
  cases b with
  | true => have := h.2 rfl; show v < _; omega
  | false => have := spr_lt (h.1 rfl); show spr v + _ + _ < _; simp at this; omega
theorem encR_inj {q q' : Bool × Nat} (h : kvr q) (h' : kvr q') : encR (some q) = encR (some q') ↔ q = q' := by
  constructor
  · intro e
    rw [encR_N, encR_N, pk_lEQ (by have := encN_lt h; omega) (by have := encN_lt h'; omega)] at e
    obtain ⟨b, v⟩ := q
    obtain ⟨b', v'⟩ := q'
    have k1 := h.1
    have k2 := h'.1
    have k3 := h.2
    have k4 := h'.2
    unfold encN at e
    cases b <;> cases b' <;> simp at e k1 k2 k3 k4
    · rw [spr_inj k1 k2 e]
    · omega
    · omega
    · rw [e]
  · intro e; rw [e]
theorem encR_ne {q : Bool × Nat} (h : kvr q) : encR (some q) ≠ -1 := by
  intro e
  rw [encR_N] at e
  have e1 := congrArg Int64.toInt e
  rw [pk_lT (by have := encN_lt h; omega)] at e1
  have e2 : (-1 : Int64).toInt = -1 := by decide
  omega
theorem fkey_okr {g n : Nat} {t : Nat → Nat} (ht : ∀ j, j < n → t j < 256) {q : Bool × Nat} (h : fkey g t n = some q) : kvr q := by
  have h1 := fkey_ok ht h
  refine ⟨fun z => (h1.1 z).2, fun z => ?_⟩
  unfold fkey at h
  split at h
  · cases h2 : fiB (w4 t n) (wcn t n) with
    | none => rw [h2] at h; cases h
    | some k => rw [h2] at h; cases h; cases z
  · split at h
    · cases h2 : bform t n with
      | none => rw [h2] at h; cases h
      | some f => rw [h2] at h; cases h; exact bform_lt h2
    · cases h
theorem kl_okr {σ : mxS} (h : si σ) {r i : Nat} (hi : i ≤ st_k σ) : ∀ q ∈ kl σ r i, kvr q := by
  intro q hq
  obtain ⟨j, j1, -, j3⟩ := kl_mem.mp hq
  exact fkey_okr (h.2.2.2.2.2.1.1 (j + 1) (by omega) (by omega)).2.2.2.2 j3
theorem anyR {L : List (Bool × Nat)} {R : Nat → Int64} (hv : ∀ q ∈ L, kvr q) (hR : ∀ j, j < L.length → R j = encR L[j]?) {q : Bool × Nat} (hq : kvr q) : anyB (fun i => decide (R i = encR (some q))) L.length = true ↔ q ∈ L := by
  rw [anyB_iff]
  constructor
  · rintro ⟨i, h1, h2⟩
    have h2 := of_decide_eq_true h2
    rw [hR i h1, List.getElem?_eq_getElem h1] at h2
    have hm : L[i] ∈ L := List.getElem_mem h1
    rw [← (encR_inj (hv _ hm) hq).mp h2]
    exact hm
  · intro hm
    obtain ⟨i, h1, h2⟩ := List.getElem_of_mem hm
    exact ⟨i, h1, decide_eq_true (by rw [hR i h1, List.getElem?_eq_getElem h1, h2])⟩
/-- the key that field j + 1 gives to r -/
def kx (σ : mxS) (r j : Nat) : Option (Bool × Nat) := if tp σ (st_ow σ (j + 1)) = r then sky σ (j + 1) else none
theorem kl_x (σ : mxS) (r j : Nat) : kl σ r (j + 1) = match kx σ r j with
    | some q => if q ∈ kl σ r j then kl σ r j else kl σ r j ++ [q]
    | none => kl σ r j := by
  unfold kx
  simp only [kl]
  by_cases e : tp σ (st_ow σ (j + 1)) = r
  · rw [if_pos e, if_pos e]; rfl
  · rw [if_neg e, if_neg e]
section R3
variable (l : Launch) (G : mx_G) (base : Nat)
set_option maxRecDepth 20000
theorem c_X9_key (h : mx_H) {P : Nat → Nat} {σ : mxS} {th kc : Int32} {pu pd : Int64} (m : MI G P h σ th kc pu pd) {f : Nat} (f1 : 1 ≤ f) (f2 : f ≤ st_k σ) {g n : Nat} {t : Nat → Nat} (eg : st_tg σ f = g) (et : st_sg σ f = t) (en : st_sz σ f = n) : mx_M l G base yX9_key cX9_key 7 (some .long) 3 66 0 0 [.ref (P 0), .int (nI f)] h (fun v h' => v = some (.long (encR (fkey g t n))) ∧ MI G P h' σ th kc pu pd ∧ ∀ a, a ≠ P 14 → a ≠ P 15 → h' a = h a) := by
  have m3 := m.2.2.1
  have hk := m.1.2.1
  obtain ⟨h9, -, -, h60, h256⟩ := m.1.2.2.2.2.2.1.1 f f1 f2
  obtain ⟨O, T, S, Z, -, hT, -, -, hot, -, -⟩ := m.2.2.2.2.1
  have etg := (hot f f1 f2).2
  have hform := c_X9_form l G base h m f1 f2 et en
  have hwords := c_X9_words l G base h m f1 f2 (u := 14) (w := 15) (by decide) (by decide) (by decide) (by decide) (by decide)
  rw [eg] at h9 etg
  rw [et, en] at h256 hwords
  rw [en] at h60
  refine mx_enter (lo := [some (.ref (P 0)), some (.int (nI f)), none, none, none, none, none]) (by decide) (mx_in wd_code_yX9_key rfl) (Nat.le_of_ble_eq_true rfl) rfl ?_
  intro p ev s mt args below meth cd C hr hnm
  have C : mx_C p s mt args meth cd cX9_key 7 RX9 G base := C
  first | refine mx_aload_n C dX9_key_0 (pc' := 1) rfl rfl ?_ | refine mx_aload_nq C dX9_key_0 (pc' := 1) rfl rfl ?_
  refine gX9_26 C dX9_key_1 (pc' := 4) rfl (m3) rfl ?_
  refine mx_iload_n C dX9_key_4 (pc' := 5) rfl rfl ?_
  refine mx_iald C dX9_key_5 (pc' := 6) rfl (hT) (rfl) (show f < 201 by omega) (by decide) ?_
  rw [etg]
  refine mx_iconst C (v := nI 2) (by decide) dX9_key_6 (pc' := 7) rfl ?_
  refine mx_N_ne C dX9_key_7 (tgt := 16) (by decide) (pc' := 10) rfl (by omega) (by omega) (fun g1 => ?_) (fun g1 => ?_)
  rotate_left
  · skip
    first | refine mx_aload_n C dX9_key_10 (pc' := 11) rfl rfl ?_ | refine mx_aload_nq C dX9_key_10 (pc' := 11) rfl rfl ?_
    refine mx_iload_n C dX9_key_11 (pc' := 12) rfl rfl ?_
    refine cX9_108 C dX9_key_12 (pc' := 15) rfl (m3) (hform) ⟨by decide, by decide, by decide, by decide, Nat.le_of_ble_eq_true rfl⟩ ?_
    rintro _ _ ⟨rfl, rfl⟩
    refine mx_lret C hr dX9_key_15 (by omega) (by omega) ⟨?_, m, fun _ _ _ => rfl⟩
    subst g1
    show some (Value.long (bfL (bform t n))) = some (Value.long (encR (Option.map _ (bform t n))))
    cases bform t n with
    | none => rfl
    | some f => rfl
  first | refine mx_aload_n C dX9_key_16 (pc' := 17) rfl rfl ?_ | refine mx_aload_nq C dX9_key_16 (pc' := 17) rfl rfl ?_
  refine gX9_26 C dX9_key_17 (pc' := 20) rfl (m3) rfl ?_
  refine mx_iload_n C dX9_key_20 (pc' := 21) rfl rfl ?_
  refine mx_iald C dX9_key_21 (pc' := 22) rfl (hT) (rfl) (show f < 201 by omega) (by decide) ?_
  rw [etg]
  refine mx_N0_eq C dX9_key_22 (tgt := 29) (by decide) (pc' := 25) rfl (by omega) (fun g2 => ?_) (fun g2 => ?_)
  rotate_left
  · skip
    refine kX9_99 C dX9_key_25 (pc' := 28) rfl ?_
    refine mx_lret C hr dX9_key_28 (by omega) (by omega) ⟨?_, m, fun _ _ _ => rfl⟩
    unfold fkey
    rw [if_neg g2, if_neg g1]
    rfl
  subst g2
  first | refine mx_aload_n C dX9_key_29 (pc' := 30) rfl rfl ?_ | refine mx_aload_nq C dX9_key_29 (pc' := 30) rfl rfl ?_
  refine mx_iload_n C dX9_key_30 (pc' := 31) rfl rfl ?_
  first | refine mx_aload_n C dX9_key_31 (pc' := 32) rfl rfl ?_ | refine mx_aload_nq C dX9_key_31 (pc' := 32) rfl rfl ?_
  refine gX9_52 C dX9_key_32 (pc' := 35) rfl (m3) rfl ?_
  first | refine mx_aload_n C dX9_key_35 (pc' := 36) rfl rfl ?_ | refine mx_aload_nq C dX9_key_35 (pc' := 36) rfl rfl ?_
  refine gX9_55 C dX9_key_36 (pc' := 39) rfl (m3) rfl ?_
  refine cX9_114 C dX9_key_39 (pc' := 42) rfl m3 hwords ⟨by decide, by decide, by decide, by decide, Nat.le_of_ble_eq_true rfl⟩ ?_
  rintro _ _ ⟨rfl, A, B, rfl, hok⟩
  have pne : P 14 ≠ P 15 := m.2.1.ne (by decide) (by decide) (by decide)
  have m' := (m.row (i := 14) (by decide) (by decide) (A := A)).row (i := 15) (by decide) (by decide) (A := B)
  have hA : va_up (va_up h (P 14) (some (.inl (G.2 0, 60, .inl A)))) (P 15) (some (.inl (G.2 0, 60, .inl B))) (P 14) = some (.inl (G.2 0, 60, .inl A)) := by rw [va_up_ne _ _ pne, va_up_self]
  have hB : va_up (va_up h (P 14) (some (.inl (G.2 0, 60, .inl A)))) (P 15) (some (.inl (G.2 0, 60, .inl B))) (P 15) = some (.inl (G.2 0, 60, .inl B)) := va_up_self _ _ _
  have hfr : ∀ a, a ≠ P 14 → a ≠ P 15 → va_up (va_up h (P 14) (some (.inl (G.2 0, 60, .inl A)))) (P 15) (some (.inl (G.2 0, 60, .inl B))) a = h a := fun a a1 a2 => by rw [va_up_ne _ _ a2, va_up_ne _ _ a1]
  generalize va_up (va_up h (P 14) (some (.inl (G.2 0, 60, .inl A)))) (P 15) (some (.inl (G.2 0, 60, .inl B))) = h2 at *
  have m3 := m'.2.2.1
  have w30 := wcn30 (t := t) h60
  have e0 : fkey 0 t n = (fiB (w4 t n) (wcn t n)).map (fun k => (false, pv t (wst t n k) 4)) := by unfold fkey; rw [if_pos rfl]
  rw [e0]
  have loop : ∀ (d i : Nat), wcn t n - i = d → i ≤ wcn t n → fiB (w4 t n) i = none → mx_V p l ev { frames := 3, cells := 0, slots := 0, locals := 66 } s mt args below meth cd G base 7 (MQ below (mx_Qc G base (fun v h' => v = some (.long (encR ((fiB (w4 t n) (wcn t n)).map (fun k => (false, pv t (wst t n k) 4))))) ∧ MI G P h' σ th kc pu pd ∧ ∀ a, a ≠ P 14 → a ≠ P 15 → h' a = h a)) args s 0 0 (mx_A base)) h2 0 0 45 [some (.ref (P 0)), some (.int (nI f)), some (.int (nI (wcn t n))), some (.int (nI i)), none, none, none] [] := by
    intro d
    induction d using Nat.strongRecOn with
    | ind d ih =>
    intro i hd hi hno
    refine mx_iload_n C dX9_key_45 (pc' := 46) rfl rfl ?_
    refine mx_iload_n C dX9_key_46 (pc' := 47) rfl rfl ?_
    refine mx_N_ge C dX9_key_47 (tgt := 118) (by decide) (pc' := 50) rfl (by omega) (by omega) (fun g3 => ?_) (fun g3 => ?_)
    · have e1 : i = wcn t n := by omega
      rw [e1] at hno
      refine kX9_99 C dX9_key_118 (pc' := 121) rfl ?_
      exact mx_lret C hr dX9_key_121 (by omega) (by omega) (⟨by rw [hno]; rfl, m', hfr⟩)
    obtain ⟨a1, a2⟩ := hok i g3
    obtain ⟨i1, i2, i3, -⟩ := w_in t n i g3
    first | refine mx_aload_n C dX9_key_50 (pc' := 51) rfl rfl ?_ | refine mx_aload_nq C dX9_key_50 (pc' := 51) rfl rfl ?_
    refine gX9_55 C dX9_key_51 (pc' := 54) rfl (m3) rfl ?_
    refine mx_iload_n C dX9_key_54 (pc' := 55) rfl rfl ?_
    refine mx_iald C dX9_key_55 (pc' := 56) rfl (hB) (rfl) (show i < 60 by omega) (by decide) ?_
    rw [a2]
    refine mx_iconst C (v := nI 4) (by decide) dX9_key_56 (pc' := 57) rfl ?_
    refine mx_N_lt C dX9_key_57 (tgt := 112) (by decide) (pc' := 60) rfl (by omega) (by omega) (fun g4 => ?_) (fun g4 => ?_)
    · skip
      refine mx_iinc C dX9_key_112 (pc' := 115) rfl rfl (mx_inc _) (by first | exact mx_c1_0 | exact mx_c1_int rfl | exact mx_c1_ref rfl | exact mx_c1_none rfl | exact mx_c1_rf rfl | exact mx_c1_null rfl) (by decide) (lo' := [_, _, _, _, _, _, _]) rfl ?_
      refine mx_goto C dX9_key_115 (tgt := 45) (by decide) ?_
      exact ih _ (by omega) (i + 1) rfl (by omega) (fiB_s hno (by unfold w4; exact decide_eq_false (by omega)))
    have e2 : fiB (w4 t n) (wcn t n) = some i := fiB_m (fiB_t hno (by unfold w4; exact decide_eq_true (by omega))) (show i + 1 ≤ wcn t n by omega)
    rw [e2]
    have hin : ∀ j, j < 4 → t (wst t n i + j) < 256 ∧ wd (t (wst t n i + j)) = true := fun j hj => ⟨h256 _ (by omega), i3 j (by omega)⟩
    have loop2 : ∀ (q : Nat), ∀ j, 4 - j = q → j ≤ 4 → mx_V p l ev { frames := 3, cells := 0, slots := 0, locals := 66 } s mt args below meth cd G base 7 (MQ below (mx_Qc G base (fun v h' => v = some (.long (encR ((some i).map (fun k => (false, pv t (wst t n k) 4))))) ∧ MI G P h' σ th kc pu pd ∧ ∀ a, a ≠ P 14 → a ≠ P 15 → h' a = h a)) args s 0 0 (mx_A base)) h2 0 0 66 [some (.ref (P 0)), some (.int (nI f)), some (.int (nI (wcn t n))), some (.int (nI i)), some (.long (lN (rp t (wst t n i) j))), none, some (.int (nI j))] [] := by
      intro q
      induction q with
      | zero =>
        intro j hq hj
        have e3 : j = 4 := by omega
        subst e3
        refine mx_iload C dX9_key_66 (pc' := 68) rfl rfl ?_
        refine mx_iconst C (v := nI 4) (by decide) dX9_key_68 (pc' := 69) rfl ?_
        refine mx_N_ge C dX9_key_69 (tgt := 105) (by decide) (pc' := 72) rfl (by omega) (by omega) (fun g5 => ?_) (fun g5 => ?_)
        · skip
          refine mx_lload C dX9_key_105 (pc' := 107) rfl rfl ?_
          refine kX9_120 C dX9_key_107 (pc' := 110) rfl ?_
          refine mx_ladd C dX9_key_110 (pc' := 111) rfl ?_
          rw [lN_add, rp_spr hin]
          exact mx_lret C hr dX9_key_111 (by omega) (by omega) (⟨rfl, m', hfr⟩)
        · exact absurd g5 (by omega)
      | succ q ih2 =>
        intro j hq hj
        refine mx_iload C dX9_key_66 (pc' := 68) rfl rfl ?_
        refine mx_iconst C (v := nI 4) (by decide) dX9_key_68 (pc' := 69) rfl ?_
        refine mx_N_ge C dX9_key_69 (tgt := 105) (by decide) (pc' := 72) rfl (by omega) (by omega) (fun g5 => ?_) (fun g5 => ?_)
        · exact absurd g5 (by omega)
        obtain ⟨b1, b2⟩ := hin j g5
        have hat := c_X9_at l G base h2 m' f1 f2 (j := wst t n i + j) (by omega)
        rw [et] at hat
        have hlt : lw (t (wst t n i + j)) < 128 := by have := iw_lt _ b1; rw [iw_wd b2] at this; exact this
        refine kX9_118 C dX9_key_72 (pc' := 75) rfl ?_
        refine mx_lload C dX9_key_75 (pc' := 77) rfl rfl ?_
        refine mx_lmul C dX9_key_77 (pc' := 78) rfl ?_
        rw [lN_mul]
        first | refine mx_aload_n C dX9_key_78 (pc' := 79) rfl rfl ?_ | refine mx_aload_nq C dX9_key_78 (pc' := 79) rfl rfl ?_
        refine mx_iload_n C dX9_key_79 (pc' := 80) rfl rfl ?_
        first | refine mx_aload_n C dX9_key_80 (pc' := 81) rfl rfl ?_ | refine mx_aload_nq C dX9_key_80 (pc' := 81) rfl rfl ?_
        refine gX9_52 C dX9_key_81 (pc' := 84) rfl (m3) rfl ?_
        refine mx_iload_n C dX9_key_84 (pc' := 85) rfl rfl ?_
        refine mx_iald C dX9_key_85 (pc' := 86) rfl (hA) (rfl) (show i < 60 by omega) (by decide) ?_
        rw [a1]
        refine mx_iload C dX9_key_86 (pc' := 88) rfl rfl ?_
        refine mx_iadd C dX9_key_88 (pc' := 89) rfl ?_
        rw [nI_add]
        refine cX9_88 C dX9_key_89 (pc' := 92) rfl (m3) (hat) ⟨by decide, by decide, by decide, by decide, Nat.le_of_ble_eq_true rfl⟩ ?_
        rintro _ _ ⟨rfl, rfl⟩
        refine cX9_84 C dX9_key_92 (pc' := 95) rfl (c_X9_small l G base h2 b1) ⟨by decide, by decide, by decide, by decide, Nat.le_of_ble_eq_true rfl⟩ ?_
        rintro _ _ ⟨rfl, rfl⟩
        refine mx_i2l C (show (sb_b (lw (t (wst t n i + j)))).toInt64 = lN (lw (t (wst t n i + j))) by rw [sg_small _ hlt]; exact nI_l (by omega)) dX9_key_95 (pc' := 96) rfl ?_
        refine mx_ladd C dX9_key_96 (pc' := 97) rfl ?_
        rw [lN_add]
        refine mx_lstore C dX9_key_97 (pc' := 99) rfl (by first | exact mx_c1_0 | exact mx_c1_int rfl | exact mx_c1_ref rfl | exact mx_c1_none rfl | exact mx_c1_rf rfl | exact mx_c1_null rfl) (by decide) (lo' := [_, _, _, _, _, _, _]) rfl ?_
        refine mx_iinc C dX9_key_99 (pc' := 102) rfl rfl (mx_inc _) (by first | exact mx_c1_0 | exact mx_c1_int rfl | exact mx_c1_ref rfl | exact mx_c1_none rfl | exact mx_c1_rf rfl | exact mx_c1_null rfl) (by decide) (lo' := [_, _, _, _, _, _, _]) rfl ?_
        refine mx_goto C dX9_key_102 (tgt := 66) (by decide) ?_
        exact ih2 (j + 1) (by omega) (by omega)
    refine mx_lconst C (v := lN 1) (by decide) dX9_key_60 (pc' := 61) rfl ?_
    refine mx_lstore C dX9_key_61 (pc' := 63) rfl (by first | exact mx_c1_0 | exact mx_c1_int rfl | exact mx_c1_ref rfl | exact mx_c1_none rfl | exact mx_c1_rf rfl | exact mx_c1_null rfl) (by decide) (lo' := [_, _, _, _, _, _, _]) rfl ?_
    refine mx_iconst C (v := nI 0) (by decide) dX9_key_63 (pc' := 64) rfl ?_
    refine mx_istore C dX9_key_64 (pc' := 66) rfl (by first | exact mx_c1_0 | exact mx_c1_int rfl | exact mx_c1_ref rfl | exact mx_c1_none rfl | exact mx_c1_rf rfl | exact mx_c1_null rfl) (by decide) (lo' := [_, _, _, _, _, _, _]) rfl ?_
    exact loop2 4 0 rfl (by omega)
  refine mx_istore_n C dX9_key_42 (pc' := 43) rfl (by first | exact mx_c1_0 | exact mx_c1_int rfl | exact mx_c1_ref rfl | exact mx_c1_none rfl | exact mx_c1_rf rfl | exact mx_c1_null rfl) (by decide) (lo' := [_, _, _, _, _, _, _]) rfl ?_
  refine mx_iconst C (v := nI 0) (by decide) dX9_key_43 (pc' := 44) rfl ?_
  refine mx_istore_n C dX9_key_44 (pc' := 45) rfl (by first | exact mx_c1_0 | exact mx_c1_int rfl | exact mx_c1_ref rfl | exact mx_c1_none rfl | exact mx_c1_rf rfl | exact mx_c1_null rfl) (by decide) (lo' := [_, _, _, _, _, _, _]) rfl ?_
  exact loop _ 0 rfl (by omega) rfl
theorem c_X9_keysOf (h : mx_H) {P : Nat → Nat} {σ : mxS} {th kc : Int32} {pu pd : Int64} (m : MI G P h σ th kc pu pd) {r u : Nat} (hr2 : r ≤ st_n σ) (hu : u = 12 ∨ u = 13) : mx_M l G base yX9_keysOf cX9_keysOf 9 (some .int) 4 92 0 0 [.ref (P 0), .int (nI r), .ref (P u)] h (fun v h' => v = some (.int (nI (kl σ r (st_k σ)).length)) ∧ MI G P h' σ th kc pu pd ∧ (∀ a, a ≠ P 14 → a ≠ P 15 → a ≠ P u → h' a = h a) ∧ ∃ R : Nat → Int64, h' (P u) = some (.inl (G.2 1, 200, .inr (.inl R))) ∧ ∀ i, i < (kl σ r (st_k σ)).length → R i = encR (kl σ r (st_k σ))[i]?) := by
  have hk := m.1.2.1
  have hu18 : u < 18 := by omega
  obtain ⟨R0, hR0⟩ := m.2.2.2.2.2.2.1 u (by omega) (by omega)
  refine mx_enter (lo := [some (.ref (P 0)), some (.int (nI r)), some (.ref (P u)), none, none, none, none, none, none]) (by decide) (mx_in wd_code_yX9_keysOf rfl) (Nat.le_of_ble_eq_true rfl) rfl ?_
  intro p ev s mt args below meth cd C hr hnm
  have C : mx_C p s mt args meth cd cX9_keysOf 9 RX9 G base := C
  have loop : ∀ (d j : Nat) (hh : mx_H) (R : Nat → Int64), st_k σ - j = d → j ≤ st_k σ → MI G P hh σ th kc pu pd → (∀ a, a ≠ P 14 → a ≠ P 15 → a ≠ P u → hh a = h a) → hh (P u) = some (.inl (G.2 1, 200, .inr (.inl R))) → (∀ i, i < (kl σ r j).length → R i = encR (kl σ r j)[i]?) → mx_V p l ev { frames := 4, cells := 0, slots := 0, locals := 92 } s mt args below meth cd G base 9 (MQ below (mx_Qc G base (fun v h' => v = some (.int (nI (kl σ r (st_k σ)).length)) ∧ MI G P h' σ th kc pu pd ∧ (∀ a, a ≠ P 14 → a ≠ P 15 → a ≠ P u → h' a = h a) ∧ ∃ R : Nat → Int64, h' (P u) = some (.inl (G.2 1, 200, .inr (.inl R))) ∧ ∀ i, i < (kl σ r (st_k σ)).length → R i = encR (kl σ r (st_k σ))[i]?)) args s 0 0 (mx_A base)) hh 0 0 5 [some (.ref (P 0)), some (.int (nI r)), some (.ref (P u)), some (.int (nI (kl σ r j).length)), some (.int (nI (j + 1))), none, none, none, none] [] := by
    intro d
    induction d using Nat.strongRecOn with
    | ind d ih =>
    intro j hh R hd hj mm' hfr hRu hok
    have m3 := mm'.2.2.1
    have hln := kl_len σ r j
    refine mx_iload C dX9_keysOf_5 (pc' := 7) rfl rfl ?_
    first | refine mx_aload_n C dX9_keysOf_7 (pc' := 8) rfl rfl ?_ | refine mx_aload_nq C dX9_keysOf_7 (pc' := 8) rfl rfl ?_
    refine gX9_78 C dX9_keysOf_8 (pc' := 11) rfl (m3) rfl ?_
    refine mx_N_gt C dX9_keysOf_11 (tgt := 110) (by decide) (pc' := 14) rfl (by omega) (by omega) (fun g1 => ?_) (fun g1 => ?_)
    · have e1 : j = st_k σ := by omega
      subst e1
      refine mx_iload_n C dX9_keysOf_110 (pc' := 111) rfl rfl ?_
      exact mx_iret C hr dX9_keysOf_111 (by omega) (by omega) (⟨rfl, mm', hfr, R, hRu, hok⟩)
    have hv := kl_okr m.1 (r := r) (i := j) hj
    have hkx : ∀ q, kx σ r j = some q → kvr q := by
      intro q hq
      unfold kx at hq
      split at hq
      · exact fkey_okr (m.1.2.2.2.2.2.1.1 (j + 1) (by omega) (by omega)).2.2.2.2 hq
      · cases hq
    have hx := kl_x σ r j
    have k36 : ∀ hh : mx_H, MI G P hh σ th kc pu pd → (∀ a, a ≠ P 14 → a ≠ P 15 → a ≠ P u → hh a = h a) → hh (P u) = some (.inl (G.2 1, 200, .inr (.inl R))) → mx_V p l ev { frames := 4, cells := 0, slots := 0, locals := 92 } s mt args below meth cd G base 9 (MQ below (mx_Qc G base (fun v h' => v = some (.int (nI (kl σ r (st_k σ)).length)) ∧ MI G P h' σ th kc pu pd ∧ (∀ a, a ≠ P 14 → a ≠ P 15 → a ≠ P u → h' a = h a) ∧ ∃ R : Nat → Int64, h' (P u) = some (.inl (G.2 1, 200, .inr (.inl R))) ∧ ∀ i, i < (kl σ r (st_k σ)).length → R i = encR (kl σ r (st_k σ))[i]?)) args s 0 0 (mx_A base)) hh 0 0 36 [some (.ref (P 0)), some (.int (nI r)), some (.ref (P u)), some (.int (nI (kl σ r j).length)), some (.int (nI (j + 1))), none, none, none, none] [.long (encR (kx σ r j))] := by
      intro hh mm' hfr hRu
      have m3 := mm'.2.2.1
      have k52 : mx_V p l ev { frames := 4, cells := 0, slots := 0, locals := 92 } s mt args below meth cd G base 9 (MQ below (mx_Qc G base (fun v h' => v = some (.int (nI (kl σ r (st_k σ)).length)) ∧ MI G P h' σ th kc pu pd ∧ (∀ a, a ≠ P 14 → a ≠ P 15 → a ≠ P u → h' a = h a) ∧ ∃ R : Nat → Int64, h' (P u) = some (.inl (G.2 1, 200, .inr (.inl R))) ∧ ∀ i, i < (kl σ r (st_k σ)).length → R i = encR (kl σ r (st_k σ))[i]?)) args s 0 0 (mx_A base)) hh 0 0 52 [some (.ref (P 0)), some (.int (nI r)), some (.ref (P u)), some (.int (nI (kl σ r j).length)), some (.int (nI (j + 1))), some (.long (encR (kx σ r j))), none, none, none] [.int (mx_b (kx σ r j).isNone)] := by
        have loop2 : ∀ (d2 i : Nat), (kl σ r j).length - i = d2 → i ≤ (kl σ r j).length → mx_V p l ev { frames := 4, cells := 0, slots := 0, locals := 92 } s mt args below meth cd G base 9 (MQ below (mx_Qc G base (fun v h' => v = some (.int (nI (kl σ r (st_k σ)).length)) ∧ MI G P h' σ th kc pu pd ∧ (∀ a, a ≠ P 14 → a ≠ P 15 → a ≠ P u → h' a = h a) ∧ ∃ R : Nat → Int64, h' (P u) = some (.inl (G.2 1, 200, .inr (.inl R))) ∧ ∀ i, i < (kl σ r (st_k σ)).length → R i = encR (kl σ r (st_k σ))[i]?)) args s 0 0 (mx_A base)) hh 0 0 57 [some (.ref (P 0)), some (.int (nI r)), some (.ref (P u)), some (.int (nI (kl σ r j).length)), some (.int (nI (j + 1))), some (.long (encR (kx σ r j))), none, some (.int (mx_b ((kx σ r j).isNone || anyB (fun i => decide (R i = encR (kx σ r j))) i))), some (.int (nI i))] [] := by
          intro d2
          induction d2 using Nat.strongRecOn with
          | ind d2 ih2 =>
          intro i hd2 hi
          have key : i < (kl σ r j).length → _ := fun hlt => ih2 _ (show (kl σ r j).length - (i + 1) < d2 by omega) (i + 1) rfl (by omega)
          refine mx_iload C dX9_keysOf_57 (pc' := 59) rfl rfl ?_
          refine mx_iload_n C dX9_keysOf_59 (pc' := 60) rfl rfl ?_
          refine mx_N_ge C dX9_keysOf_60 (tgt := 91) (by decide) (pc' := 63) rfl (by omega) (by omega) (fun g2 => ?_) (fun g2 => ?_)
          · have e1 : i = (kl σ r j).length := by omega
            subst e1
            refine mx_iload C dX9_keysOf_91 (pc' := 93) rfl rfl ?_
            refine mx_B_ne C dX9_keysOf_93 (tgt := 104) (by decide) (pc' := 96) rfl (fun g3 => ?_) (fun g3 => ?_)
            · have e2 : kl σ r (j + 1) = kl σ r j := by
                rw [hx]
                cases hc : kx σ r j with
                | none => rfl
                | some q =>
                  rw [hc] at g3
                  have := (anyR hv hok (hkx q hc)).mp (by simpa using g3)
                  exact if_pos this
              refine mx_iinc C dX9_keysOf_104 (pc' := 107) rfl rfl (mx_inc _) (by first | exact mx_c1_0 | exact mx_c1_int rfl | exact mx_c1_ref rfl | exact mx_c1_none rfl | exact mx_c1_rf rfl | exact mx_c1_null rfl) (by decide) (lo' := [_, _, _, _, _, _, _, _, _]) rfl ?_
              refine mx_goto C dX9_keysOf_107 (tgt := 5) (by decide) ?_
              refine mx_weak (lo' := [some (.ref (P 0)), some (.int (nI r)), some (.ref (P u)), some (.int (nI (kl σ r j).length)), some (.int (nI (j + 1 + 1))), none, none, none, none]) (mx_le_keep (mx_le_keep (mx_le_keep (mx_le_keep (mx_le_keep (mx_le_drop (mx_le_keep (mx_le_drop (mx_le_drop mx_le_nil))))))))) ?_
              rw [← e2]
              exact ih _ (by omega) (j + 1) hh R rfl (by omega) mm' hfr hRu (by rw [e2]; exact hok)
            · cases hc : kx σ r j with
              | none => rw [hc] at g3; cases g3
              | some q =>
                rw [hc] at g3 hx
                have hq : ¬ q ∈ kl σ r j := fun z => by
                  have := (anyR hv hok (hkx q hc)).mpr z
                  rw [this] at g3
                  cases g3
                have e2 : kl σ r (j + 1) = kl σ r j ++ [q] := by rw [hx]; exact if_neg hq
                have e3 : (kl σ r (j + 1)).length = (kl σ r j).length + 1 := by rw [e2, List.length_append]; rfl
                first | refine mx_aload_n C dX9_keysOf_96 (pc' := 97) rfl rfl ?_ | refine mx_aload_nq C dX9_keysOf_96 (pc' := 97) rfl rfl ?_
                refine mx_iload_n C dX9_keysOf_97 (pc' := 98) rfl rfl ?_
                refine mx_lload C dX9_keysOf_98 (pc' := 100) rfl rfl ?_
                refine mx_last C dX9_keysOf_100 (pc' := 101) rfl (hRu) (rfl) (show (kl σ r j).length < 200 by omega) (by decide) ?_
                refine mx_iinc C dX9_keysOf_101 (pc' := 104) rfl rfl (mx_inc _) (by first | exact mx_c1_0 | exact mx_c1_int rfl | exact mx_c1_ref rfl | exact mx_c1_none rfl | exact mx_c1_rf rfl | exact mx_c1_null rfl) (by decide) (lo' := [_, _, _, _, _, _, _, _, _]) rfl ?_
                refine mx_iinc C dX9_keysOf_104 (pc' := 107) rfl rfl (mx_inc _) (by first | exact mx_c1_0 | exact mx_c1_int rfl | exact mx_c1_ref rfl | exact mx_c1_none rfl | exact mx_c1_rf rfl | exact mx_c1_null rfl) (by decide) (lo' := [_, _, _, _, _, _, _, _, _]) rfl ?_
                refine mx_goto C dX9_keysOf_107 (tgt := 5) (by decide) ?_
                refine mx_weak (lo' := [some (.ref (P 0)), some (.int (nI r)), some (.ref (P u)), some (.int (nI ((kl σ r j).length + 1))), some (.int (nI (j + 1 + 1))), none, none, none, none]) (mx_le_keep (mx_le_keep (mx_le_keep (mx_le_keep (mx_le_keep (mx_le_drop (mx_le_keep (mx_le_drop (mx_le_drop mx_le_nil))))))))) ?_
                rw [← e3]
                refine ih _ (by omega) (j + 1) _ _ rfl (by omega) (mm'.rowl (by omega) (by omega)) (fun a a1 a2 a3 => by rw [va_up_ne _ _ a3]; exact hfr a a1 a2 a3) (va_up_self _ _ _) (fun i hi => ?_)
                rw [e3] at hi
                rw [e2]
                by_cases e4 : i = (kl σ r j).length
                · subst e4
                  rw [pk_uLs, List.getElem?_append_right (Nat.le_refl _), Nat.sub_self]
                  rfl
                · rw [pk_uLn e4, hok i (by omega), List.getElem?_append_left (by omega)]
          have key := key g2
          have ea : anyB (fun i => decide (R i = encR (kx σ r j))) (i + 1) = (anyB (fun i => decide (R i = encR (kx σ r j))) i || decide (R i = encR (kx σ r j))) := rfl
          rw [ea, ← Bool.or_assoc] at key
          refine mx_iload C dX9_keysOf_63 (pc' := 65) rfl rfl ?_
          refine mx_B_ne C dX9_keysOf_65 (tgt := 78) (by decide) (pc' := 68) rfl (fun g3 => ?_) (fun g3 => ?_)
          · rw [g3, Bool.true_or] at key
            refine mx_iconst C (v := nI 1) (by decide) dX9_keysOf_78 (pc' := 79) rfl ?_
            refine mx_goto C dX9_keysOf_79 (tgt := 83) (by decide) ?_
            refine mx_istore C dX9_keysOf_83 (pc' := 85) rfl (by first | exact mx_c1_0 | exact mx_c1_int rfl | exact mx_c1_ref rfl | exact mx_c1_none rfl | exact mx_c1_rf rfl | exact mx_c1_null rfl) (by decide) (lo' := [_, _, _, _, _, _, _, _, _]) rfl ?_
            refine mx_iinc C dX9_keysOf_85 (pc' := 88) rfl rfl (mx_inc _) (by first | exact mx_c1_0 | exact mx_c1_int rfl | exact mx_c1_ref rfl | exact mx_c1_none rfl | exact mx_c1_rf rfl | exact mx_c1_null rfl) (by decide) (lo' := [_, _, _, _, _, _, _, _, _]) rfl ?_
            refine mx_goto C dX9_keysOf_88 (tgt := 57) (by decide) ?_
            exact key
          rw [g3, Bool.false_or] at key
          first | refine mx_aload_n C dX9_keysOf_68 (pc' := 69) rfl rfl ?_ | refine mx_aload_nq C dX9_keysOf_68 (pc' := 69) rfl rfl ?_
          refine mx_iload C dX9_keysOf_69 (pc' := 71) rfl rfl ?_
          refine mx_lald C dX9_keysOf_71 (pc' := 72) rfl (hRu) (rfl) (show i < 200 by omega) (by decide) ?_
          refine mx_lload C dX9_keysOf_72 (pc' := 74) rfl rfl ?_
          refine mx_lcmp C dX9_keysOf_74 (pc' := 75) rfl ?_
          refine mx_L_ne C dX9_keysOf_75 (tgt := 82) (by decide) (pc' := 78) rfl (fun g4 => ?_) (fun g4 => ?_)
          · rw [decide_eq_false g4] at key
            refine mx_iconst C (v := nI 0) (by decide) dX9_keysOf_82 (pc' := 83) rfl ?_
            refine mx_istore C dX9_keysOf_83 (pc' := 85) rfl (by first | exact mx_c1_0 | exact mx_c1_int rfl | exact mx_c1_ref rfl | exact mx_c1_none rfl | exact mx_c1_rf rfl | exact mx_c1_null rfl) (by decide) (lo' := [_, _, _, _, _, _, _, _, _]) rfl ?_
            refine mx_iinc C dX9_keysOf_85 (pc' := 88) rfl rfl (mx_inc _) (by first | exact mx_c1_0 | exact mx_c1_int rfl | exact mx_c1_ref rfl | exact mx_c1_none rfl | exact mx_c1_rf rfl | exact mx_c1_null rfl) (by decide) (lo' := [_, _, _, _, _, _, _, _, _]) rfl ?_
            refine mx_goto C dX9_keysOf_88 (tgt := 57) (by decide) ?_
            exact key
          · rw [decide_eq_true g4] at key
            refine mx_iconst C (v := nI 1) (by decide) dX9_keysOf_78 (pc' := 79) rfl ?_
            refine mx_goto C dX9_keysOf_79 (tgt := 83) (by decide) ?_
            refine mx_istore C dX9_keysOf_83 (pc' := 85) rfl (by first | exact mx_c1_0 | exact mx_c1_int rfl | exact mx_c1_ref rfl | exact mx_c1_none rfl | exact mx_c1_rf rfl | exact mx_c1_null rfl) (by decide) (lo' := [_, _, _, _, _, _, _, _, _]) rfl ?_
            refine mx_iinc C dX9_keysOf_85 (pc' := 88) rfl rfl (mx_inc _) (by first | exact mx_c1_0 | exact mx_c1_int rfl | exact mx_c1_ref rfl | exact mx_c1_none rfl | exact mx_c1_rf rfl | exact mx_c1_null rfl) (by decide) (lo' := [_, _, _, _, _, _, _, _, _]) rfl ?_
            refine mx_goto C dX9_keysOf_88 (tgt := 57) (by decide) ?_
            exact key
        have := loop2 _ 0 rfl (by omega)
        rw [show anyB (fun i => decide (R i = encR (kx σ r j))) 0 = false from rfl, Bool.or_false] at this
        refine mx_istore C dX9_keysOf_52 (pc' := 54) rfl (by first | exact mx_c1_0 | exact mx_c1_int rfl | exact mx_c1_ref rfl | exact mx_c1_none rfl | exact mx_c1_rf rfl | exact mx_c1_null rfl) (by decide) (lo' := [_, _, _, _, _, _, _, _, _]) rfl ?_
        refine mx_iconst C (v := nI 0) (by decide) dX9_keysOf_54 (pc' := 55) rfl ?_
        refine mx_istore C dX9_keysOf_55 (pc' := 57) rfl (by first | exact mx_c1_0 | exact mx_c1_int rfl | exact mx_c1_ref rfl | exact mx_c1_none rfl | exact mx_c1_rf rfl | exact mx_c1_null rfl) (by decide) (lo' := [_, _, _, _, _, _, _, _, _]) rfl ?_
        exact this
      refine mx_lstore C dX9_keysOf_36 (pc' := 38) rfl (by first | exact mx_c1_0 | exact mx_c1_int rfl | exact mx_c1_ref rfl | exact mx_c1_none rfl | exact mx_c1_rf rfl | exact mx_c1_null rfl) (by decide) (lo' := [_, _, _, _, _, _, _, _, _]) rfl ?_
      refine mx_lload C dX9_keysOf_38 (pc' := 40) rfl rfl ?_
      refine kX9_99 C dX9_keysOf_40 (pc' := 43) rfl ?_
      refine mx_lcmp C dX9_keysOf_43 (pc' := 44) rfl ?_
      cases hc : kx σ r j with
      | none =>
        rw [hc] at k52
        refine mx_L_ne C dX9_keysOf_44 (tgt := 51) (by decide) (pc' := 47) rfl (fun g2 => ?_) (fun g2 => ?_)
        · exact absurd rfl g2
        · skip
          refine mx_iconst C (v := nI 1) (by decide) dX9_keysOf_47 (pc' := 48) rfl ?_
          refine mx_goto C dX9_keysOf_48 (tgt := 52) (by decide) ?_
          exact k52
      | some q =>
        rw [hc] at k52
        refine mx_L_ne C dX9_keysOf_44 (tgt := 51) (by decide) (pc' := 47) rfl (fun g2 => ?_) (fun g2 => ?_)
        · skip
          refine mx_iconst C (v := nI 0) (by decide) dX9_keysOf_51 (pc' := 52) rfl ?_
          exact k52
        · exact absurd g2 (encR_ne (hkx q hc))
    first | refine mx_aload_n C dX9_keysOf_14 (pc' := 15) rfl rfl ?_ | refine mx_aload_nq C dX9_keysOf_14 (pc' := 15) rfl rfl ?_
    refine mx_iload C dX9_keysOf_15 (pc' := 17) rfl rfl ?_
    refine mx_iload_n C dX9_keysOf_17 (pc' := 18) rfl rfl ?_
    refine cX9_104 C dX9_keysOf_18 (pc' := 21) rfl (m3) (c_X9_isOf l G base hh mm' (show 1 ≤ j + 1 by omega) g1 hr2) ⟨by decide, by decide, by decide, by decide, Nat.le_of_ble_eq_true rfl⟩ ?_
    rintro _ _ ⟨rfl, rfl⟩
    refine mx_B_eq C dX9_keysOf_21 (tgt := 33) (by decide) (pc' := 24) rfl (fun g2 => ?_) (fun g2 => ?_)
    · have e1 : kx σ r j = none := by unfold kx; rw [if_neg (of_decide_eq_false g2)]
      have k36 := k36 hh mm' hfr hRu
      rw [e1] at k36
      refine kX9_99 C dX9_keysOf_33 (pc' := 36) rfl ?_
      exact k36
    · have e1 : kx σ r j = sky σ (j + 1) := by unfold kx; rw [if_pos (of_decide_eq_true g2)]
      first | refine mx_aload_n C dX9_keysOf_24 (pc' := 25) rfl rfl ?_ | refine mx_aload_nq C dX9_keysOf_24 (pc' := 25) rfl rfl ?_
      refine mx_iload C dX9_keysOf_25 (pc' := 27) rfl rfl ?_
      refine cX9_122 C dX9_keysOf_27 (pc' := 30) rfl (m3) (c_X9_key l G base hh mm' (show 1 ≤ j + 1 by omega) g1 rfl rfl rfl) ⟨by decide, by decide, by decide, by decide, Nat.le_of_ble_eq_true rfl⟩ ?_
      rintro _ h2 ⟨rfl, m2, f2⟩
      have k36 := k36 h2 m2 (fun a a1 a2 a3 => (f2 a a1 a2).trans (hfr a a1 a2 a3)) ((f2 _ (m.2.1.ne hu18 (by decide) (by omega)) (m.2.1.ne hu18 (by decide) (by omega))).trans hRu)
      rw [e1] at k36
      refine mx_goto C dX9_keysOf_30 (tgt := 36) (by decide) ?_
      exact k36
  refine mx_iconst C (v := nI 0) (by decide) dX9_keysOf_0 (pc' := 1) rfl ?_
  refine mx_istore_n C dX9_keysOf_1 (pc' := 2) rfl (by first | exact mx_c1_0 | exact mx_c1_int rfl | exact mx_c1_ref rfl | exact mx_c1_none rfl | exact mx_c1_rf rfl | exact mx_c1_null rfl) (by decide) (lo' := [_, _, _, _, _, _, _, _, _]) rfl ?_
  refine mx_iconst C (v := nI 1) (by decide) dX9_keysOf_2 (pc' := 3) rfl ?_
  refine mx_istore C dX9_keysOf_3 (pc' := 5) rfl (by first | exact mx_c1_0 | exact mx_c1_int rfl | exact mx_c1_ref rfl | exact mx_c1_none rfl | exact mx_c1_rf rfl | exact mx_c1_null rfl) (by decide) (lo' := [_, _, _, _, _, _, _, _, _]) rfl ?_
  exact loop _ 0 h R0 rfl (by omega) m (fun _ _ _ _ => rfl) hR0 (fun i hi => by simp [kl] at hi)
theorem c_X9_has (h : mx_H) {P : Nat → Nat} {σ : mxS} {th kc : Int32} {pu pd : Int64} (m : MI G P h σ th kc pu pd) {r : Nat} (hr2 : r ≤ st_n σ) {x : Int64} {q : Bool × Nat} (hx : x = encR (some q)) (hq : kvr q) : mx_M l G base yX9_has cX9_has 7 (some .boolean) 5 120 0 0 [.ref (P 0), .int (nI r), .long x] h (fun v h' => v = some (.int (mx_b (decide (q ∈ kl σ r (st_k σ))))) ∧ MI G P h' σ th kc pu pd ∧ ∀ a, a ≠ P 13 → a ≠ P 14 → a ≠ P 15 → h' a = h a) := by
  have hk := m.1.2.1
  have hln := kl_len σ r (st_k σ)
  have hv := kl_okr m.1 (r := r) (i := st_k σ) (Nat.le_refl _)
  refine mx_enter (lo := [some (.ref (P 0)), some (.int (nI r)), some (.long x), none, none, none, none]) (by decide) (mx_in wd_code_yX9_has rfl) (Nat.le_of_ble_eq_true rfl) rfl ?_
  intro p ev s mt args below meth cd C hr hnm
  have C : mx_C p s mt args meth cd cX9_has 7 RX9 G base := C
  first | refine mx_aload_n C dX9_has_0 (pc' := 1) rfl rfl ?_ | refine mx_aload_nq C dX9_has_0 (pc' := 1) rfl rfl ?_
  refine mx_iload_n C dX9_has_1 (pc' := 2) rfl rfl ?_
  first | refine mx_aload_n C dX9_has_2 (pc' := 3) rfl rfl ?_ | refine mx_aload_nq C dX9_has_2 (pc' := 3) rfl rfl ?_
  refine gX9_49 C dX9_has_3 (pc' := 6) rfl (m.2.2.1) rfl ?_
  refine cX9_125 C dX9_has_6 (pc' := 9) rfl (m.2.2.1) (c_X9_keysOf l G base h m hr2 (u := 13) (Or.inr rfl)) ⟨by decide, by decide, by decide, by decide, Nat.le_of_ble_eq_true rfl⟩ ?_
  rintro _ h2 ⟨rfl, m2, f2, R, hR, hok⟩
  have m3 := m2.2.2.1
  have hany := anyR hv hok hq
  rw [← hx] at hany
  have f3 : ∀ a, a ≠ P 13 → a ≠ P 14 → a ≠ P 15 → h2 a = h a := fun a a1 a2 a3 => f2 a a2 a3 a1
  have loop : ∀ (d i : Nat), (kl σ r (st_k σ)).length - i = d → i ≤ (kl σ r (st_k σ)).length → mx_V p l ev { frames := 5, cells := 0, slots := 0, locals := 120 } s mt args below meth cd G base 7 (MQ below (mx_Qc G base (fun v h' => v = some (.int (mx_b (decide (q ∈ kl σ r (st_k σ))))) ∧ MI G P h' σ th kc pu pd ∧ ∀ a, a ≠ P 13 → a ≠ P 14 → a ≠ P 15 → h' a = h a)) args s 0 0 (mx_A base)) h2 0 0 17 [some (.ref (P 0)), some (.int (nI r)), some (.long x), none, some (.int (nI (kl σ r (st_k σ)).length)), some (.int (mx_b (anyB (fun i => decide (R i = x)) i))), some (.int (nI i))] [] := by
    intro d
    induction d using Nat.strongRecOn with
    | ind d ih =>
    intro i hd hi
    refine mx_iload C dX9_has_17 (pc' := 19) rfl rfl ?_
    refine mx_iload C dX9_has_19 (pc' := 21) rfl rfl ?_
    refine mx_N_ge C dX9_has_21 (tgt := 54) (by decide) (pc' := 24) rfl (by omega) (by omega) (fun g1 => ?_) (fun g1 => ?_)
    · have e1 : i = (kl σ r (st_k σ)).length := by omega
      subst e1
      refine mx_iload C dX9_has_54 (pc' := 56) rfl rfl ?_
      refine mx_zret C hr (mx_b_nz _) dX9_has_56 (by omega) (by omega) ⟨?_, m2, f3⟩
      by_cases e2 : q ∈ kl σ r (st_k σ)
      · rw [hany.mpr e2, decide_eq_true e2]
      · rw [decide_eq_false e2]
        cases hz : anyB (fun i => decide (R i = x)) (kl σ r (st_k σ)).length with
        | false => rfl
        | true => exact absurd (hany.mp hz) e2
    have key := ih _ (show (kl σ r (st_k σ)).length - (i + 1) < d by omega) (i + 1) rfl (by omega)
    have ea : anyB (fun i => decide (R i = x)) (i + 1) = (anyB (fun i => decide (R i = x)) i || decide (R i = x)) := rfl
    rw [ea] at key
    refine mx_iload C dX9_has_24 (pc' := 26) rfl rfl ?_
    refine mx_B_ne C dX9_has_26 (tgt := 41) (by decide) (pc' := 29) rfl (fun g3 => ?_) (fun g3 => ?_)
    · rw [g3, Bool.true_or] at key
      refine mx_iconst C (v := nI 1) (by decide) dX9_has_41 (pc' := 42) rfl ?_
      refine mx_goto C dX9_has_42 (tgt := 46) (by decide) ?_
      refine mx_istore C dX9_has_46 (pc' := 48) rfl (by first | exact mx_c1_0 | exact mx_c1_int rfl | exact mx_c1_ref rfl | exact mx_c1_none rfl | exact mx_c1_rf rfl | exact mx_c1_null rfl) (by decide) (lo' := [_, _, _, _, _, _, _]) rfl ?_
      refine mx_iinc C dX9_has_48 (pc' := 51) rfl rfl (mx_inc _) (by first | exact mx_c1_0 | exact mx_c1_int rfl | exact mx_c1_ref rfl | exact mx_c1_none rfl | exact mx_c1_rf rfl | exact mx_c1_null rfl) (by decide) (lo' := [_, _, _, _, _, _, _]) rfl ?_
      refine mx_goto C dX9_has_51 (tgt := 17) (by decide) ?_
      exact key
    rw [g3, Bool.false_or] at key
    first | refine mx_aload_n C dX9_has_29 (pc' := 30) rfl rfl ?_ | refine mx_aload_nq C dX9_has_29 (pc' := 30) rfl rfl ?_
    refine gX9_49 C dX9_has_30 (pc' := 33) rfl (m3) rfl ?_
    refine mx_iload C dX9_has_33 (pc' := 35) rfl rfl ?_
    refine mx_lald C dX9_has_35 (pc' := 36) rfl (hR) (rfl) (show i < 200 by omega) (by decide) ?_
    refine mx_lload_n C dX9_has_36 (pc' := 37) rfl rfl ?_
    refine mx_lcmp C dX9_has_37 (pc' := 38) rfl ?_
    refine mx_L_ne C dX9_has_38 (tgt := 45) (by decide) (pc' := 41) rfl (fun g4 => ?_) (fun g4 => ?_)
    · rw [decide_eq_false g4] at key
      refine mx_iconst C (v := nI 0) (by decide) dX9_has_45 (pc' := 46) rfl ?_
      refine mx_istore C dX9_has_46 (pc' := 48) rfl (by first | exact mx_c1_0 | exact mx_c1_int rfl | exact mx_c1_ref rfl | exact mx_c1_none rfl | exact mx_c1_rf rfl | exact mx_c1_null rfl) (by decide) (lo' := [_, _, _, _, _, _, _]) rfl ?_
      refine mx_iinc C dX9_has_48 (pc' := 51) rfl rfl (mx_inc _) (by first | exact mx_c1_0 | exact mx_c1_int rfl | exact mx_c1_ref rfl | exact mx_c1_none rfl | exact mx_c1_rf rfl | exact mx_c1_null rfl) (by decide) (lo' := [_, _, _, _, _, _, _]) rfl ?_
      refine mx_goto C dX9_has_51 (tgt := 17) (by decide) ?_
      exact key
    · rw [decide_eq_true g4] at key
      refine mx_iconst C (v := nI 1) (by decide) dX9_has_41 (pc' := 42) rfl ?_
      refine mx_goto C dX9_has_42 (tgt := 46) (by decide) ?_
      refine mx_istore C dX9_has_46 (pc' := 48) rfl (by first | exact mx_c1_0 | exact mx_c1_int rfl | exact mx_c1_ref rfl | exact mx_c1_none rfl | exact mx_c1_rf rfl | exact mx_c1_null rfl) (by decide) (lo' := [_, _, _, _, _, _, _]) rfl ?_
      refine mx_iinc C dX9_has_48 (pc' := 51) rfl rfl (mx_inc _) (by first | exact mx_c1_0 | exact mx_c1_int rfl | exact mx_c1_ref rfl | exact mx_c1_none rfl | exact mx_c1_rf rfl | exact mx_c1_null rfl) (by decide) (lo' := [_, _, _, _, _, _, _]) rfl ?_
      refine mx_goto C dX9_has_51 (tgt := 17) (by decide) ?_
      exact key
  refine mx_istore C dX9_has_9 (pc' := 11) rfl (by first | exact mx_c1_0 | exact mx_c1_int rfl | exact mx_c1_ref rfl | exact mx_c1_none rfl | exact mx_c1_rf rfl | exact mx_c1_null rfl) (by decide) (lo' := [_, _, _, _, _, _, _]) rfl ?_
  refine mx_iconst C (v := nI 0) (by decide) dX9_has_11 (pc' := 12) rfl ?_
  refine mx_istore C dX9_has_12 (pc' := 14) rfl (by first | exact mx_c1_0 | exact mx_c1_int rfl | exact mx_c1_ref rfl | exact mx_c1_none rfl | exact mx_c1_rf rfl | exact mx_c1_null rfl) (by decide) (lo' := [_, _, _, _, _, _, _]) rfl ?_
  refine mx_iconst C (v := nI 0) (by decide) dX9_has_14 (pc' := 15) rfl ?_
  refine mx_istore C dX9_has_15 (pc' := 17) rfl (by first | exact mx_c1_0 | exact mx_c1_int rfl | exact mx_c1_ref rfl | exact mx_c1_none rfl | exact mx_c1_rf rfl | exact mx_c1_null rfl) (by decide) (lo' := [_, _, _, _, _, _, _]) rfl ?_
  exact loop _ 0 rfl (by omega)
end R3
