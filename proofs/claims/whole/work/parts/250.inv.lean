/-! the class's invariant -/
def wgt (σ : mxS) (p : Nat) : Nat := st_up σ p * (2520 / st_dn σ p)
def mo (A : mxA) (σ : mxS) : List Value := [va_rf (pB A (nxt (st_n σ) 0)), va_rf (pB A (st_n σ)), .int (nI (st_n σ)), va_rf (pT A (nxt (st_k σ) 0)), va_rf (pT A (st_k σ)), .int (nI (st_k σ)), .ref (aK A 1), .int (nI (st_f σ)), .ref (aK A 2), .ref (aK A 9), .ref (aK A 11)]
def ci_fd (G : mx_G) (A : mxA) (h : mx_H) (σ : mxS) : Prop := ∃ F : Nat → Int32, h (aK A 1) = some (.inl (G.2 0, 40, .inl F)) ∧ ∀ i, i < st_f σ → F i = nI (st_fd σ i)
def lk_wf (G : mx_G) (h : mx_H) (K : Nat → Nat) (σ : mxS) : Prop := (∃ sa sb sw : Int64, h (K 11) = some (.inr (4, [.ref (K 12), .ref (K 13), .ref (K 17), .ref (K 21), .long sa, .long sb, .long sw]))) ∧ (∃ W : Nat → Int64, h (K 12) = some (.inl (G.2 1, 5, .inr (.inl W))) ∧ ∀ p, p < 5 → W p = lN (wgt σ p)) ∧ (∃ F S N c, wo_at G h (K 13) (K 14) (K 15) (K 16) F S N c) ∧ (∃ F S N c, wo_at G h (K 17) (K 18) (K 19) (K 20) F S N c) ∧ ∃ V c x, bo_at G h (K 21) (K 22) V c x
def ci_ad (A : mxA) (σ : mxS) : Prop := inj (aK A) 23 ∧ (∀ f, 1 ≤ f → f ≤ st_k σ → ∀ i, i < 23 → aC A f ≠ aK A i) ∧ ∀ f f', 1 ≤ f → f ≤ st_k σ → 1 ≤ f' → f' ≤ st_k σ → aC A f = aC A f' → f = f'
def CI (G : mx_G) (A : mxA) (h : mx_H) (σ : mxS) (la ea : Nat → Nat) (mk : Nat → Bool) : Prop :=
  si σ ∧ ci_ad A σ ∧ h (aK A 0) = some (.inr (8, mo A σ)) ∧ ci_fd G A h σ ∧ kr_wf G h (aK A) ∧ (∃ R c, ko_at G h (aK A 9) (aK A 10) R c) ∧ lk_wf G h (aK A) σ ∧ ci_bk A h σ la ea mk ∧ ci_tx G A h σ ∧ ci_ch σ la ea
/-- what is not the class's stays -/
def OUT (A : mxA) (σ : mxS) (h h' : mx_H) : Prop := ∀ a, (∀ i, i < 23 → a ≠ aK A i) → (∀ r, 1 ≤ r → r ≤ st_n σ → a ≠ aB A r) → (∀ f, 1 ≤ f → f ≤ st_k σ → a ≠ aT A f ∧ a ≠ aC A f) → h' a = h a
theorem OUT.rf {A : mxA} {σ : mxS} {h : mx_H} : OUT A σ h h := fun _ _ _ _ => rfl
theorem OUT.tr {A : mxA} {σ : mxS} {h h1 h2 : mx_H} (a : OUT A σ h h1) (b : OUT A σ h1 h2) : OUT A σ h h2 := fun x x1 x2 x3 => (b x x1 x2 x3).trans (a x x1 x2 x3)
theorem OUT.kr {A : mxA} {σ : mxS} {h h1 : mx_H} (a : kr_fr (aK A) h h1) : OUT A σ h h1 := fun x x1 _ _ => a x (x1 3 (by decide)) (x1 4 (by decide)) (x1 5 (by decide)) (x1 6 (by decide)) (x1 7 (by decide)) (x1 8 (by decide))
/-- a fixed cell is no record and no field -/
theorem ci_K {G : mx_G} {A : mxA} {h : mx_H} {σ : mxS} {la ea : Nat → Nat} {mk : Nat → Bool} (c : CI G A h σ la ea mk) : ∀ i, i < 23 → ∃ x, h (aK A i) = some x ∧ ∀ fs, x ≠ .inr (0, fs) ∧ x ≠ .inr (6, fs) := by
  obtain ⟨-, -, c0, ⟨F, c1, -⟩, ⟨c2, ⟨F3, S3, N3, n3, -, c3, c4, c5, c6⟩, V7, n7, x7, -, c7, c8⟩, ⟨R, cc, -, -, c9, c10⟩, ⟨⟨sa, sb, sw, c11⟩, ⟨W, c12, -⟩, ⟨F13, S13, N13, n13, -, c13, c14, c15, c16⟩, ⟨F17, S17, N17, n17, -, c17, c18, c19, c20⟩, V21, n21, x21, -, c21, c22⟩, -⟩ := c
  intro i hi
  match i, hi with
  | 0, _ => exact ⟨_, c0, fun fs => ⟨by simp, by simp⟩⟩
  | 1, _ => exact ⟨_, c1, fun fs => ⟨by simp, by simp⟩⟩
  | 2, _ => exact ⟨_, c2, fun fs => ⟨by simp, by simp⟩⟩
  | 3, _ => exact ⟨_, c3, fun fs => ⟨by simp, by simp⟩⟩
  | 4, _ => exact ⟨_, c4, fun fs => ⟨by simp, by simp⟩⟩
  | 5, _ => exact ⟨_, c5, fun fs => ⟨by simp, by simp⟩⟩
  | 6, _ => exact ⟨_, c6, fun fs => ⟨by simp, by simp⟩⟩
  | 7, _ => exact ⟨_, c7, fun fs => ⟨by simp, by simp⟩⟩
  | 8, _ => exact ⟨_, c8, fun fs => ⟨by simp, by simp⟩⟩
  | 9, _ => exact ⟨_, c9, fun fs => ⟨by simp, by simp⟩⟩
  | 10, _ => exact ⟨_, c10, fun fs => ⟨by simp, by simp⟩⟩
  | 11, _ => exact ⟨_, c11, fun fs => ⟨by simp, by simp⟩⟩
  | 12, _ => exact ⟨_, c12, fun fs => ⟨by simp, by simp⟩⟩
  | 13, _ => exact ⟨_, c13, fun fs => ⟨by simp, by simp⟩⟩
  | 14, _ => exact ⟨_, c14, fun fs => ⟨by simp, by simp⟩⟩
  | 15, _ => exact ⟨_, c15, fun fs => ⟨by simp, by simp⟩⟩
  | 16, _ => exact ⟨_, c16, fun fs => ⟨by simp, by simp⟩⟩
  | 17, _ => exact ⟨_, c17, fun fs => ⟨by simp, by simp⟩⟩
  | 18, _ => exact ⟨_, c18, fun fs => ⟨by simp, by simp⟩⟩
  | 19, _ => exact ⟨_, c19, fun fs => ⟨by simp, by simp⟩⟩
  | 20, _ => exact ⟨_, c20, fun fs => ⟨by simp, by simp⟩⟩
  | 21, _ => exact ⟨_, c21, fun fs => ⟨by simp, by simp⟩⟩
  | 22, _ => exact ⟨_, c22, fun fs => ⟨by simp, by simp⟩⟩
  | n + 23, hi => exact absurd hi (by omega)
theorem CI.bK {G : mx_G} {A : mxA} {h : mx_H} {σ : mxS} {la ea : Nat → Nat} {mk : Nat → Bool} (c : CI G A h σ la ea mk) {r : Nat} (h1 : 1 ≤ r) (h2 : r ≤ st_n σ) {i : Nat} (hi : i < 23) : aB A r ≠ aK A i := by
  obtain ⟨x, hx, hf⟩ := ci_K c i hi
  exact ne_of (c.2.2.2.2.2.2.2.1 r h1 h2) hx (fun z => (hf _).1 z.symm)
theorem CI.tK {G : mx_G} {A : mxA} {h : mx_H} {σ : mxS} {la ea : Nat → Nat} {mk : Nat → Bool} (c : CI G A h σ la ea mk) {f : Nat} (h1 : 1 ≤ f) (h2 : f ≤ st_k σ) {i : Nat} (hi : i < 23) : aT A f ≠ aK A i := by
  obtain ⟨x, hx, hf⟩ := ci_K c i hi
  exact ne_of (c.2.2.2.2.2.2.2.2.1 f h1 h2).2.1 hx (fun z => (hf _).2 z.symm)
theorem CI.bT {G : mx_G} {A : mxA} {h : mx_H} {σ : mxS} {la ea : Nat → Nat} {mk : Nat → Bool} (c : CI G A h σ la ea mk) {r f : Nat} (h1 : 1 ≤ r) (h2 : r ≤ st_n σ) (h3 : 1 ≤ f) (h4 : f ≤ st_k σ) : aB A r ≠ aT A f ∧ aB A r ≠ aC A f := by
  have hb := c.2.2.2.2.2.2.2.1 r h1 h2
  obtain ⟨-, ht, T, hc, -⟩ := c.2.2.2.2.2.2.2.2.1 f h3 h4
  exact ⟨ne_of hb ht (by simp), ne_of hb hc (by simp)⟩
theorem CI.tC {G : mx_G} {A : mxA} {h : mx_H} {σ : mxS} {la ea : Nat → Nat} {mk : Nat → Bool} (c : CI G A h σ la ea mk) {g f : Nat} (h1 : 1 ≤ g) (h2 : g ≤ st_k σ) (h3 : 1 ≤ f) (h4 : f ≤ st_k σ) : aT A g ≠ aC A f := by
  obtain ⟨-, ht, -⟩ := c.2.2.2.2.2.2.2.2.1 g h1 h2
  obtain ⟨-, -, T, hc, -⟩ := c.2.2.2.2.2.2.2.2.1 f h3 h4
  exact ne_of ht hc (by simp)
theorem tx_at.kept {G : mx_G} {h h' : mx_H} {x ow ch n : Nat} {nu tg : Int32} {nx : Value} {t : Nat → Nat} (hx : tx_at G h x nu tg ow ch nx n t) (e1 : h' x = h x) (e2 : h' ch = h ch) : tx_at G h' x nu tg ow ch nx n t := by
  obtain ⟨a, b, T, c, d⟩ := hx
  exact ⟨a, e1.trans b, T, e2.trans c, d⟩
theorem wo_at.kept {G : mx_G} {h h' : mx_H} {w sg st ln : Nat} {F S N : Nat → Int32} {c : Int32} (hx : wo_at G h w sg st ln F S N c) (e1 : h' w = h w) (e2 : h' sg = h sg) (e3 : h' st = h st) (e4 : h' ln = h ln) : wo_at G h' w sg st ln F S N c := ⟨hx.1, e1.trans hx.2.1, e2.trans hx.2.2.1, e3.trans hx.2.2.2.1, e4.trans hx.2.2.2.2⟩
theorem bo_at.kept {G : mx_G} {h h' : mx_H} {b va : Nat} {V : Nat → Int32} {c : Int32} {x : Bool} (hx : bo_at G h b va V c x) (e1 : h' b = h b) (e2 : h' va = h va) : bo_at G h' b va V c x := ⟨hx.1, e1.trans hx.2.1, e2.trans hx.2.2⟩
theorem kr_wf.kept {G : mx_G} {h h' : mx_H} {K : Nat → Nat} (hx : kr_wf G h K) (e : ∀ i, 2 ≤ i → i ≤ 8 → h' (K i) = h (K i)) : kr_wf G h' K := by
  obtain ⟨a, ⟨F, S, N, c, b⟩, V, c', x, d⟩ := hx
  exact ⟨(e 2 (by decide) (by decide)).trans a, ⟨F, S, N, c, b.kept (e 3 (by decide) (by decide)) (e 4 (by decide) (by decide)) (e 5 (by decide) (by decide)) (e 6 (by decide) (by decide))⟩, V, c', x, d.kept (e 7 (by decide) (by decide)) (e 8 (by decide) (by decide))⟩
theorem lk_wf.kept {G : mx_G} {h h' : mx_H} {K : Nat → Nat} {σ : mxS} (hx : lk_wf G h K σ) (e : ∀ i, 11 ≤ i → i ≤ 22 → h' (K i) = h (K i)) : lk_wf G h' K σ := by
  obtain ⟨⟨sa, sb, sw, a⟩, ⟨W, b, b2⟩, ⟨F, S, N, c, d⟩, ⟨F', S', N', c', d'⟩, V, c2, x, f⟩ := hx
  exact ⟨⟨sa, sb, sw, (e 11 (by decide) (by decide)).trans a⟩, ⟨W, (e 12 (by decide) (by decide)).trans b, b2⟩, ⟨F, S, N, c, d.kept (e 13 (by decide) (by decide)) (e 14 (by decide) (by decide)) (e 15 (by decide) (by decide)) (e 16 (by decide) (by decide))⟩, ⟨F', S', N', c', d'.kept (e 17 (by decide) (by decide)) (e 18 (by decide) (by decide)) (e 19 (by decide) (by decide)) (e 20 (by decide) (by decide))⟩, V, c2, x, f.kept (e 21 (by decide) (by decide)) (e 22 (by decide) (by decide))⟩
/-- only the readers' own cells have changed -/
theorem CI.scr {G : mx_G} {A : mxA} {h h' : mx_H} {σ : mxS} {la ea : Nat → Nat} {mk : Nat → Bool} (c : CI G A h σ la ea mk) (hf : ∀ a, (∀ i, 3 ≤ i → i ≤ 10 → a ≠ aK A i) → h' a = h a) (hk : kr_wf G h' (aK A)) (ho : ∃ R c, ko_at G h' (aK A 9) (aK A 10) R c) : CI G A h' σ la ea mk := by
  obtain ⟨c1, c2, c3, ⟨F, c4, c4b⟩, c5, c6, c7, c8, c9, c10⟩ := id c
  have eK : ∀ i, i < 23 → (i < 3 ∨ 10 < i) → h' (aK A i) = h (aK A i) := fun i hi h2 => hf _ (fun j h3 h4 => c2.1.ne hi (by omega) (by omega))
  refine ⟨c1, c2, (eK 0 (by decide) (by decide)).trans c3, ⟨F, (eK 1 (by decide) (by decide)).trans c4, c4b⟩, hk, ho, c7.kept (fun i h1 h2 => eK i (by omega) (by omega)), fun r h1 h2 => ?_, fun f h1 h2 => ?_, c10⟩
  · rw [hf _ (fun i h3 h4 => c.bK h1 h2 (by omega))]; exact c8 r h1 h2
  · exact (c9 f h1 h2).kept (hf _ (fun i h3 h4 => c.tK h1 h2 (by omega))) (hf _ (fun i h3 h4 => c2.2.1 f h1 h2 i (by omega)))
theorem CI.kr {G : mx_G} {A : mxA} {h h' : mx_H} {σ : mxS} {la ea : Nat → Nat} {mk : Nat → Bool} (c : CI G A h σ la ea mk) (hk : kr_wf G h' (aK A)) (hf : kr_fr (aK A) h h') : CI G A h' σ la ea mk := by
  obtain ⟨R, n, a, b, o1, o2⟩ := c.2.2.2.2.2.1
  refine c.scr (fun x hx => hf x (hx 3 (by decide) (by decide)) (hx 4 (by decide) (by decide)) (hx 5 (by decide) (by decide)) (hx 6 (by decide) (by decide)) (hx 7 (by decide) (by decide)) (hx 8 (by decide) (by decide))) hk ⟨R, n, a, b, ?_, ?_⟩
  · rw [hf _ (c.2.1.1.ne (by decide) (by decide) (by decide)) (c.2.1.1.ne (by decide) (by decide) (by decide)) (c.2.1.1.ne (by decide) (by decide) (by decide)) (c.2.1.1.ne (by decide) (by decide) (by decide)) (c.2.1.1.ne (by decide) (by decide) (by decide)) (c.2.1.1.ne (by decide) (by decide) (by decide))]; exact o1
  · rw [hf _ (c.2.1.1.ne (by decide) (by decide) (by decide)) (c.2.1.1.ne (by decide) (by decide) (by decide)) (c.2.1.1.ne (by decide) (by decide) (by decide)) (c.2.1.1.ne (by decide) (by decide) (by decide)) (c.2.1.1.ne (by decide) (by decide) (by decide)) (c.2.1.1.ne (by decide) (by decide) (by decide))]; exact o2
/-- a number that is asked for -/
def ixR (n : Nat) (i : Int32) : Nat := if 1 ≤ i.toInt ∧ i.toInt ≤ n then i.toInt.toNat else 0
def ixS (σ : mxS) (i : Int32) : Nat := if ixR (st_n σ) i ≠ 0 ∧ st_in σ (ixR (st_n σ) i) = 0 then ixR (st_n σ) i else 0
theorem ixR_le {n : Nat} {i : Int32} : ixR n i ≤ n := by unfold ixR; split <;> omega
theorem ixS_le {σ : mxS} {i : Int32} : ixS σ i ≤ st_n σ := by
  unfold ixS
  split
  · exact ixR_le
  · omega
theorem ixS_top {σ : mxS} {i : Int32} (h : ixS σ i ≠ 0) : st_in σ (ixS σ i) = 0 ∧ ixS σ i = ixR (st_n σ) i := by
  unfold ixS at h ⊢
  split
  · rename_i h1; exact ⟨h1.2, rfl⟩
  · rename_i h1; rw [if_neg h1] at h; exact absurd rfl h
theorem ixR_at {n r : Nat} (hn : n ≤ 200) (h1 : 1 ≤ r) (h2 : r ≤ n) : ixR n (nI r) = r := by
  unfold ixR
  rw [nI_toInt (by omega), if_pos ⟨by omega, by omega⟩]
  omega
theorem ixR_no {n : Nat} {i : Int32} (hn : n ≤ 200) (h : ∀ r, 1 ≤ r → r ≤ n → nI r ≠ i) : ixR n i = 0 := by
  unfold ixR
  split
  · rename_i h1
    exfalso
    refine h i.toInt.toNat (by omega) (by omega) (Int32.toInt_inj.mp ?_)
    rw [nI_toInt (by omega)]
    omega
  · rfl
theorem pB_0 {A : mxA} : pB A 0 = none := rfl
theorem pB_s {A : mxA} {r : Nat} (h : r ≠ 0) : pB A r = some (aB A r) := if_neg h
theorem pT_0 {A : mxA} : pT A 0 = none := rfl
theorem pT_s {A : mxA} {r : Nat} (h : r ≠ 0) : pT A r = some (aT A r) := if_neg h
theorem nxt_lt {n i : Nat} (h : i < n) : nxt n i = i + 1 := if_pos h
theorem nxt_ge {n i : Nat} (h : ¬ i < n) : nxt n i = 0 := if_neg h
section IN
variable (l : Launch) (G : mx_G) (base : Nat)
set_option maxRecDepth 20000
theorem c_X8_bookOf (h : mx_H) {A : mxA} {σ : mxS} {la ea : Nat → Nat} {mk : Nat → Bool} (c : CI G A h σ la ea mk) {i : Int32} :
    mx_M l G base yX8_bookOf cX8_bookOf 3 (some (.object "RecordMatch$Book")) 0 0 0 0 [.ref (aK A 0), .int i] h (fun v h' => v = some (va_rf (pB A (ixR (st_n σ) i))) ∧ h = h') := by
  have hn := c.1.1
  refine mx_enter (lo := [some (.ref (aK A 0)), some (.int i), none]) (by decide) (mx_in wd_code_yX8_bookOf rfl) (Nat.le_of_ble_eq_true rfl) rfl ?_
  intro p ev s mt args below meth cd C hr hnm
  have C : mx_C p s mt args meth cd cX8_bookOf 3 RX8 G base := C
  have loop : ∀ (d j : Nat), st_n σ - j = d → j ≤ st_n σ → (∀ r, 1 ≤ r → r ≤ j → nI r ≠ i) → mx_V p l ev { frames := 0, cells := 0, slots := 0, locals := 0 } s mt args below meth cd G base 3 (MQ below (mx_Qc G base (fun v h' => v = some (va_rf (pB A (ixR (st_n σ) i))) ∧ h = h')) args s 0 0 (mx_A base)) h 0 0 5 [some (.ref (aK A 0)), some (.int i), some (va_rf (pB A (nxt (st_n σ) j)))] [] := by
    intro d
    induction d using Nat.strongRecOn with
    | ind d ih =>
    intro j hd hj hno
    first | refine mx_aload_n C dX8_bookOf_5 (pc' := 6) rfl rfl ?_ | refine mx_aload_nq C dX8_bookOf_5 (pc' := 6) rfl rfl ?_
    by_cases e : j < st_n σ
    · rw [nxt_lt e, pB_s (show j + 1 ≠ 0 by omega)]
      have B := c.2.2.2.2.2.2.2.1 (j + 1) (by omega) (by omega)
      refine mx_ifnull C dX8_bookOf_6 (tgt := 27) (by decide) (pc' := 9) rfl (fun h6 => ?_) (fun h6_a h6 => ?_)
      · cases h6
      first | refine mx_aload_n C dX8_bookOf_9 (pc' := 10) rfl rfl ?_ | refine mx_aload_nq C dX8_bookOf_9 (pc' := 10) rfl rfl ?_
      refine gX8_53 C dX8_bookOf_10 (pc' := 13) rfl (B) rfl ?_
      refine mx_iload_n C dX8_bookOf_13 (pc' := 14) rfl rfl ?_
      refine mx_icmp_ne C dX8_bookOf_14 (tgt := 19) (by decide) (pc' := 17) rfl (fun h14 => ?_) (fun h14 => ?_)
      · skip
        first | refine mx_aload_n C dX8_bookOf_19 (pc' := 20) rfl rfl ?_ | refine mx_aload_nq C dX8_bookOf_19 (pc' := 20) rfl rfl ?_
        refine gX8_50 C dX8_bookOf_20 (pc' := 23) rfl (B) rfl ?_
        first | refine mx_astore_n C dX8_bookOf_23 (pc' := 24) rfl (by first | exact mx_c1_0 | exact mx_c1_int rfl | exact mx_c1_ref rfl | exact mx_c1_none rfl | exact mx_c1_rf rfl | exact mx_c1_null rfl) (by decide) (lo' := [_, _, _]) rfl ?_ | refine mx_astore_nq C dX8_bookOf_23 (pc' := 24) rfl (by first | exact mx_c1_0 | exact mx_c1_int rfl | exact mx_c1_ref rfl | exact mx_c1_none rfl | exact mx_c1_rf rfl | exact mx_c1_null rfl) (by decide) (lo' := [_, _, _]) rfl ?_
        refine mx_goto C dX8_bookOf_24 (tgt := 5) (by decide) ?_
        exact ih _ (by omega) (j + 1) rfl (by omega) (fun r h1 h2 => by
          by_cases e2 : r = j + 1
          · subst e2; exact h14
          · exact hno r h1 (by omega))
      · skip
        first | refine mx_aload_n C dX8_bookOf_17 (pc' := 18) rfl rfl ?_ | refine mx_aload_nq C dX8_bookOf_17 (pc' := 18) rfl rfl ?_
        refine mx_aret (x := some (aB A (j + 1))) C hr dX8_bookOf_18 (by omega) (by omega) ⟨?_, rfl⟩
        rw [← h14, ixR_at (by omega) (by omega) (by omega), pB_s (by omega)]
    · rw [nxt_ge e, pB_0]
      refine mx_ifnull C dX8_bookOf_6 (tgt := 27) (by decide) (pc' := 9) rfl (fun h6 => ?_) (fun h6_a h6 => ?_)
      · skip
        refine mx_null C dX8_bookOf_27 (pc' := 28) rfl ?_
        refine mx_aret (x := none) C hr dX8_bookOf_28 (by omega) (by omega) ⟨?_, rfl⟩
        rw [ixR_no (by omega) (fun r h1 h2 => hno r h1 (by omega)), pB_0]
      · cases h6
  first | refine mx_aload_n C dX8_bookOf_0 (pc' := 1) rfl rfl ?_ | refine mx_aload_nq C dX8_bookOf_0 (pc' := 1) rfl rfl ?_
  refine gX8_47 C dX8_bookOf_1 (pc' := 4) rfl (c.2.2.1) rfl ?_
  first | refine mx_astore_n C dX8_bookOf_4 (pc' := 5) rfl (by first | exact mx_c1_0 | exact mx_c1_int rfl | exact mx_c1_ref rfl | exact mx_c1_none rfl | exact mx_c1_rf rfl | exact mx_c1_null rfl) (by decide) (lo' := [_, _, _]) rfl ?_ | refine mx_astore_nq C dX8_bookOf_4 (pc' := 5) rfl (by first | exact mx_c1_0 | exact mx_c1_int rfl | exact mx_c1_ref rfl | exact mx_c1_none rfl | exact mx_c1_rf rfl | exact mx_c1_null rfl) (by decide) (lo' := [_, _, _]) rfl ?_
  exact loop _ 0 rfl (by omega) (fun r h1 h2 => by omega)
theorem c_X8_standingBook (h : mx_H) {A : mxA} {σ : mxS} {la ea : Nat → Nat} {mk : Nat → Bool} (c : CI G A h σ la ea mk) {i : Int32} :
    mx_M l G base yX8_standingBook cX8_standingBook 3 (some (.object "RecordMatch$Book")) 1 22 0 0 [.ref (aK A 0), .int i] h (fun v h' => v = some (va_rf (pB A (ixS σ i))) ∧ h = h') := by
  have hle := @ixR_le (st_n σ) i
  refine mx_enter (lo := [some (.ref (aK A 0)), some (.int i), none]) (by decide) (mx_in wd_code_yX8_standingBook rfl) (Nat.le_of_ble_eq_true rfl) rfl ?_
  intro p ev s mt args below meth cd C hr hnm
  have C : mx_C p s mt args meth cd cX8_standingBook 3 RX8 G base := C
  first | refine mx_aload_n C dX8_standingBook_0 (pc' := 1) rfl rfl ?_ | refine mx_aload_nq C dX8_standingBook_0 (pc' := 1) rfl rfl ?_
  refine mx_iload_n C dX8_standingBook_1 (pc' := 2) rfl rfl ?_
  refine cX8_183 C dX8_standingBook_2 (pc' := 5) rfl (c.2.2.1) (c_X8_bookOf l G base h c) ⟨by decide, by decide, by decide, by decide, Nat.le_of_ble_eq_true rfl⟩ ?_
  rintro _ _ ⟨rfl, rfl⟩
  first | refine mx_astore_n C dX8_standingBook_5 (pc' := 6) rfl (by first | exact mx_c1_0 | exact mx_c1_int rfl | exact mx_c1_ref rfl | exact mx_c1_none rfl | exact mx_c1_rf rfl | exact mx_c1_null rfl) (by decide) (lo' := [_, _, _]) rfl ?_ | refine mx_astore_nq C dX8_standingBook_5 (pc' := 6) rfl (by first | exact mx_c1_0 | exact mx_c1_int rfl | exact mx_c1_ref rfl | exact mx_c1_none rfl | exact mx_c1_rf rfl | exact mx_c1_null rfl) (by decide) (lo' := [_, _, _]) rfl ?_
  first | refine mx_aload_n C dX8_standingBook_6 (pc' := 7) rfl rfl ?_ | refine mx_aload_nq C dX8_standingBook_6 (pc' := 7) rfl rfl ?_
  by_cases e : ixR (st_n σ) i = 0
  · have e3 : ixS σ i = 0 := if_neg (fun z => z.1 e)
    rw [e, pB_0, e3]
    refine mx_ifnull C dX8_standingBook_7 (tgt := 21) (by decide) (pc' := 10) rfl (fun h7 => ?_) (fun h7_a h7 => ?_)
    · skip
      refine mx_null C dX8_standingBook_21 (pc' := 22) rfl ?_
      exact mx_aret (x := none) C hr dX8_standingBook_22 (by omega) (by omega) ⟨rfl, rfl⟩
    · cases h7
  · rw [pB_s e]
    have B := c.2.2.2.2.2.2.2.1 _ (by omega) hle
    refine mx_ifnull C dX8_standingBook_7 (tgt := 21) (by decide) (pc' := 10) rfl (fun h7 => ?_) (fun h7_a h7 => ?_)
    · cases h7
    first | refine mx_aload_n C dX8_standingBook_10 (pc' := 11) rfl rfl ?_ | refine mx_aload_nq C dX8_standingBook_10 (pc' := 11) rfl rfl ?_
    refine gX8_203 C dX8_standingBook_11 (pc' := 14) rfl (B) rfl ?_
    by_cases e2 : st_in σ (ixR (st_n σ) i) = 0
    · have e3 : ixS σ i = ixR (st_n σ) i := if_pos ⟨e, e2⟩
      rw [e2, pB_0, e3]
      refine mx_ifnonnull C dX8_standingBook_14 (tgt := 21) (by decide) (pc' := 17) rfl (fun h14_a h14 => ?_) (fun h14 => ?_)
      · cases h14
      first | refine mx_aload_n C dX8_standingBook_17 (pc' := 18) rfl rfl ?_ | refine mx_aload_nq C dX8_standingBook_17 (pc' := 18) rfl rfl ?_
      refine mx_goto C dX8_standingBook_18 (tgt := 22) (by decide) ?_
      exact mx_aret (x := some (aB A (ixR (st_n σ) i))) C hr dX8_standingBook_22 (by omega) (by omega) ⟨by rw [pB_s e], rfl⟩
    · have e3 : ixS σ i = 0 := if_neg (fun z => e2 z.2)
      rw [pB_s e2, e3]
      refine mx_ifnonnull C dX8_standingBook_14 (tgt := 21) (by decide) (pc' := 17) rfl (fun h14_a h14 => ?_) (fun h14 => ?_)
      · skip
        refine mx_null C dX8_standingBook_21 (pc' := 22) rfl ?_
        exact mx_aret (x := none) C hr dX8_standingBook_22 (by omega) (by omega) ⟨rfl, rfl⟩
      · cases h14
theorem c_X8_textOf (h : mx_H) {A : mxA} {σ : mxS} {la ea : Nat → Nat} {mk : Nat → Bool} (c : CI G A h σ la ea mk) {i : Int32} :
    mx_M l G base yX8_textOf cX8_textOf 3 (some (.object "RecordMatch$Text")) 0 0 0 0 [.ref (aK A 0), .int i] h (fun v h' => v = some (va_rf (pT A (ixR (st_k σ) i))) ∧ h = h') := by
  have hn := c.1.2.1
  refine mx_enter (lo := [some (.ref (aK A 0)), some (.int i), none]) (by decide) (mx_in wd_code_yX8_textOf rfl) (Nat.le_of_ble_eq_true rfl) rfl ?_
  intro p ev s mt args below meth cd C hr hnm
  have C : mx_C p s mt args meth cd cX8_textOf 3 RX8 G base := C
  have loop : ∀ (d j : Nat), st_k σ - j = d → j ≤ st_k σ → (∀ r, 1 ≤ r → r ≤ j → nI r ≠ i) → mx_V p l ev { frames := 0, cells := 0, slots := 0, locals := 0 } s mt args below meth cd G base 3 (MQ below (mx_Qc G base (fun v h' => v = some (va_rf (pT A (ixR (st_k σ) i))) ∧ h = h')) args s 0 0 (mx_A base)) h 0 0 5 [some (.ref (aK A 0)), some (.int i), some (va_rf (pT A (nxt (st_k σ) j)))] [] := by
    intro d
    induction d using Nat.strongRecOn with
    | ind d ih =>
    intro j hd hj hno
    first | refine mx_aload_n C dX8_textOf_5 (pc' := 6) rfl rfl ?_ | refine mx_aload_nq C dX8_textOf_5 (pc' := 6) rfl rfl ?_
    by_cases e : j < st_k σ
    · rw [nxt_lt e, pT_s (show j + 1 ≠ 0 by omega)]
      have B := (c.2.2.2.2.2.2.2.2.1 (j + 1) (by omega) (by omega)).2.1
      refine mx_ifnull C dX8_textOf_6 (tgt := 27) (by decide) (pc' := 9) rfl (fun h6 => ?_) (fun h6_a h6 => ?_)
      · cases h6
      first | refine mx_aload_n C dX8_textOf_9 (pc' := 10) rfl rfl ?_ | refine mx_aload_nq C dX8_textOf_9 (pc' := 10) rfl rfl ?_
      refine gX8_77 C dX8_textOf_10 (pc' := 13) rfl (B) rfl ?_
      refine mx_iload_n C dX8_textOf_13 (pc' := 14) rfl rfl ?_
      refine mx_icmp_ne C dX8_textOf_14 (tgt := 19) (by decide) (pc' := 17) rfl (fun h14 => ?_) (fun h14 => ?_)
      · skip
        first | refine mx_aload_n C dX8_textOf_19 (pc' := 20) rfl rfl ?_ | refine mx_aload_nq C dX8_textOf_19 (pc' := 20) rfl rfl ?_
        refine gX8_75 C dX8_textOf_20 (pc' := 23) rfl (B) rfl ?_
        first | refine mx_astore_n C dX8_textOf_23 (pc' := 24) rfl (by first | exact mx_c1_0 | exact mx_c1_int rfl | exact mx_c1_ref rfl | exact mx_c1_none rfl | exact mx_c1_rf rfl | exact mx_c1_null rfl) (by decide) (lo' := [_, _, _]) rfl ?_ | refine mx_astore_nq C dX8_textOf_23 (pc' := 24) rfl (by first | exact mx_c1_0 | exact mx_c1_int rfl | exact mx_c1_ref rfl | exact mx_c1_none rfl | exact mx_c1_rf rfl | exact mx_c1_null rfl) (by decide) (lo' := [_, _, _]) rfl ?_
        refine mx_goto C dX8_textOf_24 (tgt := 5) (by decide) ?_
        exact ih _ (by omega) (j + 1) rfl (by omega) (fun r h1 h2 => by
          by_cases e2 : r = j + 1
          · subst e2; exact h14
          · exact hno r h1 (by omega))
      · skip
        first | refine mx_aload_n C dX8_textOf_17 (pc' := 18) rfl rfl ?_ | refine mx_aload_nq C dX8_textOf_17 (pc' := 18) rfl rfl ?_
        refine mx_aret (x := some (aT A (j + 1))) C hr dX8_textOf_18 (by omega) (by omega) ⟨?_, rfl⟩
        rw [← h14, ixR_at (by omega) (by omega) (by omega), pT_s (by omega)]
    · rw [nxt_ge e, pT_0]
      refine mx_ifnull C dX8_textOf_6 (tgt := 27) (by decide) (pc' := 9) rfl (fun h6 => ?_) (fun h6_a h6 => ?_)
      · skip
        refine mx_null C dX8_textOf_27 (pc' := 28) rfl ?_
        refine mx_aret (x := none) C hr dX8_textOf_28 (by omega) (by omega) ⟨?_, rfl⟩
        rw [ixR_no (by omega) (fun r h1 h2 => hno r h1 (by omega)), pT_0]
      · cases h6
  first | refine mx_aload_n C dX8_textOf_0 (pc' := 1) rfl rfl ?_ | refine mx_aload_nq C dX8_textOf_0 (pc' := 1) rfl rfl ?_
  refine gX8_72 C dX8_textOf_1 (pc' := 4) rfl (c.2.2.1) rfl ?_
  first | refine mx_astore_n C dX8_textOf_4 (pc' := 5) rfl (by first | exact mx_c1_0 | exact mx_c1_int rfl | exact mx_c1_ref rfl | exact mx_c1_none rfl | exact mx_c1_rf rfl | exact mx_c1_null rfl) (by decide) (lo' := [_, _, _]) rfl ?_ | refine mx_astore_nq C dX8_textOf_4 (pc' := 5) rfl (by first | exact mx_c1_0 | exact mx_c1_int rfl | exact mx_c1_ref rfl | exact mx_c1_none rfl | exact mx_c1_rf rfl | exact mx_c1_null rfl) (by decide) (lo' := [_, _, _]) rfl ?_
  exact loop _ 0 rfl (by omega) (fun r h1 h2 => by omega)
/-- the first field of r with a tag -/
def isT (σ : mxS) (r p j : Nat) : Bool := decide (st_tg σ (j + 1) = p) && decide (tp σ (st_ow σ (j + 1)) = r)
def fiT (σ : mxS) (r p : Nat) : Nat := match fiB (isT σ r p) (st_k σ) with
  | some j => j + 1
  | none => 0
theorem fiT_in {σ : mxS} {r p : Nat} (h : fiT σ r p ≠ 0) : 1 ≤ fiT σ r p ∧ fiT σ r p ≤ st_k σ ∧ st_tg σ (fiT σ r p) = p := by
  unfold fiT at h ⊢
  cases h1 : fiB (isT σ r p) (st_k σ) with
  | none => rw [h1] at h; exact absurd rfl h
  | some j =>
    obtain ⟨a, b, -⟩ := fiB_some h1
    unfold isT at b
    simp at b
    exact ⟨by show 1 ≤ j + 1; omega, by show j + 1 ≤ _; omega, b.1⟩
theorem c_X8_firstTextOf (h : mx_H) {A : mxA} {σ : mxS} {la ea : Nat → Nat} {mk : Nat → Bool} (c : CI G A h σ la ea mk) {r p0 : Nat} (h1 : 1 ≤ r) (h2 : r ≤ st_n σ) (hp : p0 ≤ 9) :
    mx_M l G base yX8_firstTextOf cX8_firstTextOf 4 (some (.object "RecordMatch$Text")) 2 42 0 0 [.ref (aK A 0), .ref (aB A r), .int (nI p0)] h (fun v h' => v = some (va_rf (pT A (fiT σ r p0))) ∧ h = h') := by
  have hn := c.1.2.1
  refine mx_enter (lo := [some (.ref (aK A 0)), some (.ref (aB A r)), some (.int (nI p0)), none]) (by decide) (mx_in wd_code_yX8_firstTextOf rfl) (Nat.le_of_ble_eq_true rfl) rfl ?_
  intro p ev s mt args below meth cd C hr hnm
  have C : mx_C p s mt args meth cd cX8_firstTextOf 4 RX8 G base := C
  have loop : ∀ (d j : Nat), st_k σ - j = d → j ≤ st_k σ → fiB (isT σ r p0) j = none → mx_V p l ev { frames := 2, cells := 0, slots := 0, locals := 42 } s mt args below meth cd G base 4 (MQ below (mx_Qc G base (fun v h' => v = some (va_rf (pT A (fiT σ r p0))) ∧ h = h')) args s 0 0 (mx_A base)) h 0 0 5 [some (.ref (aK A 0)), some (.ref (aB A r)), some (.int (nI p0)), some (va_rf (pT A (nxt (st_k σ) j)))] [] := by
    intro d
    induction d using Nat.strongRecOn with
    | ind d ih =>
    intro j hd hj hno
    first | refine mx_aload_n C dX8_firstTextOf_5 (pc' := 6) rfl rfl ?_ | refine mx_aload_nq C dX8_firstTextOf_5 (pc' := 6) rfl rfl ?_
    by_cases e : j < st_k σ
    · rw [nxt_lt e, pT_s (show j + 1 ≠ 0 by omega)]
      have B := c.2.2.2.2.2.2.2.2.1 (j + 1) (by omega) (by omega)
      obtain ⟨s1, s2, s3, -⟩ := c.1.2.2.2.2.2.1.1 (j + 1) (by omega) (by omega)
      refine mx_ifnull C dX8_firstTextOf_6 (tgt := 35) (by decide) (pc' := 9) rfl (fun h6 => ?_) (fun h6_a h6 => ?_)
      · cases h6
      first | refine mx_aload_n C dX8_firstTextOf_9 (pc' := 10) rfl rfl ?_ | refine mx_aload_nq C dX8_firstTextOf_9 (pc' := 10) rfl rfl ?_
      refine gX8_86 C dX8_firstTextOf_10 (pc' := 13) rfl (B.2.1) rfl ?_
      refine mx_iload_n C dX8_firstTextOf_13 (pc' := 14) rfl rfl ?_
      refine mx_N_ne C dX8_firstTextOf_14 (tgt := 27) (by decide) (pc' := 17) rfl (by omega) (by omega) (fun h14 => ?_) (fun h14 => ?_)
      · skip
        first | refine mx_aload_n C dX8_firstTextOf_27 (pc' := 28) rfl rfl ?_ | refine mx_aload_nq C dX8_firstTextOf_27 (pc' := 28) rfl rfl ?_
        refine gX8_75 C dX8_firstTextOf_28 (pc' := 31) rfl (B.2.1) rfl ?_
        first | refine mx_astore_n C dX8_firstTextOf_31 (pc' := 32) rfl (by first | exact mx_c1_0 | exact mx_c1_int rfl | exact mx_c1_ref rfl | exact mx_c1_none rfl | exact mx_c1_rf rfl | exact mx_c1_null rfl) (by decide) (lo' := [_, _, _, _]) rfl ?_ | refine mx_astore_nq C dX8_firstTextOf_31 (pc' := 32) rfl (by first | exact mx_c1_0 | exact mx_c1_int rfl | exact mx_c1_ref rfl | exact mx_c1_none rfl | exact mx_c1_rf rfl | exact mx_c1_null rfl) (by decide) (lo' := [_, _, _, _]) rfl ?_
        refine mx_goto C dX8_firstTextOf_32 (tgt := 5) (by decide) ?_
        exact ih _ (by omega) (j + 1) rfl (by omega) (fiB_s hno (by unfold isT; rw [decide_eq_false h14]; rfl))
      first | refine mx_aload_n C dX8_firstTextOf_17 (pc' := 18) rfl rfl ?_ | refine mx_aload_nq C dX8_firstTextOf_17 (pc' := 18) rfl rfl ?_
      first | refine mx_aload_n C dX8_firstTextOf_18 (pc' := 19) rfl rfl ?_ | refine mx_aload_nq C dX8_firstTextOf_18 (pc' := 19) rfl rfl ?_
      refine cX8_89 C dX8_firstTextOf_19 (pc' := 22) rfl (B.2.1) (c_X6_isOf l G base h c.1.1 c.1.2.2.2.2.1 c.2.2.2.2.2.2.2.1 B s2 s3 h1 h2) ⟨by decide, by decide, by decide, by decide, Nat.le_of_ble_eq_true rfl⟩ ?_
      rintro _ _ ⟨rfl, rfl⟩
      refine mx_B_eq C dX8_firstTextOf_22 (tgt := 27) (by decide) (pc' := 25) rfl (fun h22 => ?_) (fun h22 => ?_)
      · skip
        first | refine mx_aload_n C dX8_firstTextOf_27 (pc' := 28) rfl rfl ?_ | refine mx_aload_nq C dX8_firstTextOf_27 (pc' := 28) rfl rfl ?_
        refine gX8_75 C dX8_firstTextOf_28 (pc' := 31) rfl (B.2.1) rfl ?_
        first | refine mx_astore_n C dX8_firstTextOf_31 (pc' := 32) rfl (by first | exact mx_c1_0 | exact mx_c1_int rfl | exact mx_c1_ref rfl | exact mx_c1_none rfl | exact mx_c1_rf rfl | exact mx_c1_null rfl) (by decide) (lo' := [_, _, _, _]) rfl ?_ | refine mx_astore_nq C dX8_firstTextOf_31 (pc' := 32) rfl (by first | exact mx_c1_0 | exact mx_c1_int rfl | exact mx_c1_ref rfl | exact mx_c1_none rfl | exact mx_c1_rf rfl | exact mx_c1_null rfl) (by decide) (lo' := [_, _, _, _]) rfl ?_
        refine mx_goto C dX8_firstTextOf_32 (tgt := 5) (by decide) ?_
        exact ih _ (by omega) (j + 1) rfl (by omega) (fiB_s hno (by unfold isT; rw [h22, Bool.and_false]))
      · skip
        first | refine mx_aload_n C dX8_firstTextOf_25 (pc' := 26) rfl rfl ?_ | refine mx_aload_nq C dX8_firstTextOf_25 (pc' := 26) rfl rfl ?_
        refine mx_aret (x := some (aT A (j + 1))) C hr dX8_firstTextOf_26 (by omega) (by omega) ⟨?_, rfl⟩
        have e3 : fiT σ r p0 = j + 1 := by
          unfold fiT
          rw [fiB_m (fiB_t hno (show isT σ r p0 j = true by unfold isT; rw [h22, decide_eq_true h14]; rfl)) (show j + 1 ≤ st_k σ by omega)]
        rw [e3, pT_s (by omega)]
    · rw [nxt_ge e, pT_0]
      have e2 : j = st_k σ := by omega
      rw [e2] at hno
      refine mx_ifnull C dX8_firstTextOf_6 (tgt := 35) (by decide) (pc' := 9) rfl (fun h6 => ?_) (fun h6_a h6 => ?_)
      · skip
        refine mx_null C dX8_firstTextOf_35 (pc' := 36) rfl ?_
        refine mx_aret (x := none) C hr dX8_firstTextOf_36 (by omega) (by omega) ⟨?_, rfl⟩
        unfold fiT
        rw [hno]
        rfl
      · cases h6
  first | refine mx_aload_n C dX8_firstTextOf_0 (pc' := 1) rfl rfl ?_ | refine mx_aload_nq C dX8_firstTextOf_0 (pc' := 1) rfl rfl ?_
  refine gX8_72 C dX8_firstTextOf_1 (pc' := 4) rfl (c.2.2.1) rfl ?_
  first | refine mx_astore_n C dX8_firstTextOf_4 (pc' := 5) rfl (by first | exact mx_c1_0 | exact mx_c1_int rfl | exact mx_c1_ref rfl | exact mx_c1_none rfl | exact mx_c1_rf rfl | exact mx_c1_null rfl) (by decide) (lo' := [_, _, _, _]) rfl ?_ | refine mx_astore_nq C dX8_firstTextOf_4 (pc' := 5) rfl (by first | exact mx_c1_0 | exact mx_c1_int rfl | exact mx_c1_ref rfl | exact mx_c1_none rfl | exact mx_c1_rf rfl | exact mx_c1_null rfl) (by decide) (lo' := [_, _, _, _]) rfl ?_
  exact loop _ 0 rfl (by omega) rfl
end IN
