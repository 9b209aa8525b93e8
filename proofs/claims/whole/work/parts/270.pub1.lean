/-! candidates, index, isbn, at, winner, locked -/
def mkP (σ : mxS) (P : Nat → Bool) (j r : Nat) : Bool := anyB (fun i => decide (tp σ (st_ow σ (i + 1)) = r) && P i) j
theorem mkP_s (σ : mxS) (P : Nat → Bool) (j r : Nat) : mkP σ P (j + 1) r = (mkP σ P j r || (decide (tp σ (st_ow σ (j + 1)) = r) && P j)) := rfl
theorem cntB_one {f g : Nat → Bool} {n i0 : Nat} (h0 : i0 < n) (h1 : f i0 = false) (h2 : g i0 = true) (h3 : ∀ i, i ≠ i0 → g i = f i) : cntB g n = cntB f n + 1 := by
  induction n with
  | zero => omega
  | succ n ih =>
    by_cases e : i0 = n
    · subst e
      simp only [cntB]
      rw [cntB_congr (f := g) (g := f) (n := i0) (fun i hi => h3 i (by omega)), h1, h2]
      simp
    · simp only [cntB]
      rw [ih (by omega), h3 n (by omega)]
      omega
def lst (f : Nat → Bool) : Nat → List Nat
  | 0 => []
  | i + 1 => if f i then lst f i ++ [i + 1] else lst f i
theorem lst_len (f : Nat → Bool) (n : Nat) : (lst f n).length = cntB f n := by
  induction n with
  | zero => rfl
  | succ n ih =>
    simp only [lst, cntB]
    split
    · rw [List.length_append, ih]; rfl
    · rw [ih]; rfl
theorem lst_le {f : Nat → Bool} {n : Nat} : ∀ x ∈ lst f n, x ≤ n := by
  induction n with
  | zero => intro x hx; simp [lst] at hx
  | succ n ih =>
    intro x hx
    simp only [lst] at hx
    split at hx
    · rcases List.mem_append.mp hx with z | z
      · have := ih x z; omega
      · rw [List.mem_singleton.mp z]; omega
    · have := ih x hx; omega
theorem lst_congr {f g : Nat → Bool} {n : Nat} (h : ∀ i, i < n → f i = g i) : lst f n = lst g n := by
  induction n with
  | zero => rfl
  | succ n ih => simp only [lst]; rw [ih (fun i hi => h i (by omega)), h n (by omega)]
def su_fd (σ : mxS) (L : List Nat) : mxS := ((σ.1.1, σ.1.2.1, σ.1.2.2.1, L.length), σ.2.1, σ.2.2.1, (σ.2.2.2.1, σ.2.2.2.2.1, fun i => L.getD i 0))
theorem si_fd {σ : mxS} (h : si σ) {L : List Nat} (h1 : L.length ≤ 40) (h2 : ∀ x ∈ L, x ≤ 40) : si (su_fd σ L) := by
  obtain ⟨a1, a2, a3, a4, a5, a6, a7, a8⟩ := h
  refine ⟨a1, a2, a3, h1, a5, a6, a7, fun i hi => ?_⟩
  have hi : i < L.length := hi
  show L.getD i 0 ≤ 40
  rw [List.getD_eq_getElem?_getD, List.getElem?_eq_getElem hi]
  exact h2 _ (List.getElem_mem hi)
theorem CI.fd {G : mx_G} {A : mxA} {h : mx_H} {σ : mxS} {la ea : Nat → Nat} {mk : Nat → Bool} (c : CI G A h σ la ea mk) {L : List Nat} (h1 : L.length ≤ 40) (h2 : ∀ x ∈ L, x ≤ 40) {h' : mx_H} (e0 : h' (aK A 0) = some (.inr (8, mo A (su_fd σ L)))) {F : Nat → Int32} (e1 : h' (aK A 1) = some (.inl (G.2 0, 40, .inl F))) (hF : ∀ i, i < L.length → F i = nI (L.getD i 0)) (hf : ∀ a, a ≠ aK A 0 → a ≠ aK A 1 → h' a = h a) : CI G A h' (su_fd σ L) la ea mk := by
  obtain ⟨c1, c2, c3, -, c5, ⟨R, n, k1, k2, k3, k4⟩, c7, c8, c9, c10⟩ := id c
  have eK : ∀ i, i < 23 → 2 ≤ i → h' (aK A i) = h (aK A i) := fun i hi h2 => hf _ (c2.1.ne hi (by decide) (by omega)) (c2.1.ne hi (by decide) (by omega))
  refine ⟨si_fd c1 h1 h2, c2, e0, ⟨F, e1, hF⟩, c5.kept (fun i _ _ => eK i (by omega) (by omega)), ⟨R, n, k1, k2, (eK 9 (by decide) (by decide)).trans k3, (eK 10 (by decide) (by decide)).trans k4⟩, c7.kept (fun i _ _ => eK i (by omega) (by omega)), fun r r1 r2 => ?_, fun f f1 f2 => ?_, c10⟩
  · rw [hf _ (c.bK r1 r2 (by decide)) (c.bK r1 r2 (by decide))]; exact c8 r r1 r2
  · exact (c9 f f1 f2).kept (hf _ (c.tK f1 f2 (by decide)) (c.tK f1 f2 (by decide))) (hf _ (c2.2.1 f f1 f2 0 (by decide)) (c2.2.1 f f1 f2 1 (by decide)))
section P1
variable (l : Launch) (G : mx_G) (base : Nat)
set_option maxRecDepth 20000
theorem c_X8_countHolders (h : mx_H) {A : mxA} {σ : mxS} {la ea : Nat → Nat} {mk : Nat → Bool} (c : CI G A h σ la ea mk) {q : Bool × Nat} (hq : kvd q) :
    mx_M l G base yX8_countHolders cX8_countHolders 6 (some .int) 5 108 0 0 [.ref (aK A 0), .long (encC (some q))] h (fun v h' => v = some (.int (nI (cntB (fun i => mkP σ (fun j => decide (sky σ (j + 1) = some q)) (st_k σ) (i + 1)) (st_n σ)))) ∧ (∃ mk', CI G A h' σ la ea mk') ∧ OUT A σ h h') := by
  have hk := c.1.2.1
  have hn := c.1.1
  have hK := c.2.1.1
  refine mx_enter (lo := [some (.ref (aK A 0)), some (.long (encC (some q))), none, none, none, none]) (by decide) (mx_in wd_code_yX8_countHolders rfl) (Nat.le_of_ble_eq_true rfl) rfl ?_
  intro p ev s mt args below meth cd C hr hnm
  have C : mx_C p s mt args meth cd cX8_countHolders 6 RX8 G base := C
  have loop : ∀ (d j : Nat) (hh : mx_H) (o5 : Option Value), st_k σ - j = d → j ≤ st_k σ → CI G A hh σ la ea (mkP σ (fun j => decide (sky σ (j + 1) = some q)) j) → OUT A σ h hh → mx_V p l ev { frames := 5, cells := 0, slots := 0, locals := 108 } s mt args below meth cd G base 6 (MQ below (mx_Qc G base (fun v h' => v = some (.int (nI (cntB (fun i => mkP σ (fun j => decide (sky σ (j + 1) = some q)) (st_k σ) (i + 1)) (st_n σ)))) ∧ (∃ mk', CI G A h' σ la ea mk') ∧ OUT A σ h h')) args s 0 0 (mx_A base)) hh 0 0 12 [some (.ref (aK A 0)), some (.long (encC (some q))), none, some (.int (nI (cntB (fun i => mkP σ (fun j => decide (sky σ (j + 1) = some q)) j (i + 1)) (st_n σ)))), some (va_rf (pT A (nxt (st_k σ) j))), o5] [] := by
    intro d
    induction d using Nat.strongRecOn with
    | ind d ih =>
    intro j hh o5 hd hj cc ho
    have hcl := cntB_le (fun i => mkP σ (fun j => decide (sky σ (j + 1) = some q)) j (i + 1)) (st_n σ)
    refine mx_weak (mx_le_keep (mx_le_keep (mx_le_keep (mx_le_keep (mx_le_keep (mx_le_drop mx_le_nil)))))) ?_
    first | refine mx_aload C dX8_countHolders_12 (pc' := 14) rfl rfl ?_ | refine mx_aloadq C dX8_countHolders_12 (pc' := 14) rfl rfl ?_
    by_cases e : j < st_k σ
    · rw [nxt_lt e, pT_s (show j + 1 ≠ 0 by omega)]
      have B := cc.2.2.2.2.2.2.2.2.1 (j + 1) (by omega) (by omega)
      obtain ⟨s1, s2, s3, s4, s5⟩ := cc.1.2.2.2.2.2.1.1 (j + 1) (by omega) (by omega)
      obtain ⟨t1, t2, t3⟩ := tp_in cc.1.2.2.2.2.1 _ _ rfl s2 s3
      have hsk : ∀ q, sky σ (j + 1) = some q → kvd q := fun q hq => fkey_ok s5 hq
      have BB := cc.2.2.2.2.2.2.2.1 _ t1 t2
      refine mx_ifnull C dX8_countHolders_14 (tgt := 68) (by decide) (pc' := 17) rfl (fun h14 => ?_) (fun h14_a h14 => ?_)
      · cases h14
      have key : ∀ (h9 : mx_H) (n9 : Nat) (o9 : Option Value), CI G A h9 σ la ea (mkP σ (fun j => decide (sky σ (j + 1) = some q)) (j + 1)) → OUT A σ h h9 → n9 = cntB (fun i => mkP σ (fun j => decide (sky σ (j + 1) = some q)) (j + 1) (i + 1)) (st_n σ) → mx_V p l ev { frames := 5, cells := 0, slots := 0, locals := 108 } s mt args below meth cd G base 6 (MQ below (mx_Qc G base (fun v h' => v = some (.int (nI (cntB (fun i => mkP σ (fun j => decide (sky σ (j + 1) = some q)) (st_k σ) (i + 1)) (st_n σ)))) ∧ (∃ mk', CI G A h' σ la ea mk') ∧ OUT A σ h h')) args s 0 0 (mx_A base)) h9 0 0 58 [some (.ref (aK A 0)), some (.long (encC (some q))), none, some (.int (nI n9)), some (.ref (aT A (j + 1))), o9] [] := by
        intro h9 n9 o9 c9 ho9 e9
        have B9 := c9.2.2.2.2.2.2.2.2.1 (j + 1) (by omega) (by omega)
        first | refine mx_aload C dX8_countHolders_58 (pc' := 60) rfl rfl ?_ | refine mx_aloadq C dX8_countHolders_58 (pc' := 60) rfl rfl ?_
        refine gX8_75 C dX8_countHolders_60 (pc' := 63) rfl (B9.2.1) rfl ?_
        first | refine mx_astore C dX8_countHolders_63 (pc' := 65) rfl (by first | exact mx_c1_0 | exact mx_c1_int rfl | exact mx_c1_ref rfl | exact mx_c1_none rfl | exact mx_c1_rf rfl | exact mx_c1_null rfl) (by decide) (lo' := [_, _, _, _, _, _]) rfl ?_ | refine mx_astoreq C dX8_countHolders_63 (pc' := 65) rfl (by first | exact mx_c1_0 | exact mx_c1_int rfl | exact mx_c1_ref rfl | exact mx_c1_none rfl | exact mx_c1_rf rfl | exact mx_c1_null rfl) (by decide) (lo' := [_, _, _, _, _, _]) rfl ?_
        refine mx_goto C dX8_countHolders_65 (tgt := 12) (by decide) ?_
        rw [e9]
        exact ih _ (by omega) (j + 1) h9 o9 rfl (by omega) c9 ho9
      first | refine mx_aload C dX8_countHolders_17 (pc' := 19) rfl rfl ?_ | refine mx_aloadq C dX8_countHolders_17 (pc' := 19) rfl rfl ?_
      refine gX8_151 C dX8_countHolders_19 (pc' := 22) rfl (B.2.1) rfl ?_
      refine cX8_154 C dX8_countHolders_22 (pc' := 25) rfl (cc.2.2.2.2.2.2.2.1 _ s2 s3) (c_X0_outermost l G base hh cc.1.2.2.2.2.1 cc.2.2.2.2.2.2.2.1 s2 s3) ⟨by decide, by decide, by decide, by decide, Nat.le_of_ble_eq_true rfl⟩ ?_
      rintro _ _ ⟨rfl, rfl⟩
      first | refine mx_astore C dX8_countHolders_25 (pc' := 27) rfl (by first | exact mx_c1_0 | exact mx_c1_int rfl | exact mx_c1_ref rfl | exact mx_c1_none rfl | exact mx_c1_rf rfl | exact mx_c1_null rfl) (by decide) (lo' := [_, _, _, _, _, _]) rfl ?_ | refine mx_astoreq C dX8_countHolders_25 (pc' := 27) rfl (by first | exact mx_c1_0 | exact mx_c1_int rfl | exact mx_c1_ref rfl | exact mx_c1_none rfl | exact mx_c1_rf rfl | exact mx_c1_null rfl) (by decide) (lo' := [_, _, _, _, _, _]) rfl ?_
      first | refine mx_aload C dX8_countHolders_27 (pc' := 29) rfl rfl ?_ | refine mx_aloadq C dX8_countHolders_27 (pc' := 29) rfl rfl ?_
      refine gX8_158 C dX8_countHolders_29 (pc' := 32) rfl (BB) rfl ?_
      refine mx_B_ne C dX8_countHolders_32 (tgt := 58) (by decide) (pc' := 35) rfl (fun h32 => ?_) (fun h32 => ?_)
      · have e2 : mkP σ (fun j => decide (sky σ (j + 1) = some q)) (j + 1) = mkP σ (fun j => decide (sky σ (j + 1) = some q)) j := by
          funext r
          rw [mkP_s]
          by_cases e3 : tp σ (st_ow σ (j + 1)) = r
          · subst e3; rw [h32]; rfl
          · rw [decide_eq_false e3]; simp
        exact key hh _ _ (by rw [e2]; exact cc) ho (by rw [e2])
      first | refine mx_aload_n C dX8_countHolders_35 (pc' := 36) rfl rfl ?_ | refine mx_aload_nq C dX8_countHolders_35 (pc' := 36) rfl rfl ?_
      refine gX8_16 C dX8_countHolders_36 (pc' := 39) rfl (cc.2.2.1) rfl ?_
      first | refine mx_aload C dX8_countHolders_39 (pc' := 41) rfl rfl ?_ | refine mx_aloadq C dX8_countHolders_39 (pc' := 41) rfl rfl ?_
      refine cX8_143 C dX8_countHolders_41 (pc' := 44) rfl (cc.2.2.2.2.1.1) (c_X2_keyOf l G base hh hK cc.2.2.2.2.1 B s1 (cc.2.1.2.1 (j + 1) (by omega) (by omega) 4 (by decide))) ⟨by decide, by decide, by decide, by decide, Nat.le_of_ble_eq_true rfl⟩ ?_
      rintro _ h2 ⟨rfl, hw2, hf2⟩
      refine mx_lload_n C dX8_countHolders_44 (pc' := 45) rfl rfl ?_
      refine mx_lcmp C dX8_countHolders_45 (pc' := 46) rfl ?_
      have c2 := cc.kr hw2 hf2
      have ho2 := ho.tr (OUT.kr (σ := σ) hf2)
      have e0 : fkey (st_tg σ (j + 1)) (st_sg σ (j + 1)) (st_sz σ (j + 1)) = sky σ (j + 1) := rfl
      rw [e0]
      have heq : encC (sky σ (j + 1)) = encC (some q) ↔ sky σ (j + 1) = some q := by
        cases hs : sky σ (j + 1) with
        | none => exact ⟨fun z => absurd z.symm (encC_ne0 hq), fun z => by cases z⟩
        | some q' => rw [encC_inj (hsk q' hs) hq]; exact ⟨fun z => by rw [z], fun z => Option.some.inj z⟩
      refine mx_L_ne C dX8_countHolders_46 (tgt := 58) (by decide) (pc' := 49) rfl (fun h46 => ?_) (fun h46 => ?_)
      · have e2 : mkP σ (fun j => decide (sky σ (j + 1) = some q)) (j + 1) = mkP σ (fun j => decide (sky σ (j + 1) = some q)) j := by
          funext r
          rw [mkP_s, decide_eq_false (fun z => h46 (heq.mpr z))]
          simp
        exact key h2 _ _ (by rw [e2]; exact c2) ho2 (by rw [e2])
      have hyes := heq.mp h46
      have c3 := c2.mark t1 t2 true
      have e2 : (fun r => if r = tp σ (st_ow σ (j + 1)) then true else mkP σ (fun j => decide (sky σ (j + 1) = some q)) j r) = mkP σ (fun j => decide (sky σ (j + 1) = some q)) (j + 1) := by
        funext r
        rw [mkP_s, decide_eq_true hyes]
        by_cases e3 : r = tp σ (st_ow σ (j + 1))
        · subst e3; simp
        · rw [if_neg e3, decide_eq_false (fun z => e3 z.symm)]; simp
      rw [e2] at c3
      have BB2 := c2.2.2.2.2.2.2.2.1 _ t1 t2
      first | refine mx_aload C dX8_countHolders_49 (pc' := 51) rfl rfl ?_ | refine mx_aloadq C dX8_countHolders_49 (pc' := 51) rfl rfl ?_
      refine mx_iconst C (v := nI 1) (by decide) dX8_countHolders_51 (pc' := 52) rfl ?_
      first | refine pX8_158 C dX8_countHolders_52 (pc' := 55) rfl (BB2) (Nat.le_of_ble_eq_true rfl) (mx_b_nz _) (mx_b_fz _) (fs' := [_, _, _, _, _, _, _, _]) rfl ?_ | refine pX8_158 C dX8_countHolders_52 (pc' := 55) rfl (BB2) (Nat.le_of_ble_eq_true rfl) rfl rfl (fs' := [_, _, _, _, _, _, _, _]) rfl ?_
      refine mx_iinc C dX8_countHolders_55 (pc' := 58) rfl rfl (mx_inc _) (by first | exact mx_c1_0 | exact mx_c1_int rfl | exact mx_c1_ref rfl | exact mx_c1_none rfl | exact mx_c1_rf rfl | exact mx_c1_null rfl) (by decide) (lo' := [_, _, _, _, _, _]) rfl ?_
      refine key _ _ _ c3 (ho2.tr (OUT.mark t1 t2)) ?_
      have e4 := cntB_one (f := fun i => mkP σ (fun j => decide (sky σ (j + 1) = some q)) j (i + 1)) (g := fun i => mkP σ (fun j => decide (sky σ (j + 1) = some q)) (j + 1) (i + 1)) (n := st_n σ) (i0 := tp σ (st_ow σ (j + 1)) - 1) (by omega) (by show mkP σ _ j (tp σ (st_ow σ (j + 1)) - 1 + 1) = false; rw [show tp σ (st_ow σ (j + 1)) - 1 + 1 = tp σ (st_ow σ (j + 1)) by omega]; exact h32) (by show mkP σ _ (j + 1) (tp σ (st_ow σ (j + 1)) - 1 + 1) = true; rw [show tp σ (st_ow σ (j + 1)) - 1 + 1 = tp σ (st_ow σ (j + 1)) by omega, mkP_s, decide_eq_true hyes, decide_eq_true rfl]; simp) (fun i hi => by show mkP σ _ (j + 1) (i + 1) = mkP σ _ j (i + 1); rw [mkP_s, decide_eq_false (show ¬ tp σ (st_ow σ (j + 1)) = i + 1 by omega)]; simp)
      exact e4.symm
    · rw [nxt_ge e, pT_0]
      have e2 : j = st_k σ := by omega
      subst e2
      refine mx_ifnull C dX8_countHolders_14 (tgt := 68) (by decide) (pc' := 17) rfl (fun h14 => ?_) (fun h14_a h14 => ?_)
      · skip
        refine mx_iload_n C dX8_countHolders_68 (pc' := 69) rfl rfl ?_
        exact mx_iret C hr dX8_countHolders_69 (by omega) (by omega) (⟨rfl, ⟨_, cc⟩, ho⟩)
      · cases h14
  first | refine mx_aload_n C dX8_countHolders_0 (pc' := 1) rfl rfl ?_ | refine mx_aload_nq C dX8_countHolders_0 (pc' := 1) rfl rfl ?_
  refine cX8_140 C dX8_countHolders_1 (pc' := 4) rfl (c.2.2.1) (c_X8_clearMarks l G base h c) ⟨by decide, by decide, by decide, by decide, Nat.le_of_ble_eq_true rfl⟩ ?_
  rintro _ h1 ⟨rfl, c1, ho1, -, -⟩
  have e0 : cntB (fun i => mkP σ (fun j => decide (sky σ (j + 1) = some q)) 0 (i + 1)) (st_n σ) = 0 := by
    generalize st_n σ = n
    induction n with
    | zero => rfl
    | succ n ih => simp only [cntB]; rw [ih]; rfl
  refine mx_iconst C (v := nI 0) (by decide) dX8_countHolders_4 (pc' := 5) rfl ?_
  refine mx_istore_n C dX8_countHolders_5 (pc' := 6) rfl (by first | exact mx_c1_0 | exact mx_c1_int rfl | exact mx_c1_ref rfl | exact mx_c1_none rfl | exact mx_c1_rf rfl | exact mx_c1_null rfl) (by decide) (lo' := [_, _, _, _, _, _]) rfl ?_
  first | refine mx_aload_n C dX8_countHolders_6 (pc' := 7) rfl rfl ?_ | refine mx_aload_nq C dX8_countHolders_6 (pc' := 7) rfl rfl ?_
  refine gX8_72 C dX8_countHolders_7 (pc' := 10) rfl (c1.2.2.1) rfl ?_
  first | refine mx_astore C dX8_countHolders_10 (pc' := 12) rfl (by first | exact mx_c1_0 | exact mx_c1_int rfl | exact mx_c1_ref rfl | exact mx_c1_none rfl | exact mx_c1_rf rfl | exact mx_c1_null rfl) (by decide) (lo' := [_, _, _, _, _, _]) rfl ?_ | refine mx_astoreq C dX8_countHolders_10 (pc' := 12) rfl (by first | exact mx_c1_0 | exact mx_c1_int rfl | exact mx_c1_ref rfl | exact mx_c1_none rfl | exact mx_c1_rf rfl | exact mx_c1_null rfl) (by decide) (lo' := [_, _, _, _, _, _]) rfl ?_
  have key := loop _ 0 h1 none rfl (by omega) c1 ho1
  rw [e0] at key
  exact key
theorem c_X8_listMarked (h : mx_H) {A : mxA} {σ : mxS} {la ea : Nat → Nat} {mk : Nat → Bool} (c : CI G A h σ la ea mk) :
    mx_M l G base yX8_listMarked cX8_listMarked 2 none 0 0 0 0 [.ref (aK A 0)] h (fun v h' => v = none ∧ CI G A h' (su_fd σ (lst (fun i => mk (i + 1)) (st_n σ))) la ea mk ∧ OUT A σ h h') := by
  have hn := c.1.1
  have hK := c.2.1.1
  have k01 : aK A 0 ≠ aK A 1 := hK.ne (by decide) (by decide) (by decide)
  refine mx_enter (lo := [some (.ref (aK A 0)), none]) (by decide) (mx_in wd_code_yX8_listMarked rfl) (Nat.le_of_ble_eq_true rfl) rfl ?_
  intro p ev s mt args below meth cd C hr hnm
  have C : mx_C p s mt args meth cd cX8_listMarked 2 RX8 G base := C
  have loop : ∀ (d j : Nat) (hh : mx_H), st_n σ - j = d → j ≤ st_n σ → CI G A hh (su_fd σ (lst (fun i => mk (i + 1)) j)) la ea mk → OUT A σ h hh → mx_V p l ev { frames := 0, cells := 0, slots := 0, locals := 0 } s mt args below meth cd G base 2 (MQ below (mx_Qc G base (fun v h' => v = none ∧ CI G A h' (su_fd σ (lst (fun i => mk (i + 1)) (st_n σ))) la ea mk ∧ OUT A σ h h')) args s 0 0 (mx_A base)) hh 0 0 10 [some (.ref (aK A 0)), some (va_rf (pB A (nxt (st_n σ) j)))] [] := by
    intro d
    induction d using Nat.strongRecOn with
    | ind d ih =>
    intro j hh hd hj cc ho
    have hcl := cntB_le (fun i => mk (i + 1)) j
    have hll := lst_len (fun i => mk (i + 1)) j
    first | refine mx_aload_n C dX8_listMarked_10 (pc' := 11) rfl rfl ?_ | refine mx_aload_nq C dX8_listMarked_10 (pc' := 11) rfl rfl ?_
    by_cases e : j < st_n σ
    · rw [nxt_lt e, pB_s (show j + 1 ≠ 0 by omega)]
      have B := cc.2.2.2.2.2.2.2.1 (j + 1) (by omega) (show j + 1 ≤ st_n σ by omega)
      obtain ⟨F, hF1, hF2⟩ := cc.2.2.2.1
      refine mx_ifnull C dX8_listMarked_11 (tgt := 64) (by decide) (pc' := 14) rfl (fun h11 => ?_) (fun h11_a h11 => ?_)
      · cases h11
      first | refine mx_aload_n C dX8_listMarked_14 (pc' := 15) rfl rfl ?_ | refine mx_aload_nq C dX8_listMarked_14 (pc' := 15) rfl rfl ?_
      refine gX8_158 C dX8_listMarked_15 (pc' := 18) rfl (B) rfl ?_
      refine mx_B_eq C dX8_listMarked_18 (tgt := 56) (by decide) (pc' := 21) rfl (fun h18 => ?_) (fun h18 => ?_)
      · skip
        first | refine mx_aload_n C dX8_listMarked_56 (pc' := 57) rfl rfl ?_ | refine mx_aload_nq C dX8_listMarked_56 (pc' := 57) rfl rfl ?_
        refine gX8_50 C dX8_listMarked_57 (pc' := 60) rfl (B) rfl ?_
        first | refine mx_astore_n C dX8_listMarked_60 (pc' := 61) rfl (by first | exact mx_c1_0 | exact mx_c1_int rfl | exact mx_c1_ref rfl | exact mx_c1_none rfl | exact mx_c1_rf rfl | exact mx_c1_null rfl) (by decide) (lo' := [_, _]) rfl ?_ | refine mx_astore_nq C dX8_listMarked_60 (pc' := 61) rfl (by first | exact mx_c1_0 | exact mx_c1_int rfl | exact mx_c1_ref rfl | exact mx_c1_none rfl | exact mx_c1_rf rfl | exact mx_c1_null rfl) (by decide) (lo' := [_, _]) rfl ?_
        refine mx_goto C dX8_listMarked_61 (tgt := 10) (by decide) ?_
        have e2 : lst (fun i => mk (i + 1)) (j + 1) = lst (fun i => mk (i + 1)) j := by simp only [lst]; rw [if_neg (by rw [h18]; decide)]
        exact ih _ (by omega) (j + 1) hh rfl (by omega) (by rw [e2]; exact cc) ho
      have e2 : lst (fun i => mk (i + 1)) (j + 1) = lst (fun i => mk (i + 1)) j ++ [j + 1] := by simp only [lst]; rw [if_pos h18]
      first | refine mx_aload_n C dX8_listMarked_21 (pc' := 22) rfl rfl ?_ | refine mx_aload_nq C dX8_listMarked_21 (pc' := 22) rfl rfl ?_
      refine gX8_165 C dX8_listMarked_22 (pc' := 25) rfl (cc.2.2.1) rfl ?_
      first | refine mx_aload_n C dX8_listMarked_25 (pc' := 26) rfl rfl ?_ | refine mx_aload_nq C dX8_listMarked_25 (pc' := 26) rfl rfl ?_
      refine gX8_9 C dX8_listMarked_26 (pc' := 29) rfl (cc.2.2.1) rfl ?_
      refine mx_aleni C dX8_listMarked_29 (pc' := 30) rfl (hF1) ?_
      have hf40 : st_f (su_fd σ (lst (fun i => mk (i + 1)) j)) = (lst (fun i => mk (i + 1)) j).length := rfl
      refine mx_N_ge C dX8_listMarked_30 (tgt := 56) (by decide) (pc' := 33) rfl (by omega) (by omega) (fun h30 => ?_) (fun h30 => ?_)
      · exact absurd h30 (by omega)
      first | refine mx_aload_n C dX8_listMarked_33 (pc' := 34) rfl rfl ?_ | refine mx_aload_nq C dX8_listMarked_33 (pc' := 34) rfl rfl ?_
      refine gX8_9 C dX8_listMarked_34 (pc' := 37) rfl (cc.2.2.1) rfl ?_
      first | refine mx_aload_n C dX8_listMarked_37 (pc' := 38) rfl rfl ?_ | refine mx_aload_nq C dX8_listMarked_37 (pc' := 38) rfl rfl ?_
      refine gX8_165 C dX8_listMarked_38 (pc' := 41) rfl (cc.2.2.1) rfl ?_
      first | refine mx_aload_n C dX8_listMarked_41 (pc' := 42) rfl rfl ?_ | refine mx_aload_nq C dX8_listMarked_41 (pc' := 42) rfl rfl ?_
      refine gX8_53 C dX8_listMarked_42 (pc' := 45) rfl (B) rfl ?_
      refine mx_iast C dX8_listMarked_45 (pc' := 46) rfl hF1 rfl (show (lst (fun i => mk (i + 1)) j).length < 40 by omega) (by decide) ?_
      have E0 : va_up hh (aK A 1) (some (.inl (G.2 0, 40, .inl (upd F (lst (fun i => mk (i + 1)) j).length (nI (j + 1)))))) (aK A 0) = some (.inr (8, mo A (su_fd σ (lst (fun i => mk (i + 1)) j)))) := by rw [va_up_ne _ _ k01]; exact cc.2.2.1
      first | refine mx_aload_n C dX8_listMarked_46 (pc' := 47) rfl rfl ?_ | refine mx_aload_nq C dX8_listMarked_46 (pc' := 47) rfl rfl ?_
      refine mx_dup C rfl dX8_listMarked_47 (pc' := 48) rfl ?_
      refine gX8_165 C dX8_listMarked_48 (pc' := 51) rfl (E0) rfl ?_
      refine mx_iconst C (v := nI 1) (by decide) dX8_listMarked_51 (pc' := 52) rfl ?_
      refine mx_iadd C dX8_listMarked_52 (pc' := 53) rfl ?_
      rw [nI_add]
      refine pX8_165 C dX8_listMarked_53 (pc' := 56) rfl (E0) (Nat.le_of_ble_eq_true rfl) rfl rfl (fs' := [_, _, _, _, _, _, _, _, _, _, _]) rfl ?_
      have len2 : (lst (fun i => mk (i + 1)) (j + 1)).length = (lst (fun i => mk (i + 1)) j).length + 1 := by rw [e2, List.length_append]; rfl
      have le2 : ∀ x ∈ lst (fun i => mk (i + 1)) (j + 1), x ≤ 40 := fun x hx => by have := lst_le x hx; omega
      have c2 := cc.fd (h' := va_up (va_up hh (aK A 1) (some (.inl (G.2 0, 40, .inl (upd F (lst (fun i => mk (i + 1)) j).length (nI (j + 1))))))) (aK A 0) (some (.inr (8, mo A (su_fd σ (lst (fun i => mk (i + 1)) (j + 1))))))) (L := lst (fun i => mk (i + 1)) (j + 1)) (by omega) le2 (va_up_self _ _ _) (by rw [va_up_ne _ _ (fun z => k01 z.symm), va_up_self]) (fun i hi => by
        rw [e2, List.getD_eq_getElem?_getD]
        by_cases e5 : i = (lst (fun i => mk (i + 1)) j).length
        · subst e5
          rw [pk_us, List.getElem?_append_right (Nat.le_refl _), Nat.sub_self]
          rfl
        · rw [pk_un e5, List.getElem?_append_left (by omega), ← List.getD_eq_getElem?_getD]
          exact hF2 i (show i < (lst (fun i => mk (i + 1)) j).length by omega)) (fun a a0 a1 => by rw [va_up_ne _ _ a0, va_up_ne _ _ a1])
      have eh : va_up (va_up hh (aK A 1) (some (.inl (G.2 0, 40, .inl (upd F (lst (fun i => mk (i + 1)) j).length (nI (j + 1))))))) (aK A 0) (some (.inr (8, [va_rf (pB A (nxt (st_n σ) 0)), va_rf (pB A (st_n σ)), .int (nI (st_n σ)), va_rf (pT A (nxt (st_k σ) 0)), va_rf (pT A (st_k σ)), .int (nI (st_k σ)), .ref (aK A 1), .int (nI ((lst (fun i => mk (i + 1)) j).length + 1)), .ref (aK A 2), .ref (aK A 9), .ref (aK A 11)]))) = va_up (va_up hh (aK A 1) (some (.inl (G.2 0, 40, .inl (upd F (lst (fun i => mk (i + 1)) j).length (nI (j + 1))))))) (aK A 0) (some (.inr (8, mo A (su_fd σ (lst (fun i => mk (i + 1)) (j + 1)))))) := by
        rw [← len2]; rfl
      refine mx_heap eh ?_
      have B2 := c2.2.2.2.2.2.2.2.1 (j + 1) (by omega) (show j + 1 ≤ st_n σ by omega)
      first | refine mx_aload_n C dX8_listMarked_56 (pc' := 57) rfl rfl ?_ | refine mx_aload_nq C dX8_listMarked_56 (pc' := 57) rfl rfl ?_
      refine gX8_50 C dX8_listMarked_57 (pc' := 60) rfl (B2) rfl ?_
      first | refine mx_astore_n C dX8_listMarked_60 (pc' := 61) rfl (by first | exact mx_c1_0 | exact mx_c1_int rfl | exact mx_c1_ref rfl | exact mx_c1_none rfl | exact mx_c1_rf rfl | exact mx_c1_null rfl) (by decide) (lo' := [_, _]) rfl ?_ | refine mx_astore_nq C dX8_listMarked_60 (pc' := 61) rfl (by first | exact mx_c1_0 | exact mx_c1_int rfl | exact mx_c1_ref rfl | exact mx_c1_none rfl | exact mx_c1_rf rfl | exact mx_c1_null rfl) (by decide) (lo' := [_, _]) rfl ?_
      refine mx_goto C dX8_listMarked_61 (tgt := 10) (by decide) ?_
      exact ih _ (by omega) (j + 1) _ rfl (by omega) c2 (ho.tr (fun a a1 _ _ => by rw [va_up_ne _ _ (a1 0 (by decide)), va_up_ne _ _ (a1 1 (by decide))]))
    · rw [nxt_ge e, pB_0]
      have e2 : j = st_n σ := by omega
      subst e2
      refine mx_ifnull C dX8_listMarked_11 (tgt := 64) (by decide) (pc' := 14) rfl (fun h11 => ?_) (fun h11_a h11 => ?_)
      · skip
        exact mx_vret C hr dX8_listMarked_64 (by omega) (by omega) (⟨rfl, cc, ho⟩)
      · cases h11
  obtain ⟨F, hF1, hF2⟩ := c.2.2.2.1
  have c2 := c.fd (h' := va_up h (aK A 0) (some (.inr (8, mo A (su_fd σ []))))) (L := []) (by decide) (fun x hx => by cases hx) (va_up_self _ _ _) (by rw [va_up_ne _ _ (fun z => k01 z.symm)]; exact hF1) (fun i hi => by simp at hi) (fun a a0 a1 => by rw [va_up_ne _ _ a0])
  first | refine mx_aload_n C dX8_listMarked_0 (pc' := 1) rfl rfl ?_ | refine mx_aload_nq C dX8_listMarked_0 (pc' := 1) rfl rfl ?_
  refine mx_iconst C (v := nI 0) (by decide) dX8_listMarked_1 (pc' := 2) rfl ?_
  refine pX8_165 C dX8_listMarked_2 (pc' := 5) rfl (c.2.2.1) (Nat.le_of_ble_eq_true rfl) rfl rfl (fs' := [_, _, _, _, _, _, _, _, _, _, _]) rfl ?_
  refine mx_heap (h' := va_up h (aK A 0) (some (.inr (8, mo A (su_fd σ []))))) rfl ?_
  first | refine mx_aload_n C dX8_listMarked_5 (pc' := 6) rfl rfl ?_ | refine mx_aload_nq C dX8_listMarked_5 (pc' := 6) rfl rfl ?_
  refine gX8_47 C dX8_listMarked_6 (pc' := 9) rfl (c2.2.2.1) rfl ?_
  first | refine mx_astore_n C dX8_listMarked_9 (pc' := 10) rfl (by first | exact mx_c1_0 | exact mx_c1_int rfl | exact mx_c1_ref rfl | exact mx_c1_none rfl | exact mx_c1_rf rfl | exact mx_c1_null rfl) (by decide) (lo' := [_, _]) rfl ?_ | refine mx_astore_nq C dX8_listMarked_9 (pc' := 10) rfl (by first | exact mx_c1_0 | exact mx_c1_int rfl | exact mx_c1_ref rfl | exact mx_c1_none rfl | exact mx_c1_rf rfl | exact mx_c1_null rfl) (by decide) (lo' := [_, _]) rfl ?_
  exact loop _ 0 _ rfl (by omega) c2 (fun a a1 _ _ => by rw [va_up_ne _ _ (a1 0 (by decide))])
/-- which records are candidates with r -/
def cnd (σ : mxS) (r i : Nat) : Bool := decide (i + 1 ≠ r) && mkP σ (fun j => decide (∃ q, q ∈ kl σ r (st_k σ) ∧ sky σ (j + 1) = some q)) (st_k σ) (i + 1)
theorem c_X8_candidates (h : mx_H) {A : mxA} {σ : mxS} {la ea : Nat → Nat} {mk : Nat → Bool} (c : CI G A h σ la ea mk) {i : Int32} {r : Nat} (hr0 : ixS σ i = r) :
    mx_M l G base yX8_candidates cX8_candidates 4 (some .int) 6 130 0 0 [.ref (aK A 0), .int i] h (fun v h' => (r = 0 → v = some (.int (-1)) ∧ h = h') ∧ (r ≠ 0 → v = some (.int (nI (lst (cnd σ r) (st_n σ)).length)) ∧ (∃ mk', CI G A h' (su_fd σ (lst (cnd σ r) (st_n σ))) la ea mk') ∧ OUT A σ h h')) := by
  have hk := c.1.2.1
  have hn := c.1.1
  have hK := c.2.1.1
  have hle := @ixS_le σ i
  rw [hr0] at hle
  refine mx_enter (lo := [some (.ref (aK A 0)), some (.int i), none, none]) (by decide) (mx_in wd_code_yX8_candidates rfl) (Nat.le_of_ble_eq_true rfl) rfl ?_
  intro p ev s mt args below meth cd C hr hnm
  have C : mx_C p s mt args meth cd cX8_candidates 4 RX8 G base := C
  first | refine mx_aload_n C dX8_candidates_0 (pc' := 1) rfl rfl ?_ | refine mx_aload_nq C dX8_candidates_0 (pc' := 1) rfl rfl ?_
  refine mx_iload_n C dX8_candidates_1 (pc' := 2) rfl rfl ?_
  refine cX8_56 C dX8_candidates_2 (pc' := 5) rfl (c.2.2.1) (c_X8_standingBook l G base h c) ⟨by decide, by decide, by decide, by decide, Nat.le_of_ble_eq_true rfl⟩ ?_
  rintro _ _ ⟨rfl, rfl⟩
  first | refine mx_astore_n C dX8_candidates_5 (pc' := 6) rfl (by first | exact mx_c1_0 | exact mx_c1_int rfl | exact mx_c1_ref rfl | exact mx_c1_none rfl | exact mx_c1_rf rfl | exact mx_c1_null rfl) (by decide) (lo' := [_, _, _, _]) rfl ?_ | refine mx_astore_nq C dX8_candidates_5 (pc' := 6) rfl (by first | exact mx_c1_0 | exact mx_c1_int rfl | exact mx_c1_ref rfl | exact mx_c1_none rfl | exact mx_c1_rf rfl | exact mx_c1_null rfl) (by decide) (lo' := [_, _, _, _]) rfl ?_
  first | refine mx_aload_n C dX8_candidates_6 (pc' := 7) rfl rfl ?_ | refine mx_aload_nq C dX8_candidates_6 (pc' := 7) rfl rfl ?_
  rw [hr0]
  by_cases e : r = 0
  · subst e
    rw [pB_0]
    refine mx_ifnonnull C dX8_candidates_7 (tgt := 12) (by decide) (pc' := 10) rfl (fun h7_a h7 => ?_) (fun h7 => ?_)
    · cases h7
    refine mx_iconst C (v := (-1)) (by decide) dX8_candidates_10 (pc' := 11) rfl ?_
    exact mx_iret C hr dX8_candidates_11 (by omega) (by omega) (⟨fun _ => ⟨rfl, rfl⟩, fun z => absurd rfl z⟩)
  rw [pB_s e]
  refine mx_ifnonnull C dX8_candidates_7 (tgt := 12) (by decide) (pc' := 10) rfl (fun h7_a h7 => ?_) (fun h7 => ?_)
  rotate_left
  · cases h7
  first | refine mx_aload_n C dX8_candidates_12 (pc' := 13) rfl rfl ?_ | refine mx_aload_nq C dX8_candidates_12 (pc' := 13) rfl rfl ?_
  first | refine mx_aload_n C dX8_candidates_13 (pc' := 14) rfl rfl ?_ | refine mx_aload_nq C dX8_candidates_13 (pc' := 14) rfl rfl ?_
  refine cX8_136 C dX8_candidates_14 (pc' := 17) rfl (c.2.2.1) (c_X8_collectKeys l G base h c (show 1 ≤ r by omega) hle) ⟨by decide, by decide, by decide, by decide, Nat.le_of_ble_eq_true rfl⟩ ?_
  rintro _ h1 ⟨rfl, c1, ho1, hko1⟩
  first | refine mx_aload_n C dX8_candidates_17 (pc' := 18) rfl rfl ?_ | refine mx_aload_nq C dX8_candidates_17 (pc' := 18) rfl rfl ?_
  refine cX8_140 C dX8_candidates_18 (pc' := 21) rfl (c1.2.2.1) (c_X8_clearMarks l G base h1 c1) ⟨by decide, by decide, by decide, by decide, Nat.le_of_ble_eq_true rfl⟩ ?_
  rintro _ h2 ⟨rfl, c2, ho2, e9, e10⟩
  have hko2 := hko1.kept e9 e10
  have loop : ∀ (d j : Nat) (hh : mx_H), st_k σ - j = d → j ≤ st_k σ → CI G A hh σ la ea (mkP σ (fun j => decide (∃ q, q ∈ kl σ r (st_k σ) ∧ sky σ (j + 1) = some q)) j) → OUT A σ h hh → ko_is G hh A (kl σ r (st_k σ)) → mx_V p l ev { frames := 6, cells := 0, slots := 0, locals := 130 } s mt args below meth cd G base 4 (MQ below (mx_Qc G base (fun v h' => (r = 0 → v = some (.int (-1)) ∧ h = h') ∧ (r ≠ 0 → v = some (.int (nI (lst (cnd σ r) (st_n σ)).length)) ∧ (∃ mk', CI G A h' (su_fd σ (lst (cnd σ r) (st_n σ))) la ea mk') ∧ OUT A σ h h'))) args s 0 0 (mx_A base)) hh 0 0 26 [some (.ref (aK A 0)), some (.int i), some (.ref (aB A r)), some (va_rf (pT A (nxt (st_k σ) j)))] [] := by
    intro d
    induction d using Nat.strongRecOn with
    | ind d ih =>
    intro j hh hd hj cc ho hko
    first | refine mx_aload_n C dX8_candidates_26 (pc' := 27) rfl rfl ?_ | refine mx_aload_nq C dX8_candidates_26 (pc' := 27) rfl rfl ?_
    by_cases e : j < st_k σ
    · rw [nxt_lt e, pT_s (show j + 1 ≠ 0 by omega)]
      have B := cc.2.2.2.2.2.2.2.2.1 (j + 1) (by omega) (by omega)
      obtain ⟨s1, s2, s3, s4, s5⟩ := cc.1.2.2.2.2.2.1.1 (j + 1) (by omega) (by omega)
      obtain ⟨t1, t2, t3⟩ := tp_in cc.1.2.2.2.2.1 _ _ rfl s2 s3
      have hsk : ∀ q, sky σ (j + 1) = some q → kvd q := fun q hq => fkey_ok s5 hq
      refine mx_ifnull C dX8_candidates_27 (tgt := 67) (by decide) (pc' := 30) rfl (fun h27 => ?_) (fun h27_a h27 => ?_)
      · cases h27
      first | refine mx_aload_n C dX8_candidates_30 (pc' := 31) rfl rfl ?_ | refine mx_aload_nq C dX8_candidates_30 (pc' := 31) rfl rfl ?_
      refine gX8_23 C dX8_candidates_31 (pc' := 34) rfl (cc.2.2.1) rfl ?_
      first | refine mx_aload_n C dX8_candidates_34 (pc' := 35) rfl rfl ?_ | refine mx_aload_nq C dX8_candidates_34 (pc' := 35) rfl rfl ?_
      refine gX8_16 C dX8_candidates_35 (pc' := 38) rfl (cc.2.2.1) rfl ?_
      first | refine mx_aload_n C dX8_candidates_38 (pc' := 39) rfl rfl ?_ | refine mx_aload_nq C dX8_candidates_38 (pc' := 39) rfl rfl ?_
      refine cX8_143 C dX8_candidates_39 (pc' := 42) rfl (cc.2.2.2.2.1.1) (c_X2_keyOf l G base hh hK cc.2.2.2.2.1 B s1 (cc.2.1.2.1 (j + 1) (by omega) (by omega) 4 (by decide))) ⟨by decide, by decide, by decide, by decide, Nat.le_of_ble_eq_true rfl⟩ ?_
      rintro _ h2 ⟨rfl, hw2, hf2⟩
      have c2 := cc.kr hw2 hf2
      have ho2 := ho.tr (OUT.kr (σ := σ) hf2)
      have hko2 : ko_is G h2 A (kl σ r (st_k σ)) := hko.kept (hf2.K hK (by decide) (by decide)) (hf2.K hK (by decide) (by decide))
      obtain ⟨hv, R, hko3, hR⟩ := id hko2
      have e0 : fkey (st_tg σ (j + 1)) (st_sg σ (j + 1)) (st_sz σ (j + 1)) = sky σ (j + 1) := rfl
      rw [e0]
      have hany := ko_any hv hR hsk
      have B2 := c2.2.2.2.2.2.2.2.2.1 (j + 1) (by omega) (by omega)
      refine cX8_147 C dX8_candidates_42 (pc' := 45) rfl (hko3.2.2.1) (c_X3_holds l G base h2 hko3) ⟨by decide, by decide, by decide, by decide, Nat.le_of_ble_eq_true rfl⟩ ?_
      rintro _ _ ⟨rfl, rfl⟩
      refine mx_B_eq C dX8_candidates_45 (tgt := 59) (by decide) (pc' := 48) rfl (fun h45 => ?_) (fun h45 => ?_)
      · skip
        first | refine mx_aload_n C dX8_candidates_59 (pc' := 60) rfl rfl ?_ | refine mx_aload_nq C dX8_candidates_59 (pc' := 60) rfl rfl ?_
        refine gX8_75 C dX8_candidates_60 (pc' := 63) rfl (B2.2.1) rfl ?_
        first | refine mx_astore_n C dX8_candidates_63 (pc' := 64) rfl (by first | exact mx_c1_0 | exact mx_c1_int rfl | exact mx_c1_ref rfl | exact mx_c1_none rfl | exact mx_c1_rf rfl | exact mx_c1_null rfl) (by decide) (lo' := [_, _, _, _]) rfl ?_ | refine mx_astore_nq C dX8_candidates_63 (pc' := 64) rfl (by first | exact mx_c1_0 | exact mx_c1_int rfl | exact mx_c1_ref rfl | exact mx_c1_none rfl | exact mx_c1_rf rfl | exact mx_c1_null rfl) (by decide) (lo' := [_, _, _, _]) rfl ?_
        refine mx_goto C dX8_candidates_64 (tgt := 26) (by decide) ?_
        have e2 : mkP σ (fun j => decide (∃ q, q ∈ kl σ r (st_k σ) ∧ sky σ (j + 1) = some q)) (j + 1) = mkP σ (fun j => decide (∃ q, q ∈ kl σ r (st_k σ) ∧ sky σ (j + 1) = some q)) j := by
          funext x
          rw [mkP_s, decide_eq_false (p := ∃ q, q ∈ kl σ r (st_k σ) ∧ sky σ (j + 1) = some q)]
          · simp
          · rintro ⟨q, q1, q2⟩
            rw [hany.mpr ⟨q, q2, q1⟩] at h45
            cases h45
        exact ih _ (by omega) (j + 1) _ rfl (by omega) (by rw [e2]; exact c2) ho2 hko2
      · obtain ⟨q, q1, q2⟩ := hany.mp h45
        have c3 := c2.mark t1 t2 true
        have e2 : (fun x => if x = tp σ (st_ow σ (j + 1)) then true else mkP σ (fun j => decide (∃ q, q ∈ kl σ r (st_k σ) ∧ sky σ (j + 1) = some q)) j x) = mkP σ (fun j => decide (∃ q, q ∈ kl σ r (st_k σ) ∧ sky σ (j + 1) = some q)) (j + 1) := by
          funext x
          rw [mkP_s, decide_eq_true (p := ∃ q, q ∈ kl σ r (st_k σ) ∧ sky σ (j + 1) = some q) ⟨q, q2, q1⟩]
          by_cases e3 : x = tp σ (st_ow σ (j + 1))
          · subst e3; simp
          · rw [if_neg e3, decide_eq_false (fun z => e3 z.symm)]; simp
        rw [e2] at c3
        have BB := c2.2.2.2.2.2.2.2.1 _ t1 t2
        have B3 := c3.2.2.2.2.2.2.2.2.1 (j + 1) (by omega) (by omega)
        first | refine mx_aload_n C dX8_candidates_48 (pc' := 49) rfl rfl ?_ | refine mx_aload_nq C dX8_candidates_48 (pc' := 49) rfl rfl ?_
        refine gX8_151 C dX8_candidates_49 (pc' := 52) rfl (B2.2.1) rfl ?_
        refine cX8_154 C dX8_candidates_52 (pc' := 55) rfl (c2.2.2.2.2.2.2.2.1 _ s2 s3) (c_X0_outermost l G base h2 c2.1.2.2.2.2.1 c2.2.2.2.2.2.2.2.1 s2 s3) ⟨by decide, by decide, by decide, by decide, Nat.le_of_ble_eq_true rfl⟩ ?_
        rintro _ _ ⟨rfl, rfl⟩
        refine mx_iconst C (v := nI 1) (by decide) dX8_candidates_55 (pc' := 56) rfl ?_
        first | refine pX8_158 C dX8_candidates_56 (pc' := 59) rfl (BB) (Nat.le_of_ble_eq_true rfl) (mx_b_nz _) (mx_b_fz _) (fs' := [_, _, _, _, _, _, _, _]) rfl ?_ | refine pX8_158 C dX8_candidates_56 (pc' := 59) rfl (BB) (Nat.le_of_ble_eq_true rfl) rfl rfl (fs' := [_, _, _, _, _, _, _, _]) rfl ?_
        first | refine mx_aload_n C dX8_candidates_59 (pc' := 60) rfl rfl ?_ | refine mx_aload_nq C dX8_candidates_59 (pc' := 60) rfl rfl ?_
        refine gX8_75 C dX8_candidates_60 (pc' := 63) rfl (B3.2.1) rfl ?_
        first | refine mx_astore_n C dX8_candidates_63 (pc' := 64) rfl (by first | exact mx_c1_0 | exact mx_c1_int rfl | exact mx_c1_ref rfl | exact mx_c1_none rfl | exact mx_c1_rf rfl | exact mx_c1_null rfl) (by decide) (lo' := [_, _, _, _]) rfl ?_ | refine mx_astore_nq C dX8_candidates_63 (pc' := 64) rfl (by first | exact mx_c1_0 | exact mx_c1_int rfl | exact mx_c1_ref rfl | exact mx_c1_none rfl | exact mx_c1_rf rfl | exact mx_c1_null rfl) (by decide) (lo' := [_, _, _, _]) rfl ?_
        refine mx_goto C dX8_candidates_64 (tgt := 26) (by decide) ?_
        refine ih _ (by omega) (j + 1) _ rfl (by omega) c3 (ho2.tr (OUT.mark t1 t2)) (hko2.kept ?_ ?_)
        · rw [va_up_ne _ _ (fun z => c2.bK t1 t2 (by decide) z.symm)]
        · rw [va_up_ne _ _ (fun z => c2.bK t1 t2 (by decide) z.symm)]
    · rw [nxt_ge e, pT_0]
      have e2 : j = st_k σ := by omega
      subst e2
      have B := cc.2.2.2.2.2.2.2.1 r (by omega) hle
      have c3 := cc.mark (show 1 ≤ r by omega) hle false
      have e2 : lst (fun i => (fun q => if q = r then false else mkP σ (fun j => decide (∃ q, q ∈ kl σ r (st_k σ) ∧ sky σ (j + 1) = some q)) (st_k σ) q) (i + 1)) (st_n σ) = lst (cnd σ r) (st_n σ) := lst_congr (fun x hx => by
        unfold cnd
        by_cases e3 : x + 1 = r
        · simp [e3]
        · simp [e3])
      refine mx_ifnull C dX8_candidates_27 (tgt := 67) (by decide) (pc' := 30) rfl (fun h27 => ?_) (fun h27_a h27 => ?_)
      · skip
        first | refine mx_aload_n C dX8_candidates_67 (pc' := 68) rfl rfl ?_ | refine mx_aload_nq C dX8_candidates_67 (pc' := 68) rfl rfl ?_
        refine mx_iconst C (v := nI 0) (by decide) dX8_candidates_68 (pc' := 69) rfl ?_
        first | refine pX8_158 C dX8_candidates_69 (pc' := 72) rfl (B) (Nat.le_of_ble_eq_true rfl) (mx_b_nz _) (mx_b_fz _) (fs' := [_, _, _, _, _, _, _, _]) rfl ?_ | refine pX8_158 C dX8_candidates_69 (pc' := 72) rfl (B) (Nat.le_of_ble_eq_true rfl) rfl rfl (fs' := [_, _, _, _, _, _, _, _]) rfl ?_
        first | refine mx_aload_n C dX8_candidates_72 (pc' := 73) rfl rfl ?_ | refine mx_aload_nq C dX8_candidates_72 (pc' := 73) rfl rfl ?_
        refine cX8_162 C dX8_candidates_73 (pc' := 76) rfl (c3.2.2.1) (c_X8_listMarked l G base _ c3) ⟨by decide, by decide, by decide, by decide, Nat.le_of_ble_eq_true rfl⟩ ?_
        rintro _ h5 ⟨rfl, c5, ho5⟩
        rw [e2] at c5
        first | refine mx_aload_n C dX8_candidates_76 (pc' := 77) rfl rfl ?_ | refine mx_aload_nq C dX8_candidates_76 (pc' := 77) rfl rfl ?_
        refine gX8_165 C dX8_candidates_77 (pc' := 80) rfl (c5.2.2.1) rfl ?_
        exact mx_iret C hr dX8_candidates_80 (by omega) (by omega) (⟨fun z => absurd z (by omega), fun _ => ⟨rfl, ⟨_, c5⟩, (ho.tr (OUT.mark (by omega) hle)).tr ho5⟩⟩)
      · cases h27
  first | refine mx_aload_n C dX8_candidates_21 (pc' := 22) rfl rfl ?_ | refine mx_aload_nq C dX8_candidates_21 (pc' := 22) rfl rfl ?_
  refine gX8_72 C dX8_candidates_22 (pc' := 25) rfl (c2.2.2.1) rfl ?_
  first | refine mx_astore_n C dX8_candidates_25 (pc' := 26) rfl (by first | exact mx_c1_0 | exact mx_c1_int rfl | exact mx_c1_ref rfl | exact mx_c1_none rfl | exact mx_c1_rf rfl | exact mx_c1_null rfl) (by decide) (lo' := [_, _, _, _]) rfl ?_ | refine mx_astore_nq C dX8_candidates_25 (pc' := 26) rfl (by first | exact mx_c1_0 | exact mx_c1_int rfl | exact mx_c1_ref rfl | exact mx_c1_none rfl | exact mx_c1_rf rfl | exact mx_c1_null rfl) (by decide) (lo' := [_, _, _, _]) rfl ?_
  exact loop _ 0 h2 rfl (by omega) c2 (ho1.tr ho2) hko2
end P1
