/-! the keys of a record, in order; who has a key -/
def kvd (q : Bool × Nat) : Prop := (q.1 = false → 1 ≤ q.2 ∧ q.2 < 2 ^ 28) ∧ (q.1 = true → q.2 ≤ 98000000000000010)
theorem iw_pos : ∀ c, c < 256 → wd c = true → 48 ≤ iw c := by decide +kernel
theorem fkey_ok {g n : Nat} {t : Nat → Nat} (ht : ∀ j, j < n → t j < 256) {q : Bool × Nat} (h : fkey g t n = some q) : kvd q := by
  unfold fkey at h
  split at h
  · cases h1 : fiB (w4 t n) (wcn t n) with
    | none => rw [h1] at h; cases h
    | some k =>
      rw [h1] at h
      cases h
      obtain ⟨a, b, -⟩ := fiB_some h1
      obtain ⟨i1, i2, i3, -⟩ := w_in t n k a
      have b4 : 4 ≤ wln t n k := of_decide_eq_true b
      have p1 := pv_lt t (wst t n k) 4 (fun j hj => ht _ (by omega))
      refine ⟨fun _ => ⟨?_, by simpa using p1⟩, fun z => by cases z⟩
      have p2 := iw_pos _ (ht (wst t n k + 3) (by omega)) (i3 3 (by omega))
      show 1 ≤ pv t (wst t n k) 3 * 128 + iw (t (wst t n k + 3))
      omega
  · split at h
    · cases h1 : bform t n with
      | none => rw [h1] at h; cases h
      | some f =>
        rw [h1] at h
        cases h
        exact ⟨fun z => (by cases z), fun _ => bform_le h1⟩
    · cases h
theorem encC_toInt {q : Bool × Nat} (h : kvd q) : (encC (some q)).toInt = if q.1 then (q.2 : Int) + 1 else -(q.2 : Int) := by
  obtain ⟨b, v⟩ := q
  cases b with
  | true =>
    have := h.2 rfl
    show (lN (v + 1)).toInt = _
    rw [pk_lT (by simp at this; omega)]
    simp
  | false =>
    have := (h.1 rfl).2
    show ((-(nI v)).toInt64).toInt = _
    rw [Int32.toInt_toInt64, sb_negT (by simp at this; omega)]
    simp
theorem encC_inj {q q' : Bool × Nat} (h : kvd q) (h' : kvd q') : encC (some q) = encC (some q') ↔ q = q' := by
  constructor
  · intro e
    have e1 := congrArg Int64.toInt e
    rw [encC_toInt h, encC_toInt h'] at e1
    obtain ⟨b, v⟩ := q
    obtain ⟨b', v'⟩ := q'
    have k1 := h.1
    have k2 := h'.1
    cases b <;> cases b' <;> simp at e1 k1 k2
    · have : v = v' := by omega
      rw [this]
    · omega
    · omega
    · have : v = v' := by omega
      rw [this]
  · intro e; rw [e]
theorem encC_ne0 {q : Bool × Nat} (h : kvd q) : encC (some q) ≠ lN 0 := by
  intro e
  have e1 := congrArg Int64.toInt e
  rw [encC_toInt h] at e1
  have e2 : (lN 0).toInt = 0 := by decide
  rw [e2] at e1
  obtain ⟨b, v⟩ := q
  have k1 := h.1
  cases b <;> simp at e1 k1 <;> omega
def sky (σ : mxS) (f : Nat) : Option (Bool × Nat) := fkey (st_tg σ f) (st_sg σ f) (st_sz σ f)
def kl (σ : mxS) (r : Nat) : Nat → List (Bool × Nat)
  | 0 => []
  | i + 1 => if tp σ (st_ow σ (i + 1)) = r then (match sky σ (i + 1) with
      | some q => if q ∈ kl σ r i then kl σ r i else kl σ r i ++ [q]
      | none => kl σ r i) else kl σ r i
theorem kl_len (σ : mxS) (r i : Nat) : (kl σ r i).length ≤ i := by
  induction i with
  | zero => simp [kl]
  | succ i ih =>
    simp only [kl]
    split
    · split
      · split
        · omega
        · rw [List.length_append]; simp; omega
      · omega
    · omega
theorem kl_ok {σ : mxS} (h : si σ) {r i : Nat} (hi : i ≤ st_k σ) : ∀ q ∈ kl σ r i, kvd q := by
  induction i with
  | zero => intro q hq; simp [kl] at hq
  | succ i ih =>
    intro q hq
    have ih := ih (by omega)
    simp only [kl] at hq
    split at hq
    · split at hq
      · rename_i q' hq'
        have hv : kvd q' := fkey_ok (h.2.2.2.2.2.1.1 (i + 1) (by omega) hi).2.2.2.2 hq'
        split at hq
        · exact ih q hq
        · rcases List.mem_append.mp hq with z | z
          · exact ih q z
          · rw [List.mem_singleton.mp z]; exact hv
      · exact ih q hq
    · exact ih q hq
theorem kl_mem {σ : mxS} {r i : Nat} {q : Bool × Nat} : q ∈ kl σ r i ↔ ∃ j, j < i ∧ tp σ (st_ow σ (j + 1)) = r ∧ sky σ (j + 1) = some q := by
  induction i with
  | zero => simp [kl]
  | succ i ih =>
    have step : q ∈ kl σ r (i + 1) ↔ q ∈ kl σ r i ∨ (tp σ (st_ow σ (i + 1)) = r ∧ sky σ (i + 1) = some q) := by
      simp only [kl]
      split
      · rename_i h1
        split
        · rename_i q' hq'
          split
          · rename_i h2
            constructor
            · exact Or.inl
            · rintro (z | ⟨-, z⟩)
              · exact z
              · rw [hq'] at z; cases z; exact h2
          · rw [List.mem_append, List.mem_singleton]
            constructor
            · rintro (z | z)
              · exact Or.inl z
              · exact Or.inr ⟨h1, by rw [hq', z]⟩
            · rintro (z | ⟨-, z⟩)
              · exact Or.inl z
              · rw [hq'] at z; cases z; exact Or.inr rfl
        · rename_i hq'
          constructor
          · exact Or.inl
          · rintro (z | ⟨-, z⟩)
            · exact z
            · rw [hq'] at z; cases z
      · rename_i h1
        constructor
        · exact Or.inl
        · rintro (z | ⟨z, -⟩)
          · exact z
          · exact absurd z h1
    rw [step, ih]
    constructor
    · rintro (⟨j, a, b⟩ | ⟨a, b⟩)
      · exact ⟨j, by omega, b⟩
      · exact ⟨i, by omega, a, b⟩
    · rintro ⟨j, a, b⟩
      by_cases e : j = i
      · subst e; exact Or.inr b
      · exact Or.inl ⟨j, by omega, b⟩
/-- the KeyRow holds these keys -/
def ko_is (G : mx_G) (h : mx_H) (A : mxA) (L : List (Bool × Nat)) : Prop := (∀ q ∈ L, kvd q) ∧ ∃ R, ko_at G h (aK A 9) (aK A 10) R L.length ∧ ∀ j, j < L.length → R j = encC L[j]?
theorem ko_any {L : List (Bool × Nat)} {R : Nat → Int64} (hv : ∀ q ∈ L, kvd q) (hR : ∀ j, j < L.length → R j = encC L[j]?) {o : Option (Bool × Nat)} (ho : ∀ q, o = some q → kvd q) : anyB (fun i => decide (R i = encC o)) L.length = true ↔ ∃ q, o = some q ∧ q ∈ L := by
  rw [anyB_iff]
  constructor
  · rintro ⟨i, h1, h2⟩
    have h2 := of_decide_eq_true h2
    rw [hR i h1, List.getElem?_eq_getElem h1] at h2
    have hm : L[i] ∈ L := List.getElem_mem h1
    cases o with
    | none => exact absurd h2 (encC_ne0 (hv _ hm))
    | some q => exact ⟨q, rfl, by rw [← (encC_inj (hv _ hm) (ho q rfl)).mp h2]; exact hm⟩
  · rintro ⟨q, rfl, hq⟩
    obtain ⟨i, h1, h2⟩ := List.getElem_of_mem hq
    exact ⟨i, h1, decide_eq_true (by rw [hR i h1, List.getElem?_eq_getElem h1, h2])⟩
theorem ko_is.kept {G : mx_G} {h h' : mx_H} {A : mxA} {L : List (Bool × Nat)} (k : ko_is G h A L) (e1 : h' (aK A 9) = h (aK A 9)) (e2 : h' (aK A 10) = h (aK A 10)) : ko_is G h' A L := by
  obtain ⟨a, R, ⟨b1, b2, b3, b4⟩, c⟩ := k
  exact ⟨a, R, ⟨b1, b2, e1.trans b3, e2.trans b4⟩, c⟩
theorem kr_fr.K {K : Nat → Nat} {h h' : mx_H} (hf : kr_fr K h h') (hK : inj K 23) {i : Nat} (hi : i < 23) (h2 : i < 3 ∨ 8 < i) : h' (K i) = h (K i) :=
  hf _ (hK.ne hi (by decide) (by omega)) (hK.ne hi (by decide) (by omega)) (hK.ne hi (by decide) (by omega)) (hK.ne hi (by decide) (by omega)) (hK.ne hi (by decide) (by omega)) (hK.ne hi (by decide) (by omega))
/-- marks: only books' marks have changed -/
theorem CI.mark {G : mx_G} {A : mxA} {h : mx_H} {σ : mxS} {la ea : Nat → Nat} {mk : Nat → Bool} (c : CI G A h σ la ea mk) {r : Nat} (h1 : 1 ≤ r) (h2 : r ≤ st_n σ) (b : Bool) :
    CI G A (va_up h (aB A r) (some (.inr (0, [.int (nI r), .int (st_rk σ r), .int (mx_b (st_lk σ r)), .int (mx_b b), va_rf (pB A (nxt (st_n σ) r)), va_rf (pB A (st_in σ r)), va_rf (pB A (la r)), va_rf (pB A (ea r))])))) σ la ea (fun q => if q = r then b else mk q) := by
  obtain ⟨c1, c2, c3, ⟨F, c4, c4b⟩, c5, ⟨R, n, k1, k2, k3, k4⟩, c7, c8, c9, c10⟩ := id c
  have eK : ∀ i, i < 23 → ∀ e, va_up h (aB A r) e (aK A i) = h (aK A i) := fun i hi e => va_up_ne _ _ (fun z => c.bK h1 h2 hi z.symm)
  refine ⟨c1, c2, (eK 0 (by decide) _).trans c3, ⟨F, (eK 1 (by decide) _).trans c4, c4b⟩, c5.kept (fun i _ _ => eK i (by omega) _), ⟨R, n, k1, k2, (eK 9 (by decide) _).trans k3, (eK 10 (by decide) _).trans k4⟩, c7.kept (fun i _ _ => eK i (by omega) _), fun q q1 q2 => ?_, fun f f1 f2 => ?_, c10⟩
  · by_cases e : q = r
    · subst e; rw [va_up_self]; simp
    · rw [va_up_ne _ _ (fun z => e (aB_inj c1.1 c8 q1 q2 h1 h2 z))]
      simp only [if_neg e]
      exact c8 q q1 q2
  · exact (c9 f f1 f2).kept (va_up_ne _ _ (fun z => (c.bT h1 h2 f1 f2).1 z.symm)) (va_up_ne _ _ (fun z => (c.bT h1 h2 f1 f2).2 z.symm))
theorem OUT.mark {A : mxA} {σ : mxS} {h : mx_H} {r : Nat} (h1 : 1 ≤ r) (h2 : r ≤ st_n σ) {e : Option va_E} : OUT A σ h (va_up h (aB A r) e) := fun a _ x2 _ => va_up_ne _ _ (x2 r h1 h2)
section KL
variable (l : Launch) (G : mx_G) (base : Nat)
set_option maxRecDepth 20000
theorem c_X8_collectKeys (h : mx_H) {A : mxA} {σ : mxS} {la ea : Nat → Nat} {mk : Nat → Bool} (c : CI G A h σ la ea mk) {r : Nat} (h1 : 1 ≤ r) (h2 : r ≤ st_n σ) :
    mx_M l G base yX8_collectKeys cX8_collectKeys 3 none 5 108 0 0 [.ref (aK A 0), .ref (aB A r)] h (fun v h' => v = none ∧ CI G A h' σ la ea mk ∧ OUT A σ h h' ∧ ko_is G h' A (kl σ r (st_k σ))) := by
  have hk := c.1.2.1
  have hK := c.2.1.1
  refine mx_enter (lo := [some (.ref (aK A 0)), some (.ref (aB A r)), none]) (by decide) (mx_in wd_code_yX8_collectKeys rfl) (Nat.le_of_ble_eq_true rfl) rfl ?_
  intro p ev s mt args below meth cd C hr hnm
  have C : mx_C p s mt args meth cd cX8_collectKeys 3 RX8 G base := C
  have loop : ∀ (d j : Nat) (hh : mx_H), st_k σ - j = d → j ≤ st_k σ → CI G A hh σ la ea mk → OUT A σ h hh → ko_is G hh A (kl σ r j) → mx_V p l ev { frames := 5, cells := 0, slots := 0, locals := 108 } s mt args below meth cd G base 3 (MQ below (mx_Qc G base (fun v h' => v = none ∧ CI G A h' σ la ea mk ∧ OUT A σ h h' ∧ ko_is G h' A (kl σ r (st_k σ)))) args s 0 0 (mx_A base)) hh 0 0 12 [some (.ref (aK A 0)), some (.ref (aB A r)), some (va_rf (pT A (nxt (st_k σ) j)))] [] := by
    intro d
    induction d using Nat.strongRecOn with
    | ind d ih =>
    intro j hh hd hj cc ho hko
    first | refine mx_aload_n C dX8_collectKeys_12 (pc' := 13) rfl rfl ?_ | refine mx_aload_nq C dX8_collectKeys_12 (pc' := 13) rfl rfl ?_
    by_cases e : j < st_k σ
    · rw [nxt_lt e, pT_s (show j + 1 ≠ 0 by omega)]
      have B := cc.2.2.2.2.2.2.2.2.1 (j + 1) (by omega) (by omega)
      obtain ⟨s1, s2, s3, s4, s5⟩ := cc.1.2.2.2.2.2.1.1 (j + 1) (by omega) (by omega)
      refine mx_ifnull C dX8_collectKeys_13 (tgt := 47) (by decide) (pc' := 16) rfl (fun h13 => ?_) (fun h13_a h13 => ?_)
      · cases h13
      first | refine mx_aload_n C dX8_collectKeys_16 (pc' := 17) rfl rfl ?_ | refine mx_aload_nq C dX8_collectKeys_16 (pc' := 17) rfl rfl ?_
      first | refine mx_aload_n C dX8_collectKeys_17 (pc' := 18) rfl rfl ?_ | refine mx_aload_nq C dX8_collectKeys_17 (pc' := 18) rfl rfl ?_
      refine cX8_89 C dX8_collectKeys_18 (pc' := 21) rfl (B.2.1) (c_X6_isOf l G base hh cc.1.1 cc.1.2.2.2.2.1 cc.2.2.2.2.2.2.2.1 B s2 s3 h1 h2) ⟨by decide, by decide, by decide, by decide, Nat.le_of_ble_eq_true rfl⟩ ?_
      rintro _ _ ⟨rfl, rfl⟩
      refine mx_B_eq C dX8_collectKeys_21 (tgt := 39) (by decide) (pc' := 24) rfl (fun h21 => ?_) (fun h21 => ?_)
      · skip
        first | refine mx_aload_n C dX8_collectKeys_39 (pc' := 40) rfl rfl ?_ | refine mx_aload_nq C dX8_collectKeys_39 (pc' := 40) rfl rfl ?_
        refine gX8_75 C dX8_collectKeys_40 (pc' := 43) rfl (B.2.1) rfl ?_
        first | refine mx_astore_n C dX8_collectKeys_43 (pc' := 44) rfl (by first | exact mx_c1_0 | exact mx_c1_int rfl | exact mx_c1_ref rfl | exact mx_c1_none rfl | exact mx_c1_rf rfl | exact mx_c1_null rfl) (by decide) (lo' := [_, _, _]) rfl ?_ | refine mx_astore_nq C dX8_collectKeys_43 (pc' := 44) rfl (by first | exact mx_c1_0 | exact mx_c1_int rfl | exact mx_c1_ref rfl | exact mx_c1_none rfl | exact mx_c1_rf rfl | exact mx_c1_null rfl) (by decide) (lo' := [_, _, _]) rfl ?_
        refine mx_goto C dX8_collectKeys_44 (tgt := 12) (by decide) ?_
        refine ih _ (by omega) (j + 1) hh rfl (by omega) cc ho ?_
        have e2 : kl σ r (j + 1) = kl σ r j := by simp only [kl]; rw [if_neg (of_decide_eq_false h21)]
        rw [e2]; exact hko
      obtain ⟨hv, R, ⟨k1, k2, k3, k4⟩, hR⟩ := id hko
      first | refine mx_aload_n C dX8_collectKeys_24 (pc' := 25) rfl rfl ?_ | refine mx_aload_nq C dX8_collectKeys_24 (pc' := 25) rfl rfl ?_
      refine gX8_23 C dX8_collectKeys_25 (pc' := 28) rfl (cc.2.2.1) rfl ?_
      first | refine mx_aload_n C dX8_collectKeys_28 (pc' := 29) rfl rfl ?_ | refine mx_aload_nq C dX8_collectKeys_28 (pc' := 29) rfl rfl ?_
      refine gX8_16 C dX8_collectKeys_29 (pc' := 32) rfl (cc.2.2.1) rfl ?_
      first | refine mx_aload_n C dX8_collectKeys_32 (pc' := 33) rfl rfl ?_ | refine mx_aload_nq C dX8_collectKeys_32 (pc' := 33) rfl rfl ?_
      refine cX8_143 C dX8_collectKeys_33 (pc' := 36) rfl (cc.2.2.2.2.1.1) (c_X2_keyOf l G base hh hK cc.2.2.2.2.1 B s1 (cc.2.1.2.1 (j + 1) (by omega) (by omega) 4 (by decide))) ⟨by decide, by decide, by decide, by decide, Nat.le_of_ble_eq_true rfl⟩ ?_
      rintro _ h2 ⟨rfl, hw2, hf2⟩
      have c2 := cc.kr hw2 hf2
      have hko2 : ko_is G h2 A (kl σ r j) := hko.kept (hf2.K hK (by decide) (by decide)) (hf2.K hK (by decide) (by decide))
      obtain ⟨hv, R, hko3, hR⟩ := id hko2
      have hln := kl_len σ r j
      have ho2 := ho.tr (OUT.kr (σ := σ) hf2)
      have B2 := c2.2.2.2.2.2.2.2.2.1 (j + 1) (by omega) (by omega)
      have hsk : ∀ q, sky σ (j + 1) = some q → kvd q := fun q hq => fkey_ok s5 hq
      have hany := ko_any hv hR hsk
      have e0 : fkey (st_tg σ (j + 1)) (st_sg σ (j + 1)) (st_sz σ (j + 1)) = sky σ (j + 1) := rfl
      rw [e0]
      refine cX8_207 C dX8_collectKeys_36 (pc' := 39) rfl (hko3.2.2.1) (c_X3_add l G base h2 hko3 (show (kl σ r j).length < 200 by omega)) ⟨by decide, by decide, by decide, by decide, Nat.le_of_ble_eq_true rfl⟩ ?_
      rintro _ h3 ⟨rfl, hh3⟩
      have hcase : (h3 = h2 ∧ kl σ r (j + 1) = kl σ r j) ∨ ∃ q, sky σ (j + 1) = some q ∧ kl σ r (j + 1) = kl σ r j ++ [q] ∧ h3 = ko_up G h2 (aK A 9) (aK A 10) (vp_updL R (kl σ r j).length (encC (some q))) ((kl σ r j).length + 1) := by
        have e3 : kl σ r (j + 1) = (match sky σ (j + 1) with
          | some q => if q ∈ kl σ r j then kl σ r j else kl σ r j ++ [q]
          | none => kl σ r j) := by simp only [kl]; rw [if_pos (of_decide_eq_true h21)]
        cases hs : sky σ (j + 1) with
        | none =>
          left
          rw [hs] at hh3 e3
          exact ⟨by rw [hh3, if_pos (Or.inl (show encC none = lN 0 from rfl))], e3⟩
        | some q =>
          rw [hs] at hh3 e3 hany
          by_cases hm : q ∈ kl σ r j
          · left
            refine ⟨?_, by rw [e3]; exact if_pos hm⟩
            rw [hh3, if_pos (Or.inr (hany.mpr ⟨q, rfl, hm⟩))]
          · right
            refine ⟨q, rfl, by rw [e3]; exact if_neg hm, ?_⟩
            rw [hh3, if_neg]
            rintro (z | z)
            · exact encC_ne0 (hsk q hs) z
            · obtain ⟨q', z1, z2⟩ := hany.mp z
              cases z1
              exact hm z2
      rcases hcase with ⟨rfl, e3⟩ | ⟨q, hq, e3, rfl⟩
      · skip
        first | refine mx_aload_n C dX8_collectKeys_39 (pc' := 40) rfl rfl ?_ | refine mx_aload_nq C dX8_collectKeys_39 (pc' := 40) rfl rfl ?_
        refine gX8_75 C dX8_collectKeys_40 (pc' := 43) rfl (B2.2.1) rfl ?_
        first | refine mx_astore_n C dX8_collectKeys_43 (pc' := 44) rfl (by first | exact mx_c1_0 | exact mx_c1_int rfl | exact mx_c1_ref rfl | exact mx_c1_none rfl | exact mx_c1_rf rfl | exact mx_c1_null rfl) (by decide) (lo' := [_, _, _]) rfl ?_ | refine mx_astore_nq C dX8_collectKeys_43 (pc' := 44) rfl (by first | exact mx_c1_0 | exact mx_c1_int rfl | exact mx_c1_ref rfl | exact mx_c1_none rfl | exact mx_c1_rf rfl | exact mx_c1_null rfl) (by decide) (lo' := [_, _, _]) rfl ?_
        refine mx_goto C dX8_collectKeys_44 (tgt := 12) (by decide) ?_
        exact ih _ (by omega) (j + 1) h3 rfl (by omega) c2 ho2 (by rw [e3]; exact hko2)
      · have hD : aK A 9 ≠ aK A 10 := hko3.1
        have eK : ∀ a, a ≠ aK A 9 → a ≠ aK A 10 → ko_up G h2 (aK A 9) (aK A 10) (vp_updL R (kl σ r j).length (encC (some q))) ((kl σ r j).length + 1) a = h2 a := fun a a1 a2 => ko_up_ne a1 a2
        have hat := ko_at_up (G := G) (h := h2) (A := vp_updL R (kl σ r j).length (encC (some q))) (c := (kl σ r j).length + 1) hD (by omega)
        have c3 := c2.scr (h' := ko_up G h2 (aK A 9) (aK A 10) (vp_updL R (kl σ r j).length (encC (some q))) ((kl σ r j).length + 1)) (fun a ha => eK a (ha 9 (by decide) (by decide)) (ha 10 (by decide) (by decide))) (hw2.kept (fun i i1 i2 => eK _ (hK.ne (by omega) (by decide) (by omega)) (hK.ne (by omega) (by decide) (by omega)))) ⟨_, _, hat⟩
        have B3 := c3.2.2.2.2.2.2.2.2.1 (j + 1) (by omega) (by omega)
        first | refine mx_aload_n C dX8_collectKeys_39 (pc' := 40) rfl rfl ?_ | refine mx_aload_nq C dX8_collectKeys_39 (pc' := 40) rfl rfl ?_
        refine gX8_75 C dX8_collectKeys_40 (pc' := 43) rfl (B3.2.1) rfl ?_
        first | refine mx_astore_n C dX8_collectKeys_43 (pc' := 44) rfl (by first | exact mx_c1_0 | exact mx_c1_int rfl | exact mx_c1_ref rfl | exact mx_c1_none rfl | exact mx_c1_rf rfl | exact mx_c1_null rfl) (by decide) (lo' := [_, _, _]) rfl ?_ | refine mx_astore_nq C dX8_collectKeys_43 (pc' := 44) rfl (by first | exact mx_c1_0 | exact mx_c1_int rfl | exact mx_c1_ref rfl | exact mx_c1_none rfl | exact mx_c1_rf rfl | exact mx_c1_null rfl) (by decide) (lo' := [_, _, _]) rfl ?_
        refine mx_goto C dX8_collectKeys_44 (tgt := 12) (by decide) ?_
        refine ih _ (by omega) (j + 1) _ rfl (by omega) c3 (ho2.tr (fun a a1 _ _ => eK a (a1 9 (by decide)) (a1 10 (by decide)))) ?_
        rw [e3]
        refine ⟨fun q' hq' => ?_, _, by rw [List.length_append]; exact hat, fun i hi => ?_⟩
        · rcases List.mem_append.mp hq' with z | z
          · exact hv q' z
          · rw [List.mem_singleton.mp z]; exact hsk q hq
        · rw [List.length_append] at hi
          simp at hi
          by_cases e4 : i = (kl σ r j).length
          · subst e4
            rw [pk_uLs, List.getElem?_append_right (Nat.le_refl _), Nat.sub_self]
            rfl
          · rw [pk_uLn e4, hR i (by omega), List.getElem?_append_left (by omega)]
    · rw [nxt_ge e, pT_0]
      have e2 : j = st_k σ := by omega
      rw [e2] at hko
      refine mx_ifnull C dX8_collectKeys_13 (tgt := 47) (by decide) (pc' := 16) rfl (fun h13 => ?_) (fun h13_a h13 => ?_)
      · skip
        exact mx_vret C hr dX8_collectKeys_47 (by omega) (by omega) (⟨rfl, cc, ho, hko⟩)
      · cases h13
  obtain ⟨R0, n0, hk0⟩ := c.2.2.2.2.2.1
  first | refine mx_aload_n C dX8_collectKeys_0 (pc' := 1) rfl rfl ?_ | refine mx_aload_nq C dX8_collectKeys_0 (pc' := 1) rfl rfl ?_
  refine gX8_23 C dX8_collectKeys_1 (pc' := 4) rfl (c.2.2.1) rfl ?_
  refine cX8_206 C dX8_collectKeys_4 (pc' := 7) rfl (hk0.2.2.1) (c_X3_clear l G base h hk0) ⟨by decide, by decide, by decide, by decide, Nat.le_of_ble_eq_true rfl⟩ ?_
  rintro _ _ ⟨rfl, rfl⟩
  have hD : aK A 9 ≠ aK A 10 := hk0.1
  have eK : ∀ a, a ≠ aK A 9 → a ≠ aK A 10 → ko_up G h (aK A 9) (aK A 10) R0 0 a = h a := fun a a1 a2 => ko_up_ne a1 a2
  have hat := ko_at_up (G := G) (h := h) (A := R0) (c := 0) hD (by omega)
  have c3 := c.scr (h' := ko_up G h (aK A 9) (aK A 10) R0 0) (fun a ha => eK a (ha 9 (by decide) (by decide)) (ha 10 (by decide) (by decide))) (c.2.2.2.2.1.kept (fun i i1 i2 => eK _ (hK.ne (by omega) (by decide) (by omega)) (hK.ne (by omega) (by decide) (by omega)))) ⟨_, _, hat⟩
  first | refine mx_aload_n C dX8_collectKeys_7 (pc' := 8) rfl rfl ?_ | refine mx_aload_nq C dX8_collectKeys_7 (pc' := 8) rfl rfl ?_
  refine gX8_72 C dX8_collectKeys_8 (pc' := 11) rfl (c3.2.2.1) rfl ?_
  first | refine mx_astore_n C dX8_collectKeys_11 (pc' := 12) rfl (by first | exact mx_c1_0 | exact mx_c1_int rfl | exact mx_c1_ref rfl | exact mx_c1_none rfl | exact mx_c1_rf rfl | exact mx_c1_null rfl) (by decide) (lo' := [_, _, _]) rfl ?_ | refine mx_astore_nq C dX8_collectKeys_11 (pc' := 12) rfl (by first | exact mx_c1_0 | exact mx_c1_int rfl | exact mx_c1_ref rfl | exact mx_c1_none rfl | exact mx_c1_rf rfl | exact mx_c1_null rfl) (by decide) (lo' := [_, _, _]) rfl ?_
  exact loop _ 0 _ rfl (by omega) c3 (fun a a1 _ _ => eK a (a1 9 (by decide)) (a1 10 (by decide))) ⟨fun q hq => by simp [kl] at hq, R0, hat, fun j hj => by simp [kl] at hj⟩
theorem c_X8_clearMarks (h : mx_H) {A : mxA} {σ : mxS} {la ea : Nat → Nat} {mk : Nat → Bool} (c : CI G A h σ la ea mk) :
    mx_M l G base yX8_clearMarks cX8_clearMarks 2 none 0 0 0 0 [.ref (aK A 0)] h (fun v h' => v = none ∧ CI G A h' σ la ea (fun _ => false) ∧ OUT A σ h h' ∧ h' (aK A 9) = h (aK A 9) ∧ h' (aK A 10) = h (aK A 10)) := by
  have hn := c.1.1
  refine mx_enter (lo := [some (.ref (aK A 0)), none]) (by decide) (mx_in wd_code_yX8_clearMarks rfl) (Nat.le_of_ble_eq_true rfl) rfl ?_
  intro p ev s mt args below meth cd C hr hnm
  have C : mx_C p s mt args meth cd cX8_clearMarks 2 RX8 G base := C
  have loop : ∀ (d j : Nat) (hh : mx_H) (m1 : Nat → Bool), st_n σ - j = d → j ≤ st_n σ → CI G A hh σ la ea m1 → (∀ q, q ≤ j → 1 ≤ q → m1 q = false) → OUT A σ h hh → hh (aK A 9) = h (aK A 9) → hh (aK A 10) = h (aK A 10) → mx_V p l ev { frames := 0, cells := 0, slots := 0, locals := 0 } s mt args below meth cd G base 2 (MQ below (mx_Qc G base (fun v h' => v = none ∧ CI G A h' σ la ea (fun _ => false) ∧ OUT A σ h h' ∧ h' (aK A 9) = h (aK A 9) ∧ h' (aK A 10) = h (aK A 10))) args s 0 0 (mx_A base)) hh 0 0 5 [some (.ref (aK A 0)), some (va_rf (pB A (nxt (st_n σ) j)))] [] := by
    intro d
    induction d using Nat.strongRecOn with
    | ind d ih =>
    intro j hh m1 hd hj cc hm ho e9 e10
    first | refine mx_aload_n C dX8_clearMarks_5 (pc' := 6) rfl rfl ?_ | refine mx_aload_nq C dX8_clearMarks_5 (pc' := 6) rfl rfl ?_
    by_cases e : j < st_n σ
    · rw [nxt_lt e, pB_s (show j + 1 ≠ 0 by omega)]
      have B := cc.2.2.2.2.2.2.2.1 (j + 1) (by omega) (by omega)
      have c2 := cc.mark (show 1 ≤ j + 1 by omega) (show j + 1 ≤ st_n σ by omega) false
      have B2 := c2.2.2.2.2.2.2.2.1 (j + 1) (by omega) (by omega)
      refine mx_ifnull C dX8_clearMarks_6 (tgt := 22) (by decide) (pc' := 9) rfl (fun h6 => ?_) (fun h6_a h6 => ?_)
      · cases h6
      first | refine mx_aload_n C dX8_clearMarks_9 (pc' := 10) rfl rfl ?_ | refine mx_aload_nq C dX8_clearMarks_9 (pc' := 10) rfl rfl ?_
      refine mx_iconst C (v := nI 0) (by decide) dX8_clearMarks_10 (pc' := 11) rfl ?_
      first | refine pX8_158 C dX8_clearMarks_11 (pc' := 14) rfl (B) (Nat.le_of_ble_eq_true rfl) (mx_b_nz _) (mx_b_fz _) (fs' := [_, _, _, _, _, _, _, _]) rfl ?_ | refine pX8_158 C dX8_clearMarks_11 (pc' := 14) rfl (B) (Nat.le_of_ble_eq_true rfl) rfl rfl (fs' := [_, _, _, _, _, _, _, _]) rfl ?_
      first | refine mx_aload_n C dX8_clearMarks_14 (pc' := 15) rfl rfl ?_ | refine mx_aload_nq C dX8_clearMarks_14 (pc' := 15) rfl rfl ?_
      refine gX8_50 C dX8_clearMarks_15 (pc' := 18) rfl (B2) rfl ?_
      first | refine mx_astore_n C dX8_clearMarks_18 (pc' := 19) rfl (by first | exact mx_c1_0 | exact mx_c1_int rfl | exact mx_c1_ref rfl | exact mx_c1_none rfl | exact mx_c1_rf rfl | exact mx_c1_null rfl) (by decide) (lo' := [_, _]) rfl ?_ | refine mx_astore_nq C dX8_clearMarks_18 (pc' := 19) rfl (by first | exact mx_c1_0 | exact mx_c1_int rfl | exact mx_c1_ref rfl | exact mx_c1_none rfl | exact mx_c1_rf rfl | exact mx_c1_null rfl) (by decide) (lo' := [_, _]) rfl ?_
      refine mx_goto C dX8_clearMarks_19 (tgt := 5) (by decide) ?_
      refine ih _ (by omega) (j + 1) _ _ rfl (by omega) c2 (fun q q1 q2 => ?_) (ho.tr (OUT.mark (by omega) (by omega))) ?_ ?_
      · by_cases e2 : q = j + 1
        · simp [e2]
        · simp only [if_neg e2]; exact hm q (by omega) q2
      · rw [va_up_ne _ _ (fun z => cc.bK (show 1 ≤ j + 1 by omega) (by omega) (by decide) z.symm)]; exact e9
      · rw [va_up_ne _ _ (fun z => cc.bK (show 1 ≤ j + 1 by omega) (by omega) (by decide) z.symm)]; exact e10
    · rw [nxt_ge e, pB_0]
      refine mx_ifnull C dX8_clearMarks_6 (tgt := 22) (by decide) (pc' := 9) rfl (fun h6 => ?_) (fun h6_a h6 => ?_)
      · refine mx_vret C hr dX8_clearMarks_22 (by omega) (by omega) ⟨rfl, ?_, ho, e9, e10⟩
        obtain ⟨c1, c2, c3, c4, c5, c6, c7, c8, c9, c10⟩ := cc
        exact ⟨c1, c2, c3, c4, c5, c6, c7, fun r r1 r2 => by rw [c8 r r1 r2, hm r (by omega) r1], c9, c10⟩
      · cases h6
  first | refine mx_aload_n C dX8_clearMarks_0 (pc' := 1) rfl rfl ?_ | refine mx_aload_nq C dX8_clearMarks_0 (pc' := 1) rfl rfl ?_
  refine gX8_47 C dX8_clearMarks_1 (pc' := 4) rfl (c.2.2.1) rfl ?_
  first | refine mx_astore_n C dX8_clearMarks_4 (pc' := 5) rfl (by first | exact mx_c1_0 | exact mx_c1_int rfl | exact mx_c1_ref rfl | exact mx_c1_none rfl | exact mx_c1_rf rfl | exact mx_c1_null rfl) (by decide) (lo' := [_, _]) rfl ?_ | refine mx_astore_nq C dX8_clearMarks_4 (pc' := 5) rfl (by first | exact mx_c1_0 | exact mx_c1_int rfl | exact mx_c1_ref rfl | exact mx_c1_none rfl | exact mx_c1_rf rfl | exact mx_c1_null rfl) (by decide) (lo' := [_, _]) rfl ?_
  exact loop _ 0 h mk rfl (by omega) c (fun q q1 q2 => by omega) OUT.rf rfl rfl
end KL
