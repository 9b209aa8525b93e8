/-! what a new one is -/
def s0 : mxS := ((0, 0, 0, 0), (fun _ => 0, fun _ => false, fun _ => 0, fun _ => 0), (fun _ => 0, fun _ => 0, fun _ => 0, fun _ _ => 0), (fun _ => 1, fun _ => 1, fun _ => 0))
theorem si_0 : si s0 := by
  refine ⟨Nat.zero_le _, Nat.zero_le _, by decide, Nat.zero_le _, ⟨fun r r1 r2 => ?_, fun r r' r1 r2 => ?_, fun r _ => ⟨rfl, rfl⟩⟩, ⟨fun f f1 f2 => ?_, fun f _ => rfl⟩, fun p _ => ⟨(by decide : 1 ≤ 100), (by decide : 1 ≤ 1), (by decide : 1 ≤ 10)⟩, fun i _ => Nat.zero_le _⟩
  · exact absurd (show r ≤ 0 from r2) (by omega)
  · exact absurd (show r ≤ 0 from r2) (by omega)
  · exact absurd (show f ≤ 0 from f2) (by omega)
def AL (h h' : mx_H) (o : Nat) (fs : List Value) (L : List (Nat × va_E)) : Prop := h o ≠ none ∧ h' o = some (.inr (9, fs)) ∧ (∀ e ∈ L, h e.1 = none ∧ h' e.1 = some e.2) ∧ (L.map Prod.fst).Nodup ∧ ∀ a, a ≠ o → a ∉ L.map Prod.fst → h' a = h a
theorem AL.step {h h' : mx_H} {o : Nat} {fs : List Value} {L : List (Nat × va_E)} (A : AL h h' o fs L) {x : Nat} (v : va_E) (fs' : List Value) (hx : h' x = none) : AL h (va_up (va_up h' x (some v)) o (some (.inr (9, fs')))) o fs' (L ++ [(x, v)]) := by
  obtain ⟨a1, a2, a3, a4, a5⟩ := A
  have xo : x ≠ o := fun z => by rw [z, a2] at hx; cases hx
  have xL : x ∉ L.map Prod.fst := fun z => by
    obtain ⟨e, e1, e2⟩ := List.mem_map.mp z
    have := (a3 e e1).2
    rw [e2, hx] at this; cases this
  refine ⟨a1, va_up_self _ _ _, fun e he => ?_, ?_, fun a h1 h2 => ?_⟩
  · rcases List.mem_append.mp he with z | z
    · have k := a3 e z
      have n1 : e.1 ≠ o := fun w => a1 (by rw [← w]; exact k.1)
      have n2 : e.1 ≠ x := fun w => by rw [← w, k.2] at hx; cases hx
      exact ⟨k.1, by rw [va_up_ne _ _ n1, va_up_ne _ _ n2]; exact k.2⟩
    · rw [List.mem_singleton.mp z]
      exact ⟨by rw [← a5 x xo xL]; exact hx, by rw [va_up_ne _ _ xo, va_up_self]⟩
  · rw [List.map_append, List.nodup_append]
    refine ⟨a4, by simp, fun y hy z hz w => ?_⟩
    have hz : z = x := by simpa using hz
    exact xL (by rw [← hz, ← w]; exact hy)
  · rw [List.map_append, List.mem_append] at h2
    rw [va_up_ne _ _ h1, va_up_ne _ _ (fun w => h2 (Or.inr (by rw [w]; simp)))]
    exact a5 a h1 (fun z => h2 (Or.inl z))
theorem inj_nd {L : List Nat} (h : L.Nodup) : inj (fun i => L.getD i 0) L.length := by
  intro i j hi hj e
  have e : L.getD i 0 = L.getD j 0 := e
  rw [List.getD_eq_getElem?_getD, List.getD_eq_getElem?_getD, List.getElem?_eq_getElem hi, List.getElem?_eq_getElem hj] at e
  have e : L[i] = L[j] := e
  rcases Nat.lt_trichotomy i j with z | z | z
  · exact absurd e (List.pairwise_iff_getElem.mp h i j hi hj z)
  · exact z
  · exact absurd e.symm (List.pairwise_iff_getElem.mp h j i hj hi z)
section IT2
variable (l : Launch) (G : mx_G) (base : Nat)
set_option maxRecDepth 20000
theorem c_X9_init (h : mx_H) {o : Nat} (ho : h o = some (.inr (9, [.int 0, .int 0, .null, .null, .null, .null, .int 0, .int 0, .null, .null, .null, .null, .null, .null, .null, .int 0, .null, .int 0, .null, .null, .null, .null, .null, .long 0, .long 0]))) : mx_M l G base yX9_init cX9_init 1 none 1 24 17 13517 [.ref o] h (fun v h' => v = none ∧ ∃ P : Nat → Nat, P 0 = o ∧ MI G P h' s0 (nI 0) (nI 0) (lN 0) (lN 0) ∧ (∀ i, 1 ≤ i → i < 18 → h (P i) = none) ∧ ∀ a, h a ≠ none → a ≠ o → h' a = h a) := by
  have A0 : AL h h o [.int 0, .int 0, .null, .null, .null, .null, .int 0, .int 0, .null, .null, .null, .null, .null, .null, .null, .int 0, .null, .int 0, .null, .null, .null, .null, .null, .long 0, .long 0] [] := ⟨by rw [ho]; simp, ho, fun e he => by simp at he, by simp, fun _ _ _ => rfl⟩
  refine mx_enter (lo := [some (.ref o)]) (by decide) (mx_in wd_code_yX9_init rfl) (Nat.le_of_ble_eq_true rfl) rfl ?_
  intro p ev s mt args below meth cd C hr hnm
  have C : mx_C p s mt args meth cd cX9_init 1 RX9 G base := C
  first | refine mx_aload_n C dX9_init_0 (pc' := 1) rfl rfl ?_ | refine mx_aload_nq C dX9_init_0 (pc' := 1) rfl rfl ?_
  refine oX9_1 C dX9_init_1 (pc' := 4) rfl ⟨by decide, Nat.le_of_ble_eq_true rfl⟩ ?_
  first | refine mx_aload_n C dX9_init_4 (pc' := 5) rfl rfl ?_ | refine mx_aload_nq C dX9_init_4 (pc' := 5) rfl rfl ?_
  refine mx_bipush C (v := nI 41) (by decide) dX9_init_5 (pc' := 7) rfl ?_
  refine mx_newai C (mx_in wd_arr_int rfl) (N := 41) (by rfl) (by decide) dX9_init_7 (pc' := 9) rfl (by decide) (by decide) ?_
  intro x1 hx1
  have nx1 : o ≠ x1 := fun z => by rw [← z, A0.2.1] at hx1; cases hx1
  refine pX9_7 C hnm dX9_init_9 (pc' := 12) rfl (by rw [va_up_ne _ _ nx1]; exact A0.2.1) (Nat.le_of_ble_eq_true rfl) rfl rfl (fs' := [_, _, _, _, _, _, _, _, _, _, _, _, _, _, _, _, _, _, _, _, _, _, _, _, _]) rfl ?_
  have A1 := A0.step (.inl (G.2 0, 41, .inl (fun _ => 0))) [.int 0, .int 0, .ref x1, .null, .null, .null, .int 0, .int 0, .null, .null, .null, .null, .null, .null, .null, .int 0, .null, .int 0, .null, .null, .null, .null, .null, .long 0, .long 0] hx1
  refine mx_heap (h' := va_up (va_up h x1 (some (.inl (G.2 0, 41, .inl (fun _ => 0))))) o (some (.inr (9, [.int 0, .int 0, .ref x1, .null, .null, .null, .int 0, .int 0, .null, .null, .null, .null, .null, .null, .null, .int 0, .null, .int 0, .null, .null, .null, .null, .null, .long 0, .long 0])))) rfl ?_
  generalize va_up (va_up h x1 (some (.inl (G.2 0, 41, .inl (fun _ => 0))))) o (some (.inr (9, [.int 0, .int 0, .ref x1, .null, .null, .null, .int 0, .int 0, .null, .null, .null, .null, .null, .null, .null, .int 0, .null, .int 0, .null, .null, .null, .null, .null, .long 0, .long 0]))) = h1 at A1 ⊢
  clear A0
  first | refine mx_aload_n C dX9_init_12 (pc' := 13) rfl rfl ?_ | refine mx_aload_nq C dX9_init_12 (pc' := 13) rfl rfl ?_
  refine mx_bipush C (v := nI 41) (by decide) dX9_init_13 (pc' := 15) rfl ?_
  refine mx_newaz C (mx_in wd_arr_boolean rfl) (N := 41) (by rfl) (by decide) dX9_init_15 (pc' := 17) rfl (by decide) (by decide) ?_
  intro x2 hx2
  have nx2 : o ≠ x2 := fun z => by rw [← z, A1.2.1] at hx2; cases hx2
  refine pX9_13 C hnm dX9_init_17 (pc' := 20) rfl (by rw [va_up_ne _ _ nx2]; exact A1.2.1) (Nat.le_of_ble_eq_true rfl) rfl rfl (fs' := [_, _, _, _, _, _, _, _, _, _, _, _, _, _, _, _, _, _, _, _, _, _, _, _, _]) rfl ?_
  have A2 := A1.step (.inl (G.2 4, 41, .inl (fun _ => 0))) [.int 0, .int 0, .ref x1, .ref x2, .null, .null, .int 0, .int 0, .null, .null, .null, .null, .null, .null, .null, .int 0, .null, .int 0, .null, .null, .null, .null, .null, .long 0, .long 0] hx2
  refine mx_heap (h' := va_up (va_up h1 x2 (some (.inl (G.2 4, 41, .inl (fun _ => 0))))) o (some (.inr (9, [.int 0, .int 0, .ref x1, .ref x2, .null, .null, .int 0, .int 0, .null, .null, .null, .null, .null, .null, .null, .int 0, .null, .int 0, .null, .null, .null, .null, .null, .long 0, .long 0])))) rfl ?_
  generalize va_up (va_up h1 x2 (some (.inl (G.2 4, 41, .inl (fun _ => 0))))) o (some (.inr (9, [.int 0, .int 0, .ref x1, .ref x2, .null, .null, .int 0, .int 0, .null, .null, .null, .null, .null, .null, .null, .int 0, .null, .int 0, .null, .null, .null, .null, .null, .long 0, .long 0]))) = h2 at A2 ⊢
  clear A1
  first | refine mx_aload_n C dX9_init_20 (pc' := 21) rfl rfl ?_ | refine mx_aload_nq C dX9_init_20 (pc' := 21) rfl rfl ?_
  refine mx_bipush C (v := nI 41) (by decide) dX9_init_21 (pc' := 23) rfl ?_
  refine mx_newai C (mx_in wd_arr_int rfl) (N := 41) (by rfl) (by decide) dX9_init_23 (pc' := 25) rfl (by decide) (by decide) ?_
  intro x3 hx3
  have nx3 : o ≠ x3 := fun z => by rw [← z, A2.2.1] at hx3; cases hx3
  refine pX9_17 C hnm dX9_init_25 (pc' := 28) rfl (by rw [va_up_ne _ _ nx3]; exact A2.2.1) (Nat.le_of_ble_eq_true rfl) rfl rfl (fs' := [_, _, _, _, _, _, _, _, _, _, _, _, _, _, _, _, _, _, _, _, _, _, _, _, _]) rfl ?_
  have A3 := A2.step (.inl (G.2 0, 41, .inl (fun _ => 0))) [.int 0, .int 0, .ref x1, .ref x2, .ref x3, .null, .int 0, .int 0, .null, .null, .null, .null, .null, .null, .null, .int 0, .null, .int 0, .null, .null, .null, .null, .null, .long 0, .long 0] hx3
  refine mx_heap (h' := va_up (va_up h2 x3 (some (.inl (G.2 0, 41, .inl (fun _ => 0))))) o (some (.inr (9, [.int 0, .int 0, .ref x1, .ref x2, .ref x3, .null, .int 0, .int 0, .null, .null, .null, .null, .null, .null, .null, .int 0, .null, .int 0, .null, .null, .null, .null, .null, .long 0, .long 0])))) rfl ?_
  generalize va_up (va_up h2 x3 (some (.inl (G.2 0, 41, .inl (fun _ => 0))))) o (some (.inr (9, [.int 0, .int 0, .ref x1, .ref x2, .ref x3, .null, .int 0, .int 0, .null, .null, .null, .null, .null, .null, .null, .int 0, .null, .int 0, .null, .null, .null, .null, .null, .long 0, .long 0]))) = h3 at A3 ⊢
  clear A2
  first | refine mx_aload_n C dX9_init_28 (pc' := 29) rfl rfl ?_ | refine mx_aload_nq C dX9_init_28 (pc' := 29) rfl rfl ?_
  refine mx_bipush C (v := nI 41) (by decide) dX9_init_29 (pc' := 31) rfl ?_
  refine mx_newai C (mx_in wd_arr_int rfl) (N := 41) (by rfl) (by decide) dX9_init_31 (pc' := 33) rfl (by decide) (by decide) ?_
  intro x4 hx4
  have nx4 : o ≠ x4 := fun z => by rw [← z, A3.2.1] at hx4; cases hx4
  refine pX9_20 C hnm dX9_init_33 (pc' := 36) rfl (by rw [va_up_ne _ _ nx4]; exact A3.2.1) (Nat.le_of_ble_eq_true rfl) rfl rfl (fs' := [_, _, _, _, _, _, _, _, _, _, _, _, _, _, _, _, _, _, _, _, _, _, _, _, _]) rfl ?_
  have A4 := A3.step (.inl (G.2 0, 41, .inl (fun _ => 0))) [.int 0, .int 0, .ref x1, .ref x2, .ref x3, .ref x4, .int 0, .int 0, .null, .null, .null, .null, .null, .null, .null, .int 0, .null, .int 0, .null, .null, .null, .null, .null, .long 0, .long 0] hx4
  refine mx_heap (h' := va_up (va_up h3 x4 (some (.inl (G.2 0, 41, .inl (fun _ => 0))))) o (some (.inr (9, [.int 0, .int 0, .ref x1, .ref x2, .ref x3, .ref x4, .int 0, .int 0, .null, .null, .null, .null, .null, .null, .null, .int 0, .null, .int 0, .null, .null, .null, .null, .null, .long 0, .long 0])))) rfl ?_
  generalize va_up (va_up h3 x4 (some (.inl (G.2 0, 41, .inl (fun _ => 0))))) o (some (.inr (9, [.int 0, .int 0, .ref x1, .ref x2, .ref x3, .ref x4, .int 0, .int 0, .null, .null, .null, .null, .null, .null, .null, .int 0, .null, .int 0, .null, .null, .null, .null, .null, .long 0, .long 0]))) = h4 at A4 ⊢
  clear A3
  first | refine mx_aload_n C dX9_init_36 (pc' := 37) rfl rfl ?_ | refine mx_aload_nq C dX9_init_36 (pc' := 37) rfl rfl ?_
  refine mx_sipush C (v := nI 201) (by decide) dX9_init_37 (pc' := 40) rfl ?_
  refine mx_newai C (mx_in wd_arr_int rfl) (N := 201) (by rfl) (by decide) dX9_init_40 (pc' := 42) rfl (by decide) (by decide) ?_
  intro x5 hx5
  have nx5 : o ≠ x5 := fun z => by rw [← z, A4.2.1] at hx5; cases hx5
  refine pX9_23 C hnm dX9_init_42 (pc' := 45) rfl (by rw [va_up_ne _ _ nx5]; exact A4.2.1) (Nat.le_of_ble_eq_true rfl) rfl rfl (fs' := [_, _, _, _, _, _, _, _, _, _, _, _, _, _, _, _, _, _, _, _, _, _, _, _, _]) rfl ?_
  have A5 := A4.step (.inl (G.2 0, 201, .inl (fun _ => 0))) [.int 0, .int 0, .ref x1, .ref x2, .ref x3, .ref x4, .int 0, .int 0, .ref x5, .null, .null, .null, .null, .null, .null, .int 0, .null, .int 0, .null, .null, .null, .null, .null, .long 0, .long 0] hx5
  refine mx_heap (h' := va_up (va_up h4 x5 (some (.inl (G.2 0, 201, .inl (fun _ => 0))))) o (some (.inr (9, [.int 0, .int 0, .ref x1, .ref x2, .ref x3, .ref x4, .int 0, .int 0, .ref x5, .null, .null, .null, .null, .null, .null, .int 0, .null, .int 0, .null, .null, .null, .null, .null, .long 0, .long 0])))) rfl ?_
  generalize va_up (va_up h4 x5 (some (.inl (G.2 0, 201, .inl (fun _ => 0))))) o (some (.inr (9, [.int 0, .int 0, .ref x1, .ref x2, .ref x3, .ref x4, .int 0, .int 0, .ref x5, .null, .null, .null, .null, .null, .null, .int 0, .null, .int 0, .null, .null, .null, .null, .null, .long 0, .long 0]))) = h5 at A5 ⊢
  clear A4
  first | refine mx_aload_n C dX9_init_45 (pc' := 46) rfl rfl ?_ | refine mx_aload_nq C dX9_init_45 (pc' := 46) rfl rfl ?_
  refine mx_sipush C (v := nI 201) (by decide) dX9_init_46 (pc' := 49) rfl ?_
  refine mx_newai C (mx_in wd_arr_int rfl) (N := 201) (by rfl) (by decide) dX9_init_49 (pc' := 51) rfl (by decide) (by decide) ?_
  intro x6 hx6
  have nx6 : o ≠ x6 := fun z => by rw [← z, A5.2.1] at hx6; cases hx6
  refine pX9_26 C hnm dX9_init_51 (pc' := 54) rfl (by rw [va_up_ne _ _ nx6]; exact A5.2.1) (Nat.le_of_ble_eq_true rfl) rfl rfl (fs' := [_, _, _, _, _, _, _, _, _, _, _, _, _, _, _, _, _, _, _, _, _, _, _, _, _]) rfl ?_
  have A6 := A5.step (.inl (G.2 0, 201, .inl (fun _ => 0))) [.int 0, .int 0, .ref x1, .ref x2, .ref x3, .ref x4, .int 0, .int 0, .ref x5, .ref x6, .null, .null, .null, .null, .null, .int 0, .null, .int 0, .null, .null, .null, .null, .null, .long 0, .long 0] hx6
  refine mx_heap (h' := va_up (va_up h5 x6 (some (.inl (G.2 0, 201, .inl (fun _ => 0))))) o (some (.inr (9, [.int 0, .int 0, .ref x1, .ref x2, .ref x3, .ref x4, .int 0, .int 0, .ref x5, .ref x6, .null, .null, .null, .null, .null, .int 0, .null, .int 0, .null, .null, .null, .null, .null, .long 0, .long 0])))) rfl ?_
  generalize va_up (va_up h5 x6 (some (.inl (G.2 0, 201, .inl (fun _ => 0))))) o (some (.inr (9, [.int 0, .int 0, .ref x1, .ref x2, .ref x3, .ref x4, .int 0, .int 0, .ref x5, .ref x6, .null, .null, .null, .null, .null, .int 0, .null, .int 0, .null, .null, .null, .null, .null, .long 0, .long 0]))) = h6 at A6 ⊢
  clear A5
  first | refine mx_aload_n C dX9_init_54 (pc' := 55) rfl rfl ?_ | refine mx_aload_nq C dX9_init_54 (pc' := 55) rfl rfl ?_
  refine mx_sipush C (v := nI 12060) (by decide) dX9_init_55 (pc' := 58) rfl ?_
  refine mx_newab C (mx_in wd_arr_byte rfl) (N := 12060) (by rfl) (by decide) dX9_init_58 (pc' := 60) rfl (by decide) (by decide) ?_
  intro x7 hx7
  have nx7 : o ≠ x7 := fun z => by rw [← z, A6.2.1] at hx7; cases hx7
  refine pX9_29 C hnm dX9_init_60 (pc' := 63) rfl (by rw [va_up_ne _ _ nx7]; exact A6.2.1) (Nat.le_of_ble_eq_true rfl) rfl rfl (fs' := [_, _, _, _, _, _, _, _, _, _, _, _, _, _, _, _, _, _, _, _, _, _, _, _, _]) rfl ?_
  have A7 := A6.step (.inl (G.2 3, 12060, .inl (fun _ => 0))) [.int 0, .int 0, .ref x1, .ref x2, .ref x3, .ref x4, .int 0, .int 0, .ref x5, .ref x6, .ref x7, .null, .null, .null, .null, .int 0, .null, .int 0, .null, .null, .null, .null, .null, .long 0, .long 0] hx7
  refine mx_heap (h' := va_up (va_up h6 x7 (some (.inl (G.2 3, 12060, .inl (fun _ => 0))))) o (some (.inr (9, [.int 0, .int 0, .ref x1, .ref x2, .ref x3, .ref x4, .int 0, .int 0, .ref x5, .ref x6, .ref x7, .null, .null, .null, .null, .int 0, .null, .int 0, .null, .null, .null, .null, .null, .long 0, .long 0])))) rfl ?_
  generalize va_up (va_up h6 x7 (some (.inl (G.2 3, 12060, .inl (fun _ => 0))))) o (some (.inr (9, [.int 0, .int 0, .ref x1, .ref x2, .ref x3, .ref x4, .int 0, .int 0, .ref x5, .ref x6, .ref x7, .null, .null, .null, .null, .int 0, .null, .int 0, .null, .null, .null, .null, .null, .long 0, .long 0]))) = h7 at A7 ⊢
  clear A6
  first | refine mx_aload_n C dX9_init_63 (pc' := 64) rfl rfl ?_ | refine mx_aload_nq C dX9_init_63 (pc' := 64) rfl rfl ?_
  refine mx_sipush C (v := nI 201) (by decide) dX9_init_64 (pc' := 67) rfl ?_
  refine mx_newai C (mx_in wd_arr_int rfl) (N := 201) (by rfl) (by decide) dX9_init_67 (pc' := 69) rfl (by decide) (by decide) ?_
  intro x8 hx8
  have nx8 : o ≠ x8 := fun z => by rw [← z, A7.2.1] at hx8; cases hx8
  refine pX9_33 C hnm dX9_init_69 (pc' := 72) rfl (by rw [va_up_ne _ _ nx8]; exact A7.2.1) (Nat.le_of_ble_eq_true rfl) rfl rfl (fs' := [_, _, _, _, _, _, _, _, _, _, _, _, _, _, _, _, _, _, _, _, _, _, _, _, _]) rfl ?_
  have A8 := A7.step (.inl (G.2 0, 201, .inl (fun _ => 0))) [.int 0, .int 0, .ref x1, .ref x2, .ref x3, .ref x4, .int 0, .int 0, .ref x5, .ref x6, .ref x7, .ref x8, .null, .null, .null, .int 0, .null, .int 0, .null, .null, .null, .null, .null, .long 0, .long 0] hx8
  refine mx_heap (h' := va_up (va_up h7 x8 (some (.inl (G.2 0, 201, .inl (fun _ => 0))))) o (some (.inr (9, [.int 0, .int 0, .ref x1, .ref x2, .ref x3, .ref x4, .int 0, .int 0, .ref x5, .ref x6, .ref x7, .ref x8, .null, .null, .null, .int 0, .null, .int 0, .null, .null, .null, .null, .null, .long 0, .long 0])))) rfl ?_
  generalize va_up (va_up h7 x8 (some (.inl (G.2 0, 201, .inl (fun _ => 0))))) o (some (.inr (9, [.int 0, .int 0, .ref x1, .ref x2, .ref x3, .ref x4, .int 0, .int 0, .ref x5, .ref x6, .ref x7, .ref x8, .null, .null, .null, .int 0, .null, .int 0, .null, .null, .null, .null, .null, .long 0, .long 0]))) = h8 at A8 ⊢
  clear A7
  first | refine mx_aload_n C dX9_init_72 (pc' := 73) rfl rfl ?_ | refine mx_aload_nq C dX9_init_72 (pc' := 73) rfl rfl ?_
  refine mx_iconst C (v := nI 5) (by decide) dX9_init_73 (pc' := 74) rfl ?_
  refine mx_newai C (mx_in wd_arr_int rfl) (N := 5) (by rfl) (by decide) dX9_init_74 (pc' := 76) rfl (by decide) (by decide) ?_
  intro x9 hx9
  have nx9 : o ≠ x9 := fun z => by rw [← z, A8.2.1] at hx9; cases hx9
  refine mx_dup C rfl dX9_init_76 (pc' := 77) rfl ?_
  refine mx_iconst C (v := nI 0) (by decide) dX9_init_77 (pc' := 78) rfl ?_
  refine mx_iconst C (v := nI 1) (by decide) dX9_init_78 (pc' := 79) rfl ?_
  refine mx_iast C dX9_init_79 (pc' := 80) rfl (va_up_self _ _ _) (rfl) (show 0 < 5 by decide) (by decide) ?_
  refine mx_heap (bx_uu _ _ _ _) ?_
  refine mx_dup C rfl dX9_init_80 (pc' := 81) rfl ?_
  refine mx_iconst C (v := nI 1) (by decide) dX9_init_81 (pc' := 82) rfl ?_
  refine mx_iconst C (v := nI 1) (by decide) dX9_init_82 (pc' := 83) rfl ?_
  refine mx_iast C dX9_init_83 (pc' := 84) rfl (va_up_self _ _ _) (rfl) (show 1 < 5 by decide) (by decide) ?_
  refine mx_heap (bx_uu _ _ _ _) ?_
  refine mx_dup C rfl dX9_init_84 (pc' := 85) rfl ?_
  refine mx_iconst C (v := nI 2) (by decide) dX9_init_85 (pc' := 86) rfl ?_
  refine mx_iconst C (v := nI 1) (by decide) dX9_init_86 (pc' := 87) rfl ?_
  refine mx_iast C dX9_init_87 (pc' := 88) rfl (va_up_self _ _ _) (rfl) (show 2 < 5 by decide) (by decide) ?_
  refine mx_heap (bx_uu _ _ _ _) ?_
  refine mx_dup C rfl dX9_init_88 (pc' := 89) rfl ?_
  refine mx_iconst C (v := nI 3) (by decide) dX9_init_89 (pc' := 90) rfl ?_
  refine mx_iconst C (v := nI 1) (by decide) dX9_init_90 (pc' := 91) rfl ?_
  refine mx_iast C dX9_init_91 (pc' := 92) rfl (va_up_self _ _ _) (rfl) (show 3 < 5 by decide) (by decide) ?_
  refine mx_heap (bx_uu _ _ _ _) ?_
  refine mx_dup C rfl dX9_init_92 (pc' := 93) rfl ?_
  refine mx_iconst C (v := nI 4) (by decide) dX9_init_93 (pc' := 94) rfl ?_
  refine mx_iconst C (v := nI 1) (by decide) dX9_init_94 (pc' := 95) rfl ?_
  refine mx_iast C dX9_init_95 (pc' := 96) rfl (va_up_self _ _ _) (rfl) (show 4 < 5 by decide) (by decide) ?_
  refine mx_heap (bx_uu _ _ _ _) ?_
  refine pX9_36 C hnm dX9_init_96 (pc' := 99) rfl (by rw [va_up_ne _ _ nx9]; exact A8.2.1) (Nat.le_of_ble_eq_true rfl) rfl rfl (fs' := [_, _, _, _, _, _, _, _, _, _, _, _, _, _, _, _, _, _, _, _, _, _, _, _, _]) rfl ?_
  have A9 := A8.step (.inl (G.2 0, 5, .inl (upd (upd (upd (upd (upd (fun _ => 0) 0 (nI 1)) 1 (nI 1)) 2 (nI 1)) 3 (nI 1)) 4 (nI 1)))) [.int 0, .int 0, .ref x1, .ref x2, .ref x3, .ref x4, .int 0, .int 0, .ref x5, .ref x6, .ref x7, .ref x8, .ref x9, .null, .null, .int 0, .null, .int 0, .null, .null, .null, .null, .null, .long 0, .long 0] hx9
  refine mx_heap (h' := va_up (va_up h8 x9 (some (.inl (G.2 0, 5, .inl (upd (upd (upd (upd (upd (fun _ => 0) 0 (nI 1)) 1 (nI 1)) 2 (nI 1)) 3 (nI 1)) 4 (nI 1)))))) o (some (.inr (9, [.int 0, .int 0, .ref x1, .ref x2, .ref x3, .ref x4, .int 0, .int 0, .ref x5, .ref x6, .ref x7, .ref x8, .ref x9, .null, .null, .int 0, .null, .int 0, .null, .null, .null, .null, .null, .long 0, .long 0])))) rfl ?_
  generalize va_up (va_up h8 x9 (some (.inl (G.2 0, 5, .inl (upd (upd (upd (upd (upd (fun _ => 0) 0 (nI 1)) 1 (nI 1)) 2 (nI 1)) 3 (nI 1)) 4 (nI 1)))))) o (some (.inr (9, [.int 0, .int 0, .ref x1, .ref x2, .ref x3, .ref x4, .int 0, .int 0, .ref x5, .ref x6, .ref x7, .ref x8, .ref x9, .null, .null, .int 0, .null, .int 0, .null, .null, .null, .null, .null, .long 0, .long 0]))) = h9 at A9 ⊢
  clear A8
  first | refine mx_aload_n C dX9_init_99 (pc' := 100) rfl rfl ?_ | refine mx_aload_nq C dX9_init_99 (pc' := 100) rfl rfl ?_
  refine mx_iconst C (v := nI 5) (by decide) dX9_init_100 (pc' := 101) rfl ?_
  refine mx_newai C (mx_in wd_arr_int rfl) (N := 5) (by rfl) (by decide) dX9_init_101 (pc' := 103) rfl (by decide) (by decide) ?_
  intro x10 hx10
  have nx10 : o ≠ x10 := fun z => by rw [← z, A9.2.1] at hx10; cases hx10
  refine mx_dup C rfl dX9_init_103 (pc' := 104) rfl ?_
  refine mx_iconst C (v := nI 0) (by decide) dX9_init_104 (pc' := 105) rfl ?_
  refine mx_iconst C (v := nI 1) (by decide) dX9_init_105 (pc' := 106) rfl ?_
  refine mx_iast C dX9_init_106 (pc' := 107) rfl (va_up_self _ _ _) (rfl) (show 0 < 5 by decide) (by decide) ?_
  refine mx_heap (bx_uu _ _ _ _) ?_
  refine mx_dup C rfl dX9_init_107 (pc' := 108) rfl ?_
  refine mx_iconst C (v := nI 1) (by decide) dX9_init_108 (pc' := 109) rfl ?_
  refine mx_iconst C (v := nI 1) (by decide) dX9_init_109 (pc' := 110) rfl ?_
  refine mx_iast C dX9_init_110 (pc' := 111) rfl (va_up_self _ _ _) (rfl) (show 1 < 5 by decide) (by decide) ?_
  refine mx_heap (bx_uu _ _ _ _) ?_
  refine mx_dup C rfl dX9_init_111 (pc' := 112) rfl ?_
  refine mx_iconst C (v := nI 2) (by decide) dX9_init_112 (pc' := 113) rfl ?_
  refine mx_iconst C (v := nI 1) (by decide) dX9_init_113 (pc' := 114) rfl ?_
  refine mx_iast C dX9_init_114 (pc' := 115) rfl (va_up_self _ _ _) (rfl) (show 2 < 5 by decide) (by decide) ?_
  refine mx_heap (bx_uu _ _ _ _) ?_
  refine mx_dup C rfl dX9_init_115 (pc' := 116) rfl ?_
  refine mx_iconst C (v := nI 3) (by decide) dX9_init_116 (pc' := 117) rfl ?_
  refine mx_iconst C (v := nI 1) (by decide) dX9_init_117 (pc' := 118) rfl ?_
  refine mx_iast C dX9_init_118 (pc' := 119) rfl (va_up_self _ _ _) (rfl) (show 3 < 5 by decide) (by decide) ?_
  refine mx_heap (bx_uu _ _ _ _) ?_
  refine mx_dup C rfl dX9_init_119 (pc' := 120) rfl ?_
  refine mx_iconst C (v := nI 4) (by decide) dX9_init_120 (pc' := 121) rfl ?_
  refine mx_iconst C (v := nI 1) (by decide) dX9_init_121 (pc' := 122) rfl ?_
  refine mx_iast C dX9_init_122 (pc' := 123) rfl (va_up_self _ _ _) (rfl) (show 4 < 5 by decide) (by decide) ?_
  refine mx_heap (bx_uu _ _ _ _) ?_
  refine pX9_39 C hnm dX9_init_123 (pc' := 126) rfl (by rw [va_up_ne _ _ nx10]; exact A9.2.1) (Nat.le_of_ble_eq_true rfl) rfl rfl (fs' := [_, _, _, _, _, _, _, _, _, _, _, _, _, _, _, _, _, _, _, _, _, _, _, _, _]) rfl ?_
  have A10 := A9.step (.inl (G.2 0, 5, .inl (upd (upd (upd (upd (upd (fun _ => 0) 0 (nI 1)) 1 (nI 1)) 2 (nI 1)) 3 (nI 1)) 4 (nI 1)))) [.int 0, .int 0, .ref x1, .ref x2, .ref x3, .ref x4, .int 0, .int 0, .ref x5, .ref x6, .ref x7, .ref x8, .ref x9, .ref x10, .null, .int 0, .null, .int 0, .null, .null, .null, .null, .null, .long 0, .long 0] hx10
  refine mx_heap (h' := va_up (va_up h9 x10 (some (.inl (G.2 0, 5, .inl (upd (upd (upd (upd (upd (fun _ => 0) 0 (nI 1)) 1 (nI 1)) 2 (nI 1)) 3 (nI 1)) 4 (nI 1)))))) o (some (.inr (9, [.int 0, .int 0, .ref x1, .ref x2, .ref x3, .ref x4, .int 0, .int 0, .ref x5, .ref x6, .ref x7, .ref x8, .ref x9, .ref x10, .null, .int 0, .null, .int 0, .null, .null, .null, .null, .null, .long 0, .long 0])))) rfl ?_
  generalize va_up (va_up h9 x10 (some (.inl (G.2 0, 5, .inl (upd (upd (upd (upd (upd (fun _ => 0) 0 (nI 1)) 1 (nI 1)) 2 (nI 1)) 3 (nI 1)) 4 (nI 1)))))) o (some (.inr (9, [.int 0, .int 0, .ref x1, .ref x2, .ref x3, .ref x4, .int 0, .int 0, .ref x5, .ref x6, .ref x7, .ref x8, .ref x9, .ref x10, .null, .int 0, .null, .int 0, .null, .null, .null, .null, .null, .long 0, .long 0]))) = h10 at A10 ⊢
  clear A9
  first | refine mx_aload_n C dX9_init_126 (pc' := 127) rfl rfl ?_ | refine mx_aload_nq C dX9_init_126 (pc' := 127) rfl rfl ?_
  refine mx_bipush C (v := nI 40) (by decide) dX9_init_127 (pc' := 129) rfl ?_
  refine mx_newai C (mx_in wd_arr_int rfl) (N := 40) (by rfl) (by decide) dX9_init_129 (pc' := 131) rfl (by decide) (by decide) ?_
  intro x11 hx11
  have nx11 : o ≠ x11 := fun z => by rw [← z, A10.2.1] at hx11; cases hx11
  refine pX9_42 C hnm dX9_init_131 (pc' := 134) rfl (by rw [va_up_ne _ _ nx11]; exact A10.2.1) (Nat.le_of_ble_eq_true rfl) rfl rfl (fs' := [_, _, _, _, _, _, _, _, _, _, _, _, _, _, _, _, _, _, _, _, _, _, _, _, _]) rfl ?_
  have A11 := A10.step (.inl (G.2 0, 40, .inl (fun _ => 0))) [.int 0, .int 0, .ref x1, .ref x2, .ref x3, .ref x4, .int 0, .int 0, .ref x5, .ref x6, .ref x7, .ref x8, .ref x9, .ref x10, .ref x11, .int 0, .null, .int 0, .null, .null, .null, .null, .null, .long 0, .long 0] hx11
  refine mx_heap (h' := va_up (va_up h10 x11 (some (.inl (G.2 0, 40, .inl (fun _ => 0))))) o (some (.inr (9, [.int 0, .int 0, .ref x1, .ref x2, .ref x3, .ref x4, .int 0, .int 0, .ref x5, .ref x6, .ref x7, .ref x8, .ref x9, .ref x10, .ref x11, .int 0, .null, .int 0, .null, .null, .null, .null, .null, .long 0, .long 0])))) rfl ?_
  generalize va_up (va_up h10 x11 (some (.inl (G.2 0, 40, .inl (fun _ => 0))))) o (some (.inr (9, [.int 0, .int 0, .ref x1, .ref x2, .ref x3, .ref x4, .int 0, .int 0, .ref x5, .ref x6, .ref x7, .ref x8, .ref x9, .ref x10, .ref x11, .int 0, .null, .int 0, .null, .null, .null, .null, .null, .long 0, .long 0]))) = h11 at A11 ⊢
  clear A10
  first | refine mx_aload_n C dX9_init_134 (pc' := 135) rfl rfl ?_ | refine mx_aload_nq C dX9_init_134 (pc' := 135) rfl rfl ?_
  refine mx_sipush C (v := nI 200) (by decide) dX9_init_135 (pc' := 138) rfl ?_
  refine mx_newal C (mx_in wd_arr_long rfl) (N := 200) (by rfl) (by decide) dX9_init_138 (pc' := 140) rfl (by decide) (by decide) ?_
  intro x12 hx12
  have nx12 : o ≠ x12 := fun z => by rw [← z, A11.2.1] at hx12; cases hx12
  refine pX9_45 C hnm dX9_init_140 (pc' := 143) rfl (by rw [va_up_ne _ _ nx12]; exact A11.2.1) (Nat.le_of_ble_eq_true rfl) rfl rfl (fs' := [_, _, _, _, _, _, _, _, _, _, _, _, _, _, _, _, _, _, _, _, _, _, _, _, _]) rfl ?_
  have A12 := A11.step (.inl (G.2 1, 200, .inr (.inl (fun _ => 0)))) [.int 0, .int 0, .ref x1, .ref x2, .ref x3, .ref x4, .int 0, .int 0, .ref x5, .ref x6, .ref x7, .ref x8, .ref x9, .ref x10, .ref x11, .int 0, .ref x12, .int 0, .null, .null, .null, .null, .null, .long 0, .long 0] hx12
  refine mx_heap (h' := va_up (va_up h11 x12 (some (.inl (G.2 1, 200, .inr (.inl (fun _ => 0)))))) o (some (.inr (9, [.int 0, .int 0, .ref x1, .ref x2, .ref x3, .ref x4, .int 0, .int 0, .ref x5, .ref x6, .ref x7, .ref x8, .ref x9, .ref x10, .ref x11, .int 0, .ref x12, .int 0, .null, .null, .null, .null, .null, .long 0, .long 0])))) rfl ?_
  generalize va_up (va_up h11 x12 (some (.inl (G.2 1, 200, .inr (.inl (fun _ => 0)))))) o (some (.inr (9, [.int 0, .int 0, .ref x1, .ref x2, .ref x3, .ref x4, .int 0, .int 0, .ref x5, .ref x6, .ref x7, .ref x8, .ref x9, .ref x10, .ref x11, .int 0, .ref x12, .int 0, .null, .null, .null, .null, .null, .long 0, .long 0]))) = h12 at A12 ⊢
  clear A11
  first | refine mx_aload_n C dX9_init_143 (pc' := 144) rfl rfl ?_ | refine mx_aload_nq C dX9_init_143 (pc' := 144) rfl rfl ?_
  refine mx_sipush C (v := nI 200) (by decide) dX9_init_144 (pc' := 147) rfl ?_
  refine mx_newal C (mx_in wd_arr_long rfl) (N := 200) (by rfl) (by decide) dX9_init_147 (pc' := 149) rfl (by decide) (by decide) ?_
  intro x13 hx13
  have nx13 : o ≠ x13 := fun z => by rw [← z, A12.2.1] at hx13; cases hx13
  refine pX9_49 C hnm dX9_init_149 (pc' := 152) rfl (by rw [va_up_ne _ _ nx13]; exact A12.2.1) (Nat.le_of_ble_eq_true rfl) rfl rfl (fs' := [_, _, _, _, _, _, _, _, _, _, _, _, _, _, _, _, _, _, _, _, _, _, _, _, _]) rfl ?_
  have A13 := A12.step (.inl (G.2 1, 200, .inr (.inl (fun _ => 0)))) [.int 0, .int 0, .ref x1, .ref x2, .ref x3, .ref x4, .int 0, .int 0, .ref x5, .ref x6, .ref x7, .ref x8, .ref x9, .ref x10, .ref x11, .int 0, .ref x12, .int 0, .ref x13, .null, .null, .null, .null, .long 0, .long 0] hx13
  refine mx_heap (h' := va_up (va_up h12 x13 (some (.inl (G.2 1, 200, .inr (.inl (fun _ => 0)))))) o (some (.inr (9, [.int 0, .int 0, .ref x1, .ref x2, .ref x3, .ref x4, .int 0, .int 0, .ref x5, .ref x6, .ref x7, .ref x8, .ref x9, .ref x10, .ref x11, .int 0, .ref x12, .int 0, .ref x13, .null, .null, .null, .null, .long 0, .long 0])))) rfl ?_
  generalize va_up (va_up h12 x13 (some (.inl (G.2 1, 200, .inr (.inl (fun _ => 0)))))) o (some (.inr (9, [.int 0, .int 0, .ref x1, .ref x2, .ref x3, .ref x4, .int 0, .int 0, .ref x5, .ref x6, .ref x7, .ref x8, .ref x9, .ref x10, .ref x11, .int 0, .ref x12, .int 0, .ref x13, .null, .null, .null, .null, .long 0, .long 0]))) = h13 at A13 ⊢
  clear A12
  first | refine mx_aload_n C dX9_init_152 (pc' := 153) rfl rfl ?_ | refine mx_aload_nq C dX9_init_152 (pc' := 153) rfl rfl ?_
  refine mx_bipush C (v := nI 60) (by decide) dX9_init_153 (pc' := 155) rfl ?_
  refine mx_newai C (mx_in wd_arr_int rfl) (N := 60) (by rfl) (by decide) dX9_init_155 (pc' := 157) rfl (by decide) (by decide) ?_
  intro x14 hx14
  have nx14 : o ≠ x14 := fun z => by rw [← z, A13.2.1] at hx14; cases hx14
  refine pX9_52 C hnm dX9_init_157 (pc' := 160) rfl (by rw [va_up_ne _ _ nx14]; exact A13.2.1) (Nat.le_of_ble_eq_true rfl) rfl rfl (fs' := [_, _, _, _, _, _, _, _, _, _, _, _, _, _, _, _, _, _, _, _, _, _, _, _, _]) rfl ?_
  have A14 := A13.step (.inl (G.2 0, 60, .inl (fun _ => 0))) [.int 0, .int 0, .ref x1, .ref x2, .ref x3, .ref x4, .int 0, .int 0, .ref x5, .ref x6, .ref x7, .ref x8, .ref x9, .ref x10, .ref x11, .int 0, .ref x12, .int 0, .ref x13, .ref x14, .null, .null, .null, .long 0, .long 0] hx14
  refine mx_heap (h' := va_up (va_up h13 x14 (some (.inl (G.2 0, 60, .inl (fun _ => 0))))) o (some (.inr (9, [.int 0, .int 0, .ref x1, .ref x2, .ref x3, .ref x4, .int 0, .int 0, .ref x5, .ref x6, .ref x7, .ref x8, .ref x9, .ref x10, .ref x11, .int 0, .ref x12, .int 0, .ref x13, .ref x14, .null, .null, .null, .long 0, .long 0])))) rfl ?_
  generalize va_up (va_up h13 x14 (some (.inl (G.2 0, 60, .inl (fun _ => 0))))) o (some (.inr (9, [.int 0, .int 0, .ref x1, .ref x2, .ref x3, .ref x4, .int 0, .int 0, .ref x5, .ref x6, .ref x7, .ref x8, .ref x9, .ref x10, .ref x11, .int 0, .ref x12, .int 0, .ref x13, .ref x14, .null, .null, .null, .long 0, .long 0]))) = h14 at A14 ⊢
  clear A13
  first | refine mx_aload_n C dX9_init_160 (pc' := 161) rfl rfl ?_ | refine mx_aload_nq C dX9_init_160 (pc' := 161) rfl rfl ?_
  refine mx_bipush C (v := nI 60) (by decide) dX9_init_161 (pc' := 163) rfl ?_
  refine mx_newai C (mx_in wd_arr_int rfl) (N := 60) (by rfl) (by decide) dX9_init_163 (pc' := 165) rfl (by decide) (by decide) ?_
  intro x15 hx15
  have nx15 : o ≠ x15 := fun z => by rw [← z, A14.2.1] at hx15; cases hx15
  refine pX9_55 C hnm dX9_init_165 (pc' := 168) rfl (by rw [va_up_ne _ _ nx15]; exact A14.2.1) (Nat.le_of_ble_eq_true rfl) rfl rfl (fs' := [_, _, _, _, _, _, _, _, _, _, _, _, _, _, _, _, _, _, _, _, _, _, _, _, _]) rfl ?_
  have A15 := A14.step (.inl (G.2 0, 60, .inl (fun _ => 0))) [.int 0, .int 0, .ref x1, .ref x2, .ref x3, .ref x4, .int 0, .int 0, .ref x5, .ref x6, .ref x7, .ref x8, .ref x9, .ref x10, .ref x11, .int 0, .ref x12, .int 0, .ref x13, .ref x14, .ref x15, .null, .null, .long 0, .long 0] hx15
  refine mx_heap (h' := va_up (va_up h14 x15 (some (.inl (G.2 0, 60, .inl (fun _ => 0))))) o (some (.inr (9, [.int 0, .int 0, .ref x1, .ref x2, .ref x3, .ref x4, .int 0, .int 0, .ref x5, .ref x6, .ref x7, .ref x8, .ref x9, .ref x10, .ref x11, .int 0, .ref x12, .int 0, .ref x13, .ref x14, .ref x15, .null, .null, .long 0, .long 0])))) rfl ?_
  generalize va_up (va_up h14 x15 (some (.inl (G.2 0, 60, .inl (fun _ => 0))))) o (some (.inr (9, [.int 0, .int 0, .ref x1, .ref x2, .ref x3, .ref x4, .int 0, .int 0, .ref x5, .ref x6, .ref x7, .ref x8, .ref x9, .ref x10, .ref x11, .int 0, .ref x12, .int 0, .ref x13, .ref x14, .ref x15, .null, .null, .long 0, .long 0]))) = h15 at A15 ⊢
  clear A14
  first | refine mx_aload_n C dX9_init_168 (pc' := 169) rfl rfl ?_ | refine mx_aload_nq C dX9_init_168 (pc' := 169) rfl rfl ?_
  refine mx_bipush C (v := nI 60) (by decide) dX9_init_169 (pc' := 171) rfl ?_
  refine mx_newai C (mx_in wd_arr_int rfl) (N := 60) (by rfl) (by decide) dX9_init_171 (pc' := 173) rfl (by decide) (by decide) ?_
  intro x16 hx16
  have nx16 : o ≠ x16 := fun z => by rw [← z, A15.2.1] at hx16; cases hx16
  refine pX9_58 C hnm dX9_init_173 (pc' := 176) rfl (by rw [va_up_ne _ _ nx16]; exact A15.2.1) (Nat.le_of_ble_eq_true rfl) rfl rfl (fs' := [_, _, _, _, _, _, _, _, _, _, _, _, _, _, _, _, _, _, _, _, _, _, _, _, _]) rfl ?_
  have A16 := A15.step (.inl (G.2 0, 60, .inl (fun _ => 0))) [.int 0, .int 0, .ref x1, .ref x2, .ref x3, .ref x4, .int 0, .int 0, .ref x5, .ref x6, .ref x7, .ref x8, .ref x9, .ref x10, .ref x11, .int 0, .ref x12, .int 0, .ref x13, .ref x14, .ref x15, .ref x16, .null, .long 0, .long 0] hx16
  refine mx_heap (h' := va_up (va_up h15 x16 (some (.inl (G.2 0, 60, .inl (fun _ => 0))))) o (some (.inr (9, [.int 0, .int 0, .ref x1, .ref x2, .ref x3, .ref x4, .int 0, .int 0, .ref x5, .ref x6, .ref x7, .ref x8, .ref x9, .ref x10, .ref x11, .int 0, .ref x12, .int 0, .ref x13, .ref x14, .ref x15, .ref x16, .null, .long 0, .long 0])))) rfl ?_
  generalize va_up (va_up h15 x16 (some (.inl (G.2 0, 60, .inl (fun _ => 0))))) o (some (.inr (9, [.int 0, .int 0, .ref x1, .ref x2, .ref x3, .ref x4, .int 0, .int 0, .ref x5, .ref x6, .ref x7, .ref x8, .ref x9, .ref x10, .ref x11, .int 0, .ref x12, .int 0, .ref x13, .ref x14, .ref x15, .ref x16, .null, .long 0, .long 0]))) = h16 at A16 ⊢
  clear A15
  first | refine mx_aload_n C dX9_init_176 (pc' := 177) rfl rfl ?_ | refine mx_aload_nq C dX9_init_176 (pc' := 177) rfl rfl ?_
  refine mx_bipush C (v := nI 60) (by decide) dX9_init_177 (pc' := 179) rfl ?_
  refine mx_newai C (mx_in wd_arr_int rfl) (N := 60) (by rfl) (by decide) dX9_init_179 (pc' := 181) rfl (by decide) (by decide) ?_
  intro x17 hx17
  have nx17 : o ≠ x17 := fun z => by rw [← z, A16.2.1] at hx17; cases hx17
  refine pX9_61 C hnm dX9_init_181 (pc' := 184) rfl (by rw [va_up_ne _ _ nx17]; exact A16.2.1) (Nat.le_of_ble_eq_true rfl) rfl rfl (fs' := [_, _, _, _, _, _, _, _, _, _, _, _, _, _, _, _, _, _, _, _, _, _, _, _, _]) rfl ?_
  have A17 := A16.step (.inl (G.2 0, 60, .inl (fun _ => 0))) [.int 0, .int 0, .ref x1, .ref x2, .ref x3, .ref x4, .int 0, .int 0, .ref x5, .ref x6, .ref x7, .ref x8, .ref x9, .ref x10, .ref x11, .int 0, .ref x12, .int 0, .ref x13, .ref x14, .ref x15, .ref x16, .ref x17, .long 0, .long 0] hx17
  refine mx_heap (h' := va_up (va_up h16 x17 (some (.inl (G.2 0, 60, .inl (fun _ => 0))))) o (some (.inr (9, [.int 0, .int 0, .ref x1, .ref x2, .ref x3, .ref x4, .int 0, .int 0, .ref x5, .ref x6, .ref x7, .ref x8, .ref x9, .ref x10, .ref x11, .int 0, .ref x12, .int 0, .ref x13, .ref x14, .ref x15, .ref x16, .ref x17, .long 0, .long 0])))) rfl ?_
  generalize va_up (va_up h16 x17 (some (.inl (G.2 0, 60, .inl (fun _ => 0))))) o (some (.inr (9, [.int 0, .int 0, .ref x1, .ref x2, .ref x3, .ref x4, .int 0, .int 0, .ref x5, .ref x6, .ref x7, .ref x8, .ref x9, .ref x10, .ref x11, .int 0, .ref x12, .int 0, .ref x13, .ref x14, .ref x15, .ref x16, .ref x17, .long 0, .long 0]))) = h17 at A17 ⊢
  clear A16
  simp only [List.nil_append, List.cons_append] at A17
  obtain ⟨a1, a2, a3, a4, a5⟩ := A17
  have hm : ∀ q, q ∈ [x1, x2, x3, x4, x5, x6, x7, x8, x9, x10, x11, x12, x13, x14, x15, x16, x17] → h q = none := by
    intro q hq
    simp only [List.mem_cons, List.not_mem_nil, or_false] at hq
    rcases hq with e | e | e | e | e | e | e | e | e | e | e | e | e | e | e | e | e
    · rw [e]; exact (a3 (x1, .inl (G.2 0, 41, .inl (fun _ => 0))) (List.mem_of_getElem? (i := 0) rfl)).1
    · rw [e]; exact (a3 (x2, .inl (G.2 4, 41, .inl (fun _ => 0))) (List.mem_of_getElem? (i := 1) rfl)).1
    · rw [e]; exact (a3 (x3, .inl (G.2 0, 41, .inl (fun _ => 0))) (List.mem_of_getElem? (i := 2) rfl)).1
    · rw [e]; exact (a3 (x4, .inl (G.2 0, 41, .inl (fun _ => 0))) (List.mem_of_getElem? (i := 3) rfl)).1
    · rw [e]; exact (a3 (x5, .inl (G.2 0, 201, .inl (fun _ => 0))) (List.mem_of_getElem? (i := 4) rfl)).1
    · rw [e]; exact (a3 (x6, .inl (G.2 0, 201, .inl (fun _ => 0))) (List.mem_of_getElem? (i := 5) rfl)).1
    · rw [e]; exact (a3 (x7, .inl (G.2 3, 12060, .inl (fun _ => 0))) (List.mem_of_getElem? (i := 6) rfl)).1
    · rw [e]; exact (a3 (x8, .inl (G.2 0, 201, .inl (fun _ => 0))) (List.mem_of_getElem? (i := 7) rfl)).1
    · rw [e]; exact (a3 (x9, .inl (G.2 0, 5, .inl (upd (upd (upd (upd (upd (fun _ => 0) 0 (nI 1)) 1 (nI 1)) 2 (nI 1)) 3 (nI 1)) 4 (nI 1)))) (List.mem_of_getElem? (i := 8) rfl)).1
    · rw [e]; exact (a3 (x10, .inl (G.2 0, 5, .inl (upd (upd (upd (upd (upd (fun _ => 0) 0 (nI 1)) 1 (nI 1)) 2 (nI 1)) 3 (nI 1)) 4 (nI 1)))) (List.mem_of_getElem? (i := 9) rfl)).1
    · rw [e]; exact (a3 (x11, .inl (G.2 0, 40, .inl (fun _ => 0))) (List.mem_of_getElem? (i := 10) rfl)).1
    · rw [e]; exact (a3 (x12, .inl (G.2 1, 200, .inr (.inl (fun _ => 0)))) (List.mem_of_getElem? (i := 11) rfl)).1
    · rw [e]; exact (a3 (x13, .inl (G.2 1, 200, .inr (.inl (fun _ => 0)))) (List.mem_of_getElem? (i := 12) rfl)).1
    · rw [e]; exact (a3 (x14, .inl (G.2 0, 60, .inl (fun _ => 0))) (List.mem_of_getElem? (i := 13) rfl)).1
    · rw [e]; exact (a3 (x15, .inl (G.2 0, 60, .inl (fun _ => 0))) (List.mem_of_getElem? (i := 14) rfl)).1
    · rw [e]; exact (a3 (x16, .inl (G.2 0, 60, .inl (fun _ => 0))) (List.mem_of_getElem? (i := 15) rfl)).1
    · rw [e]; exact (a3 (x17, .inl (G.2 0, 60, .inl (fun _ => 0))) (List.mem_of_getElem? (i := 16) rfl)).1
  have nd : (o :: [x1, x2, x3, x4, x5, x6, x7, x8, x9, x10, x11, x12, x13, x14, x15, x16, x17]).Nodup := List.nodup_cons.mpr ⟨fun z => a1 (hm o z), a4⟩
  refine mx_vret C hr dX9_init_184 (by omega) (by omega) ⟨rfl, fun i => (o :: [x1, x2, x3, x4, x5, x6, x7, x8, x9, x10, x11, x12, x13, x14, x15, x16, x17]).getD i 0, rfl, ⟨si_0, inj_nd nd, a2, ?_, ?_, ?_, ?_, ?_⟩, ?_, fun a b1 b2 => ?_⟩
  · exact ⟨_, _, _, _, (a3 (x1, .inl (G.2 0, 41, .inl (fun _ => 0))) (List.mem_of_getElem? (i := 0) rfl)).2, (a3 (x2, .inl (G.2 4, 41, .inl (fun _ => 0))) (List.mem_of_getElem? (i := 1) rfl)).2, (a3 (x3, .inl (G.2 0, 41, .inl (fun _ => 0))) (List.mem_of_getElem? (i := 2) rfl)).2, (a3 (x4, .inl (G.2 0, 41, .inl (fun _ => 0))) (List.mem_of_getElem? (i := 3) rfl)).2, fun r _ _ => ⟨fun _ => rfl, rfl, rfl, rfl⟩⟩
  · exact ⟨_, _, _, _, (a3 (x5, .inl (G.2 0, 201, .inl (fun _ => 0))) (List.mem_of_getElem? (i := 4) rfl)).2, (a3 (x6, .inl (G.2 0, 201, .inl (fun _ => 0))) (List.mem_of_getElem? (i := 5) rfl)).2, (a3 (x7, .inl (G.2 3, 12060, .inl (fun _ => 0))) (List.mem_of_getElem? (i := 6) rfl)).2, (a3 (x8, .inl (G.2 0, 201, .inl (fun _ => 0))) (List.mem_of_getElem? (i := 7) rfl)).2, fun f f1 f2 => absurd (show f ≤ 0 from f2) (by omega), fun f _ _ => rfl, fun f f1 f2 => absurd (show f ≤ 0 from f2) (by omega)⟩
  · refine ⟨_, _, _, (a3 (x9, .inl (G.2 0, 5, .inl (upd (upd (upd (upd (upd (fun _ => 0) 0 (nI 1)) 1 (nI 1)) 2 (nI 1)) 3 (nI 1)) 4 (nI 1)))) (List.mem_of_getElem? (i := 8) rfl)).2, (a3 (x10, .inl (G.2 0, 5, .inl (upd (upd (upd (upd (upd (fun _ => 0) 0 (nI 1)) 1 (nI 1)) 2 (nI 1)) 3 (nI 1)) 4 (nI 1)))) (List.mem_of_getElem? (i := 9) rfl)).2, (a3 (x11, .inl (G.2 0, 40, .inl (fun _ => 0))) (List.mem_of_getElem? (i := 10) rfl)).2, fun q hq => ?_, fun i hi => absurd (show i < 0 from hi) (by omega)⟩
    match q, hq with
    | 0, _ => exact ⟨rfl, rfl⟩
    | 1, _ => exact ⟨rfl, rfl⟩
    | 2, _ => exact ⟨rfl, rfl⟩
    | 3, _ => exact ⟨rfl, rfl⟩
    | 4, _ => exact ⟨rfl, rfl⟩
    | q + 5, hq => exact absurd hq (by omega)
  · intro i i1 i2
    rcases (show i = 12 ∨ i = 13 by omega) with rfl | rfl
    · exact ⟨_, (a3 (x12, .inl (G.2 1, 200, .inr (.inl (fun _ => 0)))) (List.mem_of_getElem? (i := 11) rfl)).2⟩
    · exact ⟨_, (a3 (x13, .inl (G.2 1, 200, .inr (.inl (fun _ => 0)))) (List.mem_of_getElem? (i := 12) rfl)).2⟩
  · intro i i1 i2
    rcases (show i = 14 ∨ i = 15 ∨ i = 16 ∨ i = 17 by omega) with rfl | rfl | rfl | rfl
    · exact ⟨_, (a3 (x14, .inl (G.2 0, 60, .inl (fun _ => 0))) (List.mem_of_getElem? (i := 13) rfl)).2⟩
    · exact ⟨_, (a3 (x15, .inl (G.2 0, 60, .inl (fun _ => 0))) (List.mem_of_getElem? (i := 14) rfl)).2⟩
    · exact ⟨_, (a3 (x16, .inl (G.2 0, 60, .inl (fun _ => 0))) (List.mem_of_getElem? (i := 15) rfl)).2⟩
    · exact ⟨_, (a3 (x17, .inl (G.2 0, 60, .inl (fun _ => 0))) (List.mem_of_getElem? (i := 16) rfl)).2⟩
  · intro i i1 i2
    match i, i1, i2 with
    | 1, _, _ => exact hm x1 (List.mem_of_getElem? (i := 0) rfl)
    | 2, _, _ => exact hm x2 (List.mem_of_getElem? (i := 1) rfl)
    | 3, _, _ => exact hm x3 (List.mem_of_getElem? (i := 2) rfl)
    | 4, _, _ => exact hm x4 (List.mem_of_getElem? (i := 3) rfl)
    | 5, _, _ => exact hm x5 (List.mem_of_getElem? (i := 4) rfl)
    | 6, _, _ => exact hm x6 (List.mem_of_getElem? (i := 5) rfl)
    | 7, _, _ => exact hm x7 (List.mem_of_getElem? (i := 6) rfl)
    | 8, _, _ => exact hm x8 (List.mem_of_getElem? (i := 7) rfl)
    | 9, _, _ => exact hm x9 (List.mem_of_getElem? (i := 8) rfl)
    | 10, _, _ => exact hm x10 (List.mem_of_getElem? (i := 9) rfl)
    | 11, _, _ => exact hm x11 (List.mem_of_getElem? (i := 10) rfl)
    | 12, _, _ => exact hm x12 (List.mem_of_getElem? (i := 11) rfl)
    | 13, _, _ => exact hm x13 (List.mem_of_getElem? (i := 12) rfl)
    | 14, _, _ => exact hm x14 (List.mem_of_getElem? (i := 13) rfl)
    | 15, _, _ => exact hm x15 (List.mem_of_getElem? (i := 14) rfl)
    | 16, _, _ => exact hm x16 (List.mem_of_getElem? (i := 15) rfl)
    | 17, _, _ => exact hm x17 (List.mem_of_getElem? (i := 16) rfl)
    | i + 18, _, hi => exact absurd hi (by omega)
  · exact a5 a b2 (fun z => b1 (hm a z))
def Kl (o : Nat) (L : List Nat) : mxA := (fun i => (o :: L).getD i 0, fun _ => 0, fun _ => 0, fun _ => 0)
theorem c_X8_init (h : mx_H) {o : Nat} (ho : h o = some (.inr (8, [.null, .null, .int 0, .null, .null, .int 0, .null, .int 0, .null, .null, .null]))) : mx_M l G base yX8_init cX8_init 1 none 3 65 22 660 [.ref o] h (fun v h' => v = none ∧ ∃ A la ea mk, aK A 0 = o ∧ CI G A h' s0 la ea mk ∧ (∀ i, 1 ≤ i → i < 23 → h (aK A i) = none) ∧ ∀ a, h a ≠ none → a ≠ o → h' a = h a) := by
  have ho' : h o ≠ none := by rw [ho]; simp
  refine mx_enter (lo := [some (.ref o)]) (by decide) (mx_in wd_code_yX8_init rfl) (Nat.le_of_ble_eq_true rfl) rfl ?_
  intro p ev s mt args below meth cd C hr hnm
  have C : mx_C p s mt args meth cd cX8_init 1 RX8 G base := C
  first | refine mx_aload_n C dX8_init_0 (pc' := 1) rfl rfl ?_ | refine mx_aload_nq C dX8_init_0 (pc' := 1) rfl rfl ?_
  refine oX8_1 C dX8_init_1 (pc' := 4) rfl ⟨by decide, Nat.le_of_ble_eq_true rfl⟩ ?_
  first | refine mx_aload_n C dX8_init_4 (pc' := 5) rfl rfl ?_ | refine mx_aload_nq C dX8_init_4 (pc' := 5) rfl rfl ?_
  refine mx_bipush C (v := nI 40) (by decide) dX8_init_5 (pc' := 7) rfl ?_
  refine mx_newai C (mx_in wd_arr_int rfl) (N := 40) (by rfl) (by decide) dX8_init_7 (pc' := 9) rfl (by decide) (by decide) ?_
  intro k1 q1
  have t1 := NX.new (v := .inl (G.2 0, 40, .inl (fun _ => 0))) ho' q1
  have o1 : o ≠ k1 := fun z => by rw [← z] at q1; exact ho' q1
  refine pX8_9 C hnm dX8_init_9 (pc' := 12) rfl (by rw [va_up_ne _ _ o1]; exact ho) (Nat.le_of_ble_eq_true rfl) rfl rfl (fs' := [_, _, _, _, _, _, _, _, _, _, _]) rfl ?_
  have p1 := NX.put (h := va_up h k1 (some (.inl (G.2 0, 40, .inl (fun _ => 0))))) (a := o) (v := .inr (8, [.null, .null, .int 0, .null, .null, .int 0, .ref k1, .int 0, .null, .null, .null])) t1.2.2.2.2
  have t2 := t1.join p1 (Or.inl rfl)
  have f1 := p1.get (va_up_self _ _ _) (fun z => o1 z.symm)
  have b1 : va_up (va_up h k1 (some (.inl (G.2 0, 40, .inl (fun _ => 0))))) o (some (.inr (8, [.null, .null, .int 0, .null, .null, .int 0, .ref k1, .int 0, .null, .null, .null]))) o = some (.inr (8, [.null, .null, .int 0, .null, .null, .int 0, .ref k1, .int 0, .null, .null, .null])) := va_up_self _ _ _
  refine mx_heap (h' := va_up (va_up h k1 (some (.inl (G.2 0, 40, .inl (fun _ => 0))))) o (some (.inr (8, [.null, .null, .int 0, .null, .null, .int 0, .ref k1, .int 0, .null, .null, .null])))) rfl ?_
  generalize va_up (va_up h k1 (some (.inl (G.2 0, 40, .inl (fun _ => 0))))) o (some (.inr (8, [.null, .null, .int 0, .null, .null, .int 0, .ref k1, .int 0, .null, .null, .null]))) = h1 at *
  first | refine mx_aload_n C dX8_init_12 (pc' := 13) rfl rfl ?_ | refine mx_aload_nq C dX8_init_12 (pc' := 13) rfl rfl ?_
  refine nX8_13 C dX8_init_13 (pc' := 16) rfl (by decide) (by decide) ?_
  intro k2 q2
  have p2 := NX.new (v := .inr (2, [.null, .null])) t2.2.2.2.2 q2
  have t3 := t2.join p2 (Or.inl rfl)
  have o2 : o ≠ k2 := fun q => (t2.nw q2).2.1 q.symm
  have n2 : k1 ≠ k2 := fun q => (t2.nw q2).2.2 (by rw [← q]; simp)
  refine mx_dup C rfl dX8_init_16 (pc' := 17) rfl ?_
  refine cX8_15 C dX8_init_17 (pc' := 20) rfl (c_X2_init l G base _ (va_up_self _ _ _)) ⟨by decide, by decide, by decide, by decide, Nat.le_of_ble_eq_true rfl⟩ ?_
  rintro _ h2 ⟨rfl, k3, k4, k5, k6, k7, k8, s2, e2, ⟨F3, S3, N3, c3, w3⟩, V7, c7, y7, w7⟩
  have t4 := t3.join s2 (Or.inr (by simp))
  have b2 := s2.get (by rw [va_up_ne _ _ o2]; exact b1) o2
  have f2 := s2.get (p2.get f1 (fun z => o1 z.symm)) n2
  have t4 : NX h h2 o [k1, k2, k3, k4, k5, k6, k7, k8] := t4
  have na : ∀ q, q ∈ [k1, k2, k3, k4, k5, k6, k7, k8] → q ≠ o := fun q hq e => by have := (t4.1 q hq).1; rw [e] at this; exact ho' this
  first | refine pX8_16 C hnm dX8_init_20 (pc' := 23) rfl (b2) (Nat.le_of_ble_eq_true rfl) rfl rfl (fs' := [_, _, _, _, _, _, _, _, _, _, _]) rfl ?_ | refine pX8_16 C hnm dX8_init_20 (pc' := 23) rfl (b2) (Nat.le_of_ble_eq_true rfl) (mx_nrf _ _) (mx_frf _ _) (fs' := [_, _, _, _, _, _, _, _, _, _, _]) rfl ?_
  have p3 := NX.put (h := h2) (a := o) (v := .inr (8, [.null, .null, .int 0, .null, .null, .int 0, .ref k1, .int 0, .ref k2, .null, .null])) t4.2.2.2.2
  have t5 := t4.join p3 (Or.inl rfl)
  have f3 := p3.get f2 (na k1 (by simp))
  have g3 := p3.get e2 (na k2 (by simp))
  have w3a := w3.nx p3 (na k3 (by simp)) (na k4 (by simp)) (na k5 (by simp)) (na k6 (by simp))
  have w7a := w7.nx p3 (na k7 (by simp)) (na k8 (by simp))
  have b3 : va_up h2 o (some (.inr (8, [.null, .null, .int 0, .null, .null, .int 0, .ref k1, .int 0, .ref k2, .null, .null]))) o = some (.inr (8, [.null, .null, .int 0, .null, .null, .int 0, .ref k1, .int 0, .ref k2, .null, .null])) := va_up_self _ _ _
  refine mx_heap (h' := va_up h2 o (some (.inr (8, [.null, .null, .int 0, .null, .null, .int 0, .ref k1, .int 0, .ref k2, .null, .null])))) rfl ?_
  generalize va_up h2 o (some (.inr (8, [.null, .null, .int 0, .null, .null, .int 0, .ref k1, .int 0, .ref k2, .null, .null]))) = h3 at *
  first | refine mx_aload_n C dX8_init_23 (pc' := 24) rfl rfl ?_ | refine mx_aload_nq C dX8_init_23 (pc' := 24) rfl rfl ?_
  refine nX8_20 C dX8_init_24 (pc' := 27) rfl (by decide) (by decide) ?_
  intro k9 q9
  have p4 := NX.new (v := .inr (3, [.null, .int 0])) t5.2.2.2.2 q9
  have t6 := t5.join p4 (Or.inl rfl)
  have o9 : o ≠ k9 := fun q => (t5.nw q9).2.1 q.symm
  have t5 : NX h h3 o [k1, k2, k3, k4, k5, k6, k7, k8] := t5
  have n9 : ∀ q, q ∈ [k1, k2, k3, k4, k5, k6, k7, k8] → q ≠ k9 := fun q hq e => (t5.nw q9).2.2 (by rw [← e]; exact hq)
  refine mx_dup C rfl dX8_init_27 (pc' := 28) rfl ?_
  refine cX8_22 C dX8_init_28 (pc' := 31) rfl (c_X3_init l G base _ (va_up_self _ _ _)) ⟨by decide, by decide, by decide, by decide, Nat.le_of_ble_eq_true rfl⟩ ?_
  rintro _ h4 ⟨rfl, k10, s4, R, w9⟩
  have t7 := t6.join s4 (Or.inr (by simp))
  have b4 := s4.get (by rw [va_up_ne _ _ o9]; exact b3) o9
  have f4 := s4.get (p4.get f3 (na k1 (by simp))) (n9 k1 (by simp))
  have g4 := s4.get (p4.get g3 (na k2 (by simp))) (n9 k2 (by simp))
  have w3b := (w3a.nx p4 (na k3 (by simp)) (na k4 (by simp)) (na k5 (by simp)) (na k6 (by simp))).nx s4 (n9 k3 (by simp)) (n9 k4 (by simp)) (n9 k5 (by simp)) (n9 k6 (by simp))
  have w7b := (w7a.nx p4 (na k7 (by simp)) (na k8 (by simp))).nx s4 (n9 k7 (by simp)) (n9 k8 (by simp))
  have t7 : NX h h4 o [k1, k2, k3, k4, k5, k6, k7, k8, k9, k10] := t7
  have na2 : ∀ q, q ∈ [k9, k10] → q ≠ o := fun q hq e => by have := (t7.1 q (List.mem_append_right [k1, k2, k3, k4, k5, k6, k7, k8] hq)).1; rw [e] at this; exact ho' this
  first | refine pX8_23 C hnm dX8_init_31 (pc' := 34) rfl (b4) (Nat.le_of_ble_eq_true rfl) rfl rfl (fs' := [_, _, _, _, _, _, _, _, _, _, _]) rfl ?_ | refine pX8_23 C hnm dX8_init_31 (pc' := 34) rfl (b4) (Nat.le_of_ble_eq_true rfl) (mx_nrf _ _) (mx_frf _ _) (fs' := [_, _, _, _, _, _, _, _, _, _, _]) rfl ?_
  have p5 := NX.put (h := h4) (a := o) (v := .inr (8, [.null, .null, .int 0, .null, .null, .int 0, .ref k1, .int 0, .ref k2, .ref k9, .null])) t7.2.2.2.2
  have t8 := t7.join p5 (Or.inl rfl)
  have f5 := p5.get f4 (na k1 (by simp))
  have g5 := p5.get g4 (na k2 (by simp))
  have w3c := w3b.nx p5 (na k3 (by simp)) (na k4 (by simp)) (na k5 (by simp)) (na k6 (by simp))
  have w7c := w7b.nx p5 (na k7 (by simp)) (na k8 (by simp))
  have w9a := p5.get w9.2.2.1 (na2 k9 (by simp))
  have w9b := p5.get w9.2.2.2 (na2 k10 (by simp))
  have b5 : va_up h4 o (some (.inr (8, [.null, .null, .int 0, .null, .null, .int 0, .ref k1, .int 0, .ref k2, .ref k9, .null]))) o = some (.inr (8, [.null, .null, .int 0, .null, .null, .int 0, .ref k1, .int 0, .ref k2, .ref k9, .null])) := va_up_self _ _ _
  refine mx_heap (h' := va_up h4 o (some (.inr (8, [.null, .null, .int 0, .null, .null, .int 0, .ref k1, .int 0, .ref k2, .ref k9, .null])))) rfl ?_
  generalize va_up h4 o (some (.inr (8, [.null, .null, .int 0, .null, .null, .int 0, .ref k1, .int 0, .ref k2, .ref k9, .null]))) = h5 at *
  first | refine mx_aload_n C dX8_init_34 (pc' := 35) rfl rfl ?_ | refine mx_aload_nq C dX8_init_34 (pc' := 35) rfl rfl ?_
  refine nX8_27 C dX8_init_35 (pc' := 38) rfl (by decide) (by decide) ?_
  intro k11 q11
  have p6 := NX.new (v := .inr (4, [.null, .null, .null, .null, .long 0, .long 0, .long 0])) t8.2.2.2.2 q11
  have t9 := t8.join p6 (Or.inl rfl)
  have t8 : NX h h5 o [k1, k2, k3, k4, k5, k6, k7, k8, k9, k10] := t8
  have o11 : o ≠ k11 := fun q => (t8.nw q11).2.1 q.symm
  have n11 : ∀ q, q ∈ [k1, k2, k3, k4, k5, k6, k7, k8, k9, k10] → q ≠ k11 := fun q hq e => (t8.nw q11).2.2 (by rw [← e]; exact hq)
  refine mx_dup C rfl dX8_init_38 (pc' := 39) rfl ?_
  refine cX8_29 C dX8_init_39 (pc' := 42) rfl (c_X4_init l G base _ (va_up_self _ _ _)) ⟨by decide, by decide, by decide, by decide, Nat.le_of_ble_eq_true rfl⟩ ?_
  rintro _ h6 ⟨rfl, k12, k13, k14, k15, k16, k17, k18, k19, k20, k21, k22, s6, e6, ⟨W, w12, w12b⟩, ⟨F13, S13, N13, c13, w13⟩, ⟨F17, S17, N17, c17, w17⟩, V21, c21, y21, w21⟩
  have t10 := t9.join s6 (Or.inr (by simp))
  have b6 := s6.get (by rw [va_up_ne _ _ o11]; exact b5) o11
  have f6 := s6.get (p6.get f5 (na k1 (by simp))) (n11 k1 (by simp))
  have g6 := s6.get (p6.get g5 (na k2 (by simp))) (n11 k2 (by simp))
  have w3d := (w3c.nx p6 (na k3 (by simp)) (na k4 (by simp)) (na k5 (by simp)) (na k6 (by simp))).nx s6 (n11 k3 (by simp)) (n11 k4 (by simp)) (n11 k5 (by simp)) (n11 k6 (by simp))
  have w7d := (w7c.nx p6 (na k7 (by simp)) (na k8 (by simp))).nx s6 (n11 k7 (by simp)) (n11 k8 (by simp))
  have w9c := s6.get (p6.get w9a (na2 k9 (by simp))) (n11 k9 (by simp))
  have w9d := s6.get (p6.get w9b (na2 k10 (by simp))) (n11 k10 (by simp))
  have na3 : ∀ q, q ∈ [k12, k13, k14, k15, k16, k17, k18, k19, k20, k21, k22] → q ≠ o := fun q hq e => by have z := (s6.1 q hq).1; rw [e, va_up_ne _ _ o11, b5] at z; cases z
  first | refine pX8_30 C hnm dX8_init_42 (pc' := 45) rfl (b6) (Nat.le_of_ble_eq_true rfl) rfl rfl (fs' := [_, _, _, _, _, _, _, _, _, _, _]) rfl ?_ | refine pX8_30 C hnm dX8_init_42 (pc' := 45) rfl (b6) (Nat.le_of_ble_eq_true rfl) (mx_nrf _ _) (mx_frf _ _) (fs' := [_, _, _, _, _, _, _, _, _, _, _]) rfl ?_
  have p7 := NX.put (h := h6) (a := o) (v := .inr (8, [.null, .null, .int 0, .null, .null, .int 0, .ref k1, .int 0, .ref k2, .ref k9, .ref k11])) t10.2.2.2.2
  have t11 := t10.join p7 (Or.inl rfl)
  have t12 : NX h _ o [k1, k2, k3, k4, k5, k6, k7, k8, k9, k10, k11, k12, k13, k14, k15, k16, k17, k18, k19, k20, k21, k22] := t11
  have nd : (o :: [k1, k2, k3, k4, k5, k6, k7, k8, k9, k10, k11, k12, k13, k14, k15, k16, k17, k18, k19, k20, k21, k22]).Nodup := List.nodup_cons.mpr ⟨fun z => ho' (t12.1 o z).1, t12.2.1⟩
  refine mx_vret C hr dX8_init_45 (by omega) (by omega) ⟨rfl, Kl o [k1, k2, k3, k4, k5, k6, k7, k8, k9, k10, k11, k12, k13, k14, k15, k16, k17, k18, k19, k20, k21, k22], fun _ => 0, fun _ => 0, fun _ => false, rfl, ⟨si_0, ⟨inj_nd nd, fun f f1 f2 => absurd (show f ≤ 0 from f2) (by omega), fun f f' f1 f2 => absurd (show f ≤ 0 from f2) (by omega)⟩, va_up_self _ _ _, ⟨_, p7.get f6 (na k1 (by simp)), fun i hi => absurd (show i < 0 from hi) (by omega)⟩, ⟨p7.get g6 (na k2 (by simp)), ⟨F3, S3, N3, c3, w3d.nx p7 (na k3 (by simp)) (na k4 (by simp)) (na k5 (by simp)) (na k6 (by simp))⟩, V7, c7, y7, w7d.nx p7 (na k7 (by simp)) (na k8 (by simp))⟩, ⟨R, 0, w9.1, by omega, p7.get w9c (na2 k9 (by simp)), p7.get w9d (na2 k10 (by simp))⟩, ⟨⟨0, 0, 0, p7.get e6 (fun z => o11 z.symm)⟩, ⟨W, p7.get w12 (na3 k12 (by simp)), fun q hq => (w12b q hq).trans (congrArg lN (show 2520 = 1 * (2520 / 1) from rfl))⟩, ⟨F13, S13, N13, c13, w13.nx p7 (na3 k13 (by simp)) (na3 k14 (by simp)) (na3 k15 (by simp)) (na3 k16 (by simp))⟩, ⟨F17, S17, N17, c17, w17.nx p7 (na3 k17 (by simp)) (na3 k18 (by simp)) (na3 k19 (by simp)) (na3 k20 (by simp))⟩, V21, c21, y21, w21.nx p7 (na3 k21 (by simp)) (na3 k22 (by simp))⟩, fun r r1 r2 => absurd (show r ≤ 0 from r2) (by omega), fun f f1 f2 => absurd (show f ≤ 0 from f2) (by omega), ⟨fun r r1 r2 => absurd (show r ≤ 0 from r2) (by omega), fun r r1 r2 => absurd (show r ≤ 0 from r2) (by omega)⟩⟩, ?_, fun a b1 b2 => t12.2.2.1 a b1 b2⟩
  intro i i1 i2
  have hm : ∀ q, q ∈ [k1, k2, k3, k4, k5, k6, k7, k8, k9, k10, k11, k12, k13, k14, k15, k16, k17, k18, k19, k20, k21, k22] → h q = none := fun q hq => (t12.1 q hq).1
  match i, i1, i2 with
  | 1, _, _ => exact hm k1 (List.mem_of_getElem? (i := 0) rfl)
  | 2, _, _ => exact hm k2 (List.mem_of_getElem? (i := 1) rfl)
  | 3, _, _ => exact hm k3 (List.mem_of_getElem? (i := 2) rfl)
  | 4, _, _ => exact hm k4 (List.mem_of_getElem? (i := 3) rfl)
  | 5, _, _ => exact hm k5 (List.mem_of_getElem? (i := 4) rfl)
  | 6, _, _ => exact hm k6 (List.mem_of_getElem? (i := 5) rfl)
  | 7, _, _ => exact hm k7 (List.mem_of_getElem? (i := 6) rfl)
  | 8, _, _ => exact hm k8 (List.mem_of_getElem? (i := 7) rfl)
  | 9, _, _ => exact hm k9 (List.mem_of_getElem? (i := 8) rfl)
  | 10, _, _ => exact hm k10 (List.mem_of_getElem? (i := 9) rfl)
  | 11, _, _ => exact hm k11 (List.mem_of_getElem? (i := 10) rfl)
  | 12, _, _ => exact hm k12 (List.mem_of_getElem? (i := 11) rfl)
  | 13, _, _ => exact hm k13 (List.mem_of_getElem? (i := 12) rfl)
  | 14, _, _ => exact hm k14 (List.mem_of_getElem? (i := 13) rfl)
  | 15, _, _ => exact hm k15 (List.mem_of_getElem? (i := 14) rfl)
  | 16, _, _ => exact hm k16 (List.mem_of_getElem? (i := 15) rfl)
  | 17, _, _ => exact hm k17 (List.mem_of_getElem? (i := 16) rfl)
  | 18, _, _ => exact hm k18 (List.mem_of_getElem? (i := 17) rfl)
  | 19, _, _ => exact hm k19 (List.mem_of_getElem? (i := 18) rfl)
  | 20, _, _ => exact hm k20 (List.mem_of_getElem? (i := 19) rfl)
  | 21, _, _ => exact hm k21 (List.mem_of_getElem? (i := 20) rfl)
  | 22, _, _ => exact hm k22 (List.mem_of_getElem? (i := 21) rfl)
  | i + 23, _, hi => exact absurd hi (by omega)
end IT2
