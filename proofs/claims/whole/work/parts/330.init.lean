/-! compare; the constructors -/
section TS
variable {p : Program} {l : Launch} {e : Env} {R : Room} {s : State} {m : MethodId} {args : Array Value} {below : List Frame} {meth : Method} {c : Code} {cc : ByteArray} {own : String} {G : mx_G} {base nL : Nat} {Q : State → Prop} {h : mx_H} {kc ks pc : Nat} {lo : List (Option Value)} {st : List Value}
theorem mx_tabIn (C : mx_C p s m args meth c cc nL own G base) {dflt lw hi : Int} {offs : Array Int} {len : Nat} {x : Int32} {off : Int} {tgt : Nat} (hd : decode cc pc = .ok (.tableswitch dflt lw hi offs, len)) (h1 : ¬ x.toInt < lw) (h2 : ¬ hi < x.toInt) (ho : offs[(x.toInt - lw).toNat]? = some off) (ht : (pc : Int) + off = (tgt : Int)) (k : mx_V p l e R s m args below meth c G base nL Q h kc ks tgt lo st) : mx_V p l e R s m args below meth c G base nL Q h kc ks pc lo (.int x :: st) := fun H locs ls hR hS hL => lv_tableIn C.1 C.2.1 hd h1 h2 ho ht (k H locs ls hR hS hL)
theorem mx_tabOut (C : mx_C p s m args meth c cc nL own G base) {dflt lw hi : Int} {offs : Array Int} {len : Nat} {x : Int32} {tgt : Nat} (hd : decode cc pc = .ok (.tableswitch dflt lw hi offs, len)) (h1 : x.toInt < lw ∨ hi < x.toInt) (ht : (pc : Int) + dflt = (tgt : Int)) (k : mx_V p l e R s m args below meth c G base nL Q h kc ks tgt lo st) : mx_V p l e R s m args below meth c G base nL Q h kc ks pc lo (.int x :: st) := fun H locs ls hR hS hL => lv_tableOut C.1 C.2.1 hd h1 ht (k H locs ls hR hS hL)
end TS
/-- new cells L, and the object a itself; all else stays -/
def NX (h h' : mx_H) (a : Nat) (L : List Nat) : Prop := (∀ x, x ∈ L → h x = none ∧ h' x ≠ none) ∧ L.Nodup ∧ (∀ x, h x ≠ none → x ≠ a → h' x = h x) ∧ h a ≠ none ∧ h' a ≠ none
theorem NX.join {h h1 h2 : mx_H} {a b : Nat} {L1 L2 : List Nat} (x1 : NX h h1 a L1) (x2 : NX h1 h2 b L2) (hb : b = a ∨ b ∈ L1) : NX h h2 a (L1 ++ L2) := by
  obtain ⟨p1, p2, p3, p4, p5⟩ := x1
  obtain ⟨q1, q2, q3, q4, q5⟩ := x2
  refine ⟨fun x hx => ?_, ?_, fun x hx hne => ?_, p4, ?_⟩
  · rcases List.mem_append.mp hx with z | z
    · refine ⟨(p1 x z).1, ?_⟩
      by_cases e : x = b
      · rw [e]; exact q5
      · rw [q3 x (p1 x z).2 e]; exact (p1 x z).2
    · refine ⟨?_, (q1 x z).2⟩
      cases hv : h x with
      | none => rfl
      | some v =>
        by_cases e : x = a
        · have := (q1 x z).1
          rw [e] at this
          exact absurd this p5
        · have := p3 x (by rw [hv]; simp) e
          rw [(q1 x z).1, hv] at this
          cases this
  · rw [List.nodup_append]
    refine ⟨p2, q2, fun x hx y hy z => ?_⟩
    subst z
    exact (p1 x hx).2 (q1 x hy).1
  · have e1 := p3 x hx hne
    by_cases e : x = b
    · rcases hb with z | z
      · exact absurd (e.trans z) hne
      · have := (p1 b z).1
        rw [← e] at this
        exact absurd this hx
    · rw [q3 x (by rw [e1]; exact hx) e, e1]
  · by_cases e : a = b
    · rw [e]; exact q5
    · rw [q3 a p5 e]; exact p5
theorem NX.put {h : mx_H} {a : Nat} {v : va_E} (ha : h a ≠ none) : NX h (va_up h a (some v)) a [] := ⟨fun x hx => (by cases hx), List.nodup_nil, fun x _ hne => va_up_ne _ _ hne, ha, by rw [va_up_self]; simp⟩
theorem NX.new {h : mx_H} {a q : Nat} {v : va_E} (ha : h a ≠ none) (hq : h q = none) : NX h (va_up h q (some v)) a [q] := by
  have ne : ∀ x, h x ≠ none → x ≠ q := fun x hx z => hx (by rw [z]; exact hq)
  refine ⟨fun x hx => ?_, ?_, fun x hx _ => va_up_ne _ _ (ne x hx), ha, by rw [va_up_ne _ _ (ne a ha)]; exact ha⟩
  · rw [List.mem_singleton.mp hx]
    exact ⟨hq, by rw [va_up_self]; simp⟩
  · simp
theorem NX.get {h h' : mx_H} {a : Nat} {L : List Nat} (x : NX h h' a L) {y : Nat} {v : va_E} (hy : h y = some v) (hne : y ≠ a) : h' y = some v := by rw [x.2.2.1 y (by rw [hy]; simp) hne]; exact hy
theorem NX.nw {h h' : mx_H} {a q : Nat} {L : List Nat} (x : NX h h' a L) (hq : h' q = none) : h q = none ∧ q ≠ a ∧ q ∉ L := by
  refine ⟨?_, fun z => ?_, fun z => ?_⟩
  · cases hv : h q with
    | none => rfl
    | some v =>
      by_cases e : q = a
      · rw [e] at hq; exact absurd hq x.2.2.2.2
      · have := x.2.2.1 q (by rw [hv]; simp) e
        rw [hq, hv] at this
        cases this
  · rw [z] at hq; exact x.2.2.2.2 hq
  · exact (x.1 q z).2 hq
section IT
variable (l : Launch) (G : mx_G) (base : Nat)
set_option maxRecDepth 20000
theorem c_X4_compare (h : mx_H) {A : mxA} {σ : mxS} {la ea : Nat → Nat} {mk : Nat → Bool} (c : CI G A h σ la ea mk) {x : Nat × Nat × Nat} (hx : LK h (aK A) x) {p0 f g : Nat} (hp : p0 < 5) (hf : f ≤ st_k σ) (hg : g ≤ st_k σ) :
    mx_M l G base yX4_compare cX4_compare 4 none 5 110 0 0 [.ref (aK A 11), .int (nI p0), va_rf (pT A f), va_rf (pT A g)] h (fun v h' => v = none ∧ CI G A h' σ la ea mk ∧ OUT A σ h h' ∧ LK h' (aK A) (if f ≠ 0 ∧ g ≠ 0 then lad x (pfC p0 (st_sg σ f) (st_sz σ f) (st_sg σ g) (st_sz σ g)) (wgt σ p0) else x)) := by
  by_cases ef : f = 0
  · rw [ef, pT_0, if_neg (fun z => z.1 rfl)]
    by_cases eg : g = 0
    · rw [eg, pT_0]
      refine mx_enter (lo := [some (.ref (aK A 11)), some (.int (nI p0)), some (va_rf none), some (va_rf none)]) (by decide) (mx_in wd_code_yX4_compare rfl) (Nat.le_of_ble_eq_true rfl) rfl ?_
      intro p ev s mt args below meth cd C hr hnm
      have C : mx_C p s mt args meth cd cX4_compare 4 RX4 G base := C
      first | refine mx_aload_n C dX4_compare_0 (pc' := 1) rfl rfl ?_ | refine mx_aload_nq C dX4_compare_0 (pc' := 1) rfl rfl ?_
      refine mx_ifnull C dX4_compare_1 (tgt := 8) (by decide) (pc' := 4) rfl (fun h1 => ?_) (fun h1_a h1 => ?_)
      · skip
        exact mx_vret C hr dX4_compare_8 (by omega) (by omega) (⟨rfl, c, OUT.rf, hx⟩)
      · cases h1
    · rw [pT_s eg]
      refine mx_enter (lo := [some (.ref (aK A 11)), some (.int (nI p0)), some (va_rf none), some (.ref (aT A g))]) (by decide) (mx_in wd_code_yX4_compare rfl) (Nat.le_of_ble_eq_true rfl) rfl ?_
      intro p ev s mt args below meth cd C hr hnm
      have C : mx_C p s mt args meth cd cX4_compare 4 RX4 G base := C
      first | refine mx_aload_n C dX4_compare_0 (pc' := 1) rfl rfl ?_ | refine mx_aload_nq C dX4_compare_0 (pc' := 1) rfl rfl ?_
      refine mx_ifnull C dX4_compare_1 (tgt := 8) (by decide) (pc' := 4) rfl (fun h1 => ?_) (fun h1_a h1 => ?_)
      · skip
        exact mx_vret C hr dX4_compare_8 (by omega) (by omega) (⟨rfl, c, OUT.rf, hx⟩)
      · cases h1
  by_cases eg : g = 0
  · rw [eg, pT_0, pT_s ef, if_neg (fun z => z.2 rfl)]
    refine mx_enter (lo := [some (.ref (aK A 11)), some (.int (nI p0)), some (va_rf (some (aT A f))), some (va_rf none)]) (by decide) (mx_in wd_code_yX4_compare rfl) (Nat.le_of_ble_eq_true rfl) rfl ?_
    intro p ev s mt args below meth cd C hr hnm
    have C : mx_C p s mt args meth cd cX4_compare 4 RX4 G base := C
    first | refine mx_aload_n C dX4_compare_0 (pc' := 1) rfl rfl ?_ | refine mx_aload_nq C dX4_compare_0 (pc' := 1) rfl rfl ?_
    refine mx_stk (st' := [va_rf (some (aT A f))]) rfl ?_
    refine mx_ifnull C dX4_compare_1 (tgt := 8) (by decide) (pc' := 4) rfl (fun h1 => ?_) (fun h1_a h1 => ?_)
    · cases h1
    first | refine mx_aload_n C dX4_compare_4 (pc' := 5) rfl rfl ?_ | refine mx_aload_nq C dX4_compare_4 (pc' := 5) rfl rfl ?_
    refine mx_ifnonnull C dX4_compare_5 (tgt := 9) (by decide) (pc' := 8) rfl (fun h5_a h5 => ?_) (fun h5 => ?_)
    · cases h5
    · skip
      exact mx_vret C hr dX4_compare_8 (by omega) (by omega) (⟨rfl, c, OUT.rf, hx⟩)
  rw [pT_s ef, pT_s eg, if_pos ⟨ef, eg⟩]
  have f1 : 1 ≤ f := by omega
  have g1 : 1 ≤ g := by omega
  have Bf := c.2.2.2.2.2.2.2.2.1 f f1 hf
  have Bg := c.2.2.2.2.2.2.2.2.1 g g1 hg
  have n1 := nm_lt (st_sg σ f) (st_sz σ f)
  have n2 := nm_lt (st_sg σ g) (st_sz σ g)
  refine mx_enter (lo := [some (.ref (aK A 11)), some (.int (nI p0)), some (va_rf (some (aT A f))), some (va_rf (some (aT A g)))]) (by decide) (mx_in wd_code_yX4_compare rfl) (Nat.le_of_ble_eq_true rfl) rfl ?_
  intro p ev s mt args below meth cd C hr hnm
  have C : mx_C p s mt args meth cd cX4_compare 4 RX4 G base := C
  first | refine mx_aload_n C dX4_compare_0 (pc' := 1) rfl rfl ?_ | refine mx_aload_nq C dX4_compare_0 (pc' := 1) rfl rfl ?_
  refine mx_stk (st' := [va_rf (some (aT A f))]) rfl ?_
  refine mx_ifnull C dX4_compare_1 (tgt := 8) (by decide) (pc' := 4) rfl (fun h1 => ?_) (fun h1_a h1 => ?_)
  · cases h1
  first | refine mx_aload_n C dX4_compare_4 (pc' := 5) rfl rfl ?_ | refine mx_aload_nq C dX4_compare_4 (pc' := 5) rfl rfl ?_
  refine mx_stk (st' := [va_rf (some (aT A g))]) rfl ?_
  refine mx_ifnonnull C dX4_compare_5 (tgt := 9) (by decide) (pc' := 8) rfl (fun h5_a h5 => ?_) (fun h5 => ?_)
  rotate_left
  · cases h5
  refine mx_iload_n C dX4_compare_9 (pc' := 10) rfl rfl ?_
  match p0, hp with
  | 0, _ =>
    refine mx_tabIn C dX4_compare_10 (by decide) (by decide) (off := 34) (by decide) (tgt := 44) (by decide) ?_
    first | refine mx_aload_n C dX4_compare_44 (pc' := 45) rfl rfl ?_ | refine mx_aload_nq C dX4_compare_44 (pc' := 45) rfl rfl ?_
    first | refine mx_aload_n C dX4_compare_45 (pc' := 46) rfl rfl ?_ | refine mx_aload_nq C dX4_compare_45 (pc' := 46) rfl rfl ?_
    first | refine mx_aload_n C dX4_compare_46 (pc' := 47) rfl rfl ?_ | refine mx_aload_nq C dX4_compare_46 (pc' := 47) rfl rfl ?_
    refine cX4_44 C dX4_compare_47 (pc' := 50) rfl (hx) (c_X4_compareTitles l G base h c hx f1 hf g1 hg) ⟨by decide, by decide, by decide, by decide, Nat.le_of_ble_eq_true rfl⟩ ?_
    rintro _ h9 ⟨rfl, c9, o9, l9⟩
    refine mx_goto C dX4_compare_50 (tgt := 101) (by decide) ?_
    exact mx_vret C hr dX4_compare_101 (by omega) (by omega) (⟨rfl, c9, o9, l9⟩)
  | 1, _ =>
    refine mx_tabIn C dX4_compare_10 (by decide) (by decide) (off := 43) (by decide) (tgt := 53) (by decide) ?_
    first | refine mx_aload_n C dX4_compare_53 (pc' := 54) rfl rfl ?_ | refine mx_aload_nq C dX4_compare_53 (pc' := 54) rfl rfl ?_
    first | refine mx_aload_n C dX4_compare_54 (pc' := 55) rfl rfl ?_ | refine mx_aload_nq C dX4_compare_54 (pc' := 55) rfl rfl ?_
    refine cX4_48 C dX4_compare_55 (pc' := 58) rfl (Bf.2.1) (c_X6_lastFourDigits l G base h Bf) ⟨by decide, by decide, by decide, by decide, Nat.le_of_ble_eq_true rfl⟩ ?_
    rintro _ _ ⟨rfl, rfl⟩
    first | refine mx_aload_n C dX4_compare_58 (pc' := 59) rfl rfl ?_ | refine mx_aload_nq C dX4_compare_58 (pc' := 59) rfl rfl ?_
    refine cX4_48 C dX4_compare_59 (pc' := 62) rfl (Bg.2.1) (c_X6_lastFourDigits l G base h Bg) ⟨by decide, by decide, by decide, by decide, Nat.le_of_ble_eq_true rfl⟩ ?_
    rintro _ _ ⟨rfl, rfl⟩
    refine cX4_54 C dX4_compare_62 (pc' := 65) rfl (hx) (c_X4_compareYears l G base h c hx n1 n2) ⟨by decide, by decide, by decide, by decide, Nat.le_of_ble_eq_true rfl⟩ ?_
    rintro _ h9 ⟨rfl, c9, o9, l9⟩
    refine mx_goto C dX4_compare_65 (tgt := 101) (by decide) ?_
    exact mx_vret C hr dX4_compare_101 (by omega) (by omega) (⟨rfl, c9, o9, l9⟩)
  | 2, _ =>
    refine mx_tabIn C dX4_compare_10 (by decide) (by decide) (off := 58) (by decide) (tgt := 68) (by decide) ?_
    first | refine mx_aload_n C dX4_compare_68 (pc' := 69) rfl rfl ?_ | refine mx_aload_nq C dX4_compare_68 (pc' := 69) rfl rfl ?_
    first | refine mx_aload_n C dX4_compare_69 (pc' := 70) rfl rfl ?_ | refine mx_aload_nq C dX4_compare_69 (pc' := 70) rfl rfl ?_
    first | refine mx_aload_n C dX4_compare_70 (pc' := 71) rfl rfl ?_ | refine mx_aload_nq C dX4_compare_70 (pc' := 71) rfl rfl ?_
    refine cX4_58 C dX4_compare_71 (pc' := 74) rfl (hx) (c_X4_compareBookNumbers l G base h c hx f1 hf g1 hg) ⟨by decide, by decide, by decide, by decide, Nat.le_of_ble_eq_true rfl⟩ ?_
    rintro _ h9 ⟨rfl, c9, o9, l9⟩
    refine mx_goto C dX4_compare_74 (tgt := 101) (by decide) ?_
    exact mx_vret C hr dX4_compare_101 (by omega) (by omega) (⟨rfl, c9, o9, l9⟩)
  | 3, _ =>
    refine mx_tabIn C dX4_compare_10 (by decide) (by decide) (off := 67) (by decide) (tgt := 77) (by decide) ?_
    first | refine mx_aload_n C dX4_compare_77 (pc' := 78) rfl rfl ?_ | refine mx_aload_nq C dX4_compare_77 (pc' := 78) rfl rfl ?_
    first | refine mx_aload_n C dX4_compare_78 (pc' := 79) rfl rfl ?_ | refine mx_aload_nq C dX4_compare_78 (pc' := 79) rfl rfl ?_
    first | refine mx_aload_n C dX4_compare_79 (pc' := 80) rfl rfl ?_ | refine mx_aload_nq C dX4_compare_79 (pc' := 80) rfl rfl ?_
    refine cX4_61 C dX4_compare_80 (pc' := 83) rfl (hx) (c_X4_comparePublishers l G base h c hx f1 hf g1 hg) ⟨by decide, by decide, by decide, by decide, Nat.le_of_ble_eq_true rfl⟩ ?_
    rintro _ h9 ⟨rfl, c9, o9, l9⟩
    refine mx_goto C dX4_compare_83 (tgt := 101) (by decide) ?_
    exact mx_vret C hr dX4_compare_101 (by omega) (by omega) (⟨rfl, c9, o9, l9⟩)
  | 4, _ =>
    refine mx_tabIn C dX4_compare_10 (by decide) (by decide) (off := 76) (by decide) (tgt := 86) (by decide) ?_
    first | refine mx_aload_n C dX4_compare_86 (pc' := 87) rfl rfl ?_ | refine mx_aload_nq C dX4_compare_86 (pc' := 87) rfl rfl ?_
    first | refine mx_aload_n C dX4_compare_87 (pc' := 88) rfl rfl ?_ | refine mx_aload_nq C dX4_compare_87 (pc' := 88) rfl rfl ?_
    refine cX4_48 C dX4_compare_88 (pc' := 91) rfl (Bf.2.1) (c_X6_lastFourDigits l G base h Bf) ⟨by decide, by decide, by decide, by decide, Nat.le_of_ble_eq_true rfl⟩ ?_
    rintro _ _ ⟨rfl, rfl⟩
    first | refine mx_aload_n C dX4_compare_91 (pc' := 92) rfl rfl ?_ | refine mx_aload_nq C dX4_compare_91 (pc' := 92) rfl rfl ?_
    refine cX4_48 C dX4_compare_92 (pc' := 95) rfl (Bg.2.1) (c_X6_lastFourDigits l G base h Bg) ⟨by decide, by decide, by decide, by decide, Nat.le_of_ble_eq_true rfl⟩ ?_
    rintro _ _ ⟨rfl, rfl⟩
    refine cX4_64 C dX4_compare_95 (pc' := 98) rfl (hx) (c_X4_comparePages l G base h c hx n1 n2) ⟨by decide, by decide, by decide, by decide, Nat.le_of_ble_eq_true rfl⟩ ?_
    rintro _ h9 ⟨rfl, c9, o9, l9⟩
    refine mx_goto C dX4_compare_98 (tgt := 101) (by decide) ?_
    exact mx_vret C hr dX4_compare_101 (by omega) (by omega) (⟨rfl, c9, o9, l9⟩)
  | n + 5, hp => exact absurd hp (by omega)
theorem c_X7_init (h : mx_H) {a : Nat} (ha : h a = some (.inr (7, [.null, .null, .null, .int 0]))) : mx_M l G base yX7_init cX7_init 1 none 1 24 3 120 [.ref a] h (fun v h' => v = none ∧ ∃ x y z, NX h h' a [x, y, z] ∧ ∃ F S N c, wo_at G h' a x y z F S N c) := by
  have ha' : h a ≠ none := by rw [ha]; simp
  refine mx_enter (lo := [some (.ref a)]) (by decide) (mx_in wd_code_yX7_init rfl) (Nat.le_of_ble_eq_true rfl) rfl ?_
  intro p ev s mt args below meth cd C hr hnm
  have C : mx_C p s mt args meth cd cX7_init 1 RX7 G base := C
  first | refine mx_aload_n C dX7_init_0 (pc' := 1) rfl rfl ?_ | refine mx_aload_nq C dX7_init_0 (pc' := 1) rfl rfl ?_
  refine oX7_3 C dX7_init_1 (pc' := 4) rfl ⟨by decide, Nat.le_of_ble_eq_true rfl⟩ ?_
  first | refine mx_aload_n C dX7_init_4 (pc' := 5) rfl rfl ?_ | refine mx_aload_nq C dX7_init_4 (pc' := 5) rfl rfl ?_
  refine mx_bipush C (v := nI 60) (by decide) dX7_init_5 (pc' := 7) rfl ?_
  refine mx_newac C (mx_in wd_arr_char rfl) (N := 60) (by rfl) (by decide) dX7_init_7 (pc' := 9) rfl (by decide) (by decide) ?_
  intro x hx
  have t1 := NX.new (v := .inl (G.2 2, 60, .inl (fun _ => 0))) ha' hx
  have ax : a ≠ x := fun z => by rw [← z] at hx; exact ha' hx
  refine pX7_9 C hnm dX7_init_9 (pc' := 12) rfl (by rw [va_up_ne _ _ ax]; exact ha) (Nat.le_of_ble_eq_true rfl) rfl rfl (fs' := [_, _, _, _]) rfl ?_
  have t2 := t1.join (NX.put (v := .inr (7, [.ref x, .null, .null, .int 0])) t1.2.2.2.2) (Or.inl rfl)
  first | refine mx_aload_n C dX7_init_12 (pc' := 13) rfl rfl ?_ | refine mx_aload_nq C dX7_init_12 (pc' := 13) rfl rfl ?_
  refine mx_bipush C (v := nI 30) (by decide) dX7_init_13 (pc' := 15) rfl ?_
  refine mx_newai C (mx_in wd_arr_int rfl) (N := 30) (by rfl) (by decide) dX7_init_15 (pc' := 17) rfl (by decide) (by decide) ?_
  intro y hy
  have ay : a ≠ y := fun z => (t2.nw hy).2.1 z.symm
  have yx : y ≠ x := fun z => (t2.nw hy).2.2 (by rw [z]; simp)
  have t3 := t2.join (NX.new (v := .inl (G.2 0, 30, .inl (fun _ => 0))) t2.2.2.2.2 hy) (Or.inl rfl)
  refine pX7_15 C hnm dX7_init_17 (pc' := 20) rfl (by rw [va_up_ne _ _ ay, va_up_self]) (Nat.le_of_ble_eq_true rfl) rfl rfl (fs' := [_, _, _, _]) rfl ?_
  have t4 := t3.join (NX.put (v := .inr (7, [.ref x, .ref y, .null, .int 0])) t3.2.2.2.2) (Or.inl rfl)
  first | refine mx_aload_n C dX7_init_20 (pc' := 21) rfl rfl ?_ | refine mx_aload_nq C dX7_init_20 (pc' := 21) rfl rfl ?_
  refine mx_bipush C (v := nI 30) (by decide) dX7_init_21 (pc' := 23) rfl ?_
  refine mx_newai C (mx_in wd_arr_int rfl) (N := 30) (by rfl) (by decide) dX7_init_23 (pc' := 25) rfl (by decide) (by decide) ?_
  intro z hz
  have az : a ≠ z := fun w => (t4.nw hz).2.1 w.symm
  have zx : z ≠ x := fun w => (t4.nw hz).2.2 (by rw [w]; simp)
  have zy : z ≠ y := fun w => (t4.nw hz).2.2 (by rw [w]; simp)
  have t5 := t4.join (NX.new (v := .inl (G.2 0, 30, .inl (fun _ => 0))) t4.2.2.2.2 hz) (Or.inl rfl)
  refine pX7_19 C hnm dX7_init_25 (pc' := 28) rfl (by rw [va_up_ne _ _ az, va_up_self]) (Nat.le_of_ble_eq_true rfl) rfl rfl (fs' := [_, _, _, _]) rfl ?_
  have t6 := t5.join (NX.put (v := .inr (7, [.ref x, .ref y, .ref z, .int 0])) t5.2.2.2.2) (Or.inl rfl)
  refine mx_vret C hr dX7_init_28 (by omega) (by omega) ⟨rfl, x, y, z, t6, fun _ => 0, fun _ => 0, fun _ => 0, 0, ⟨ax, ay, az, fun w => yx w.symm, fun w => zx w.symm, fun w => zy w.symm⟩, va_up_self _ _ _, ?_, ?_, ?_⟩
  · rw [va_up_ne _ _ (fun w => ax w.symm), va_up_ne _ _ (fun w => zx w.symm), va_up_ne _ _ (fun w => ax w.symm), va_up_ne _ _ (fun w => yx w.symm), va_up_ne _ _ (fun w => ax w.symm), va_up_self]
  · rw [va_up_ne _ _ (fun w => ay w.symm), va_up_ne _ _ (fun w => zy w.symm), va_up_ne _ _ (fun w => ay w.symm), va_up_self]
  · rw [va_up_ne _ _ (fun w => az w.symm), va_up_self]
theorem c_X1_init (h : mx_H) {a : Nat} (ha : h a = some (.inr (1, [.null, .int 0, .int 0]))) : mx_M l G base yX1_init cX1_init 1 none 1 24 1 13 [.ref a] h (fun v h' => v = none ∧ ∃ x, NX h h' a [x] ∧ ∃ V c y, bo_at G h' a x V c y) := by
  have ha' : h a ≠ none := by rw [ha]; simp
  refine mx_enter (lo := [some (.ref a)]) (by decide) (mx_in wd_code_yX1_init rfl) (Nat.le_of_ble_eq_true rfl) rfl ?_
  intro p ev s mt args below meth cd C hr hnm
  have C : mx_C p s mt args meth cd cX1_init 1 RX1 G base := C
  first | refine mx_aload_n C dX1_init_0 (pc' := 1) rfl rfl ?_ | refine mx_aload_nq C dX1_init_0 (pc' := 1) rfl rfl ?_
  refine oX1_3 C dX1_init_1 (pc' := 4) rfl ⟨by decide, Nat.le_of_ble_eq_true rfl⟩ ?_
  first | refine mx_aload_n C dX1_init_4 (pc' := 5) rfl rfl ?_ | refine mx_aload_nq C dX1_init_4 (pc' := 5) rfl rfl ?_
  refine mx_bipush C (v := nI 13) (by decide) dX1_init_5 (pc' := 7) rfl ?_
  refine mx_newai C (mx_in wd_arr_int rfl) (N := 13) (by rfl) (by decide) dX1_init_7 (pc' := 9) rfl (by decide) (by decide) ?_
  intro x hx
  have t1 := NX.new (v := .inl (G.2 0, 13, .inl (fun _ => 0))) ha' hx
  have ax : a ≠ x := fun z => by rw [← z] at hx; exact ha' hx
  refine pX1_11 C hnm dX1_init_9 (pc' := 12) rfl (by rw [va_up_ne _ _ ax]; exact ha) (Nat.le_of_ble_eq_true rfl) rfl rfl (fs' := [_, _, _]) rfl ?_
  have t2 := t1.join (NX.put (v := .inr (1, [.ref x, .int 0, .int 0])) t1.2.2.2.2) (Or.inl rfl)
  refine mx_vret C hr dX1_init_12 (by omega) (by omega) ⟨rfl, x, t2, fun _ => 0, 0, false, ax, va_up_self _ _ _, ?_⟩
  rw [va_up_ne _ _ (fun w => ax w.symm), va_up_self]
theorem c_X3_init (h : mx_H) {a : Nat} (ha : h a = some (.inr (3, [.null, .int 0]))) : mx_M l G base yX3_init cX3_init 1 none 1 24 1 200 [.ref a] h (fun v h' => v = none ∧ ∃ x, NX h h' a [x] ∧ ∃ R, ko_at G h' a x R 0) := by
  have ha' : h a ≠ none := by rw [ha]; simp
  refine mx_enter (lo := [some (.ref a)]) (by decide) (mx_in wd_code_yX3_init rfl) (Nat.le_of_ble_eq_true rfl) rfl ?_
  intro p ev s mt args below meth cd C hr hnm
  have C : mx_C p s mt args meth cd cX3_init 1 RX3 G base := C
  first | refine mx_aload_n C dX3_init_0 (pc' := 1) rfl rfl ?_ | refine mx_aload_nq C dX3_init_0 (pc' := 1) rfl rfl ?_
  refine oX3_3 C dX3_init_1 (pc' := 4) rfl ⟨by decide, Nat.le_of_ble_eq_true rfl⟩ ?_
  first | refine mx_aload_n C dX3_init_4 (pc' := 5) rfl rfl ?_ | refine mx_aload_nq C dX3_init_4 (pc' := 5) rfl rfl ?_
  refine mx_sipush C (v := nI 200) (by decide) dX3_init_5 (pc' := 8) rfl ?_
  refine mx_newal C (mx_in wd_arr_long rfl) (N := 200) (by rfl) (by decide) dX3_init_8 (pc' := 10) rfl (by decide) (by decide) ?_
  intro x hx
  have t1 := NX.new (v := .inl (G.2 1, 200, .inr (.inl (fun _ => 0)))) ha' hx
  have ax : a ≠ x := fun z => by rw [← z] at hx; exact ha' hx
  refine pX3_9 C hnm dX3_init_10 (pc' := 13) rfl (by rw [va_up_ne _ _ ax]; exact ha) (Nat.le_of_ble_eq_true rfl) rfl rfl (fs' := [_, _]) rfl ?_
  have t2 := t1.join (NX.put (v := .inr (3, [.ref x, .int 0])) t1.2.2.2.2) (Or.inl rfl)
  refine mx_vret C hr dX3_init_13 (by omega) (by omega) ⟨rfl, x, t2, fun _ => 0, ax, by omega, va_up_self _ _ _, ?_⟩
  rw [va_up_ne _ _ (fun w => ax w.symm), va_up_self]
theorem wo_at.nx {G : mx_G} {h h' : mx_H} {w x y z a : Nat} {L : List Nat} {F S N : Nat → Int32} {c : Int32} (hw : wo_at G h w x y z F S N c) (t : NX h h' a L) (h1 : w ≠ a) (h2 : x ≠ a) (h3 : y ≠ a) (h4 : z ≠ a) : wo_at G h' w x y z F S N c := ⟨hw.1, t.get hw.2.1 h1, t.get hw.2.2.1 h2, t.get hw.2.2.2.1 h3, t.get hw.2.2.2.2 h4⟩
theorem bo_at.nx {G : mx_G} {h h' : mx_H} {w x a : Nat} {L : List Nat} {V : Nat → Int32} {c : Int32} {y : Bool} (hw : bo_at G h w x V c y) (t : NX h h' a L) (h1 : w ≠ a) (h2 : x ≠ a) : bo_at G h' w x V c y := ⟨hw.1, t.get hw.2.1 h1, t.get hw.2.2 h2⟩
theorem c_X2_init (h : mx_H) {a : Nat} (ha : h a = some (.inr (2, [.null, .null]))) : mx_M l G base yX2_init cX2_init 1 none 2 44 6 140 [.ref a] h (fun v h' => v = none ∧ ∃ w x y z b u, NX h h' a [w, x, y, z, b, u] ∧ h' a = some (.inr (2, [.ref w, .ref b])) ∧ (∃ F S N c, wo_at G h' w x y z F S N c) ∧ ∃ V c t, bo_at G h' b u V c t) := by
  have ha' : h a ≠ none := by rw [ha]; simp
  refine mx_enter (lo := [some (.ref a)]) (by decide) (mx_in wd_code_yX2_init rfl) (Nat.le_of_ble_eq_true rfl) rfl ?_
  intro p ev s mt args below meth cd C hr hnm
  have C : mx_C p s mt args meth cd cX2_init 1 RX2 G base := C
  first | refine mx_aload_n C dX2_init_0 (pc' := 1) rfl rfl ?_ | refine mx_aload_nq C dX2_init_0 (pc' := 1) rfl rfl ?_
  refine oX2_3 C dX2_init_1 (pc' := 4) rfl ⟨by decide, Nat.le_of_ble_eq_true rfl⟩ ?_
  first | refine mx_aload_n C dX2_init_4 (pc' := 5) rfl rfl ?_ | refine mx_aload_nq C dX2_init_4 (pc' := 5) rfl rfl ?_
  refine nX2_9 C dX2_init_5 (pc' := 8) rfl (by decide) (by decide) ?_
  intro w hw
  have t1 := NX.new (v := .inr (7, [.null, .null, .null, .int 0])) ha' hw
  have aw : a ≠ w := fun z => by rw [← z] at hw; exact ha' hw
  refine mx_dup C rfl dX2_init_8 (pc' := 9) rfl ?_
  refine cX2_11 C dX2_init_9 (pc' := 12) rfl (c_X7_init l G base _ (va_up_self _ _ _)) ⟨by decide, by decide, by decide, by decide, Nat.le_of_ble_eq_true rfl⟩ ?_
  rintro _ h1 ⟨rfl, x, y, z, s1, F, S, N, n, hwo⟩
  have t2 := t1.join s1 (Or.inr (by simp))
  have a1 : h1 a = some (.inr (2, [.null, .null])) := s1.get (by rw [va_up_ne _ _ aw]; exact ha) aw
  have xa : x ≠ a := fun q => by have := (t2.1 x (by simp)).1; rw [q] at this; exact ha' this
  have ya : y ≠ a := fun q => by have := (t2.1 y (by simp)).1; rw [q] at this; exact ha' this
  have za : z ≠ a := fun q => by have := (t2.1 z (by simp)).1; rw [q] at this; exact ha' this
  first | refine pX2_12 C hnm dX2_init_12 (pc' := 15) rfl (a1) (Nat.le_of_ble_eq_true rfl) rfl rfl (fs' := [_, _]) rfl ?_ | refine pX2_12 C hnm dX2_init_12 (pc' := 15) rfl (a1) (Nat.le_of_ble_eq_true rfl) (mx_nrf _ _) (mx_frf _ _) (fs' := [_, _]) rfl ?_
  have p1 := NX.put (h := h1) (a := a) (v := .inr (2, [.ref w, .null])) t2.2.2.2.2
  have t3 := t2.join p1 (Or.inl rfl)
  have hwo1 := hwo.nx p1 (fun q => aw q.symm) xa ya za
  first | refine mx_aload_n C dX2_init_15 (pc' := 16) rfl rfl ?_ | refine mx_aload_nq C dX2_init_15 (pc' := 16) rfl rfl ?_
  refine nX2_18 C dX2_init_16 (pc' := 19) rfl (by decide) (by decide) ?_
  intro b hb
  have p2 := NX.new (v := .inr (1, [.null, .int 0, .int 0])) t3.2.2.2.2 hb
  have t4 := t3.join p2 (Or.inl rfl)
  have ab : a ≠ b := fun q => (t3.nw hb).2.1 q.symm
  have hwo2 := hwo1.nx p2 (fun q => aw q.symm) xa ya za
  have nb : ∀ q, q ∈ [w, x, y, z] → q ≠ b := fun q hq e => (t3.nw hb).2.2 (by rw [← e]; simpa using hq)
  refine mx_dup C rfl dX2_init_19 (pc' := 20) rfl ?_
  refine cX2_20 C dX2_init_20 (pc' := 23) rfl (c_X1_init l G base _ (va_up_self _ _ _)) ⟨by decide, by decide, by decide, by decide, Nat.le_of_ble_eq_true rfl⟩ ?_
  rintro _ h2 ⟨rfl, u, s2, V, n2, t0, hbo⟩
  have t5 := t4.join s2 (Or.inr (by simp))
  have a2 : h2 a = some (.inr (2, [.ref w, .null])) := s2.get (by rw [va_up_ne _ _ ab, va_up_self]) ab
  have hwo3 := hwo2.nx s2 (nb w (by simp)) (nb x (by simp)) (nb y (by simp)) (nb z (by simp))
  have ua : u ≠ a := fun q => by have := (t5.1 u (by simp)).1; rw [q] at this; exact ha' this
  first | refine pX2_21 C hnm dX2_init_23 (pc' := 26) rfl (a2) (Nat.le_of_ble_eq_true rfl) rfl rfl (fs' := [_, _]) rfl ?_ | refine pX2_21 C hnm dX2_init_23 (pc' := 26) rfl (a2) (Nat.le_of_ble_eq_true rfl) (mx_nrf _ _) (mx_frf _ _) (fs' := [_, _]) rfl ?_
  have p3 := NX.put (h := h2) (a := a) (v := .inr (2, [.ref w, .ref b])) t5.2.2.2.2
  have t6 := t5.join p3 (Or.inl rfl)
  refine mx_vret C hr dX2_init_26 (by omega) (by omega) ⟨rfl, w, x, y, z, b, u, t6, va_up_self _ _ _, ⟨F, S, N, n, hwo3.nx p3 (fun q => aw q.symm) xa ya za⟩, V, n2, t0, hbo.nx p3 (fun q => ab q.symm) ua⟩
theorem c_X4_init (h : mx_H) {a : Nat} (ha : h a = some (.inr (4, [.null, .null, .null, .null, .long 0, .long 0, .long 0]))) : mx_M l G base yX4_init cX4_init 2 none 2 44 11 269 [.ref a] h (fun v h' => v = none ∧ ∃ g w x y z w2 x2 y2 z2 b u, NX h h' a [g, w, x, y, z, w2, x2, y2, z2, b, u] ∧ h' a = some (.inr (4, [.ref g, .ref w, .ref w2, .ref b, .long 0, .long 0, .long 0])) ∧ (∃ W : Nat → Int64, h' g = some (.inl (G.2 1, 5, .inr (.inl W))) ∧ ∀ p, p < 5 → W p = lN 2520) ∧ (∃ F S N c, wo_at G h' w x y z F S N c) ∧ (∃ F S N c, wo_at G h' w2 x2 y2 z2 F S N c) ∧ ∃ V c t, bo_at G h' b u V c t) := by
  have ha' : h a ≠ none := by rw [ha]; simp
  refine mx_enter (lo := [some (.ref a), none]) (by decide) (mx_in wd_code_yX4_init rfl) (Nat.le_of_ble_eq_true rfl) rfl ?_
  intro p ev s mt args below meth cd C hr hnm
  have C : mx_C p s mt args meth cd cX4_init 2 RX4 G base := C
  first | refine mx_aload_n C dX4_init_0 (pc' := 1) rfl rfl ?_ | refine mx_aload_nq C dX4_init_0 (pc' := 1) rfl rfl ?_
  refine oX4_3 C dX4_init_1 (pc' := 4) rfl ⟨by decide, Nat.le_of_ble_eq_true rfl⟩ ?_
  first | refine mx_aload_n C dX4_init_4 (pc' := 5) rfl rfl ?_ | refine mx_aload_nq C dX4_init_4 (pc' := 5) rfl rfl ?_
  refine mx_iconst C (v := nI 5) (by decide) dX4_init_5 (pc' := 6) rfl ?_
  refine mx_newal C (mx_in wd_arr_long rfl) (N := 5) (by rfl) (by decide) dX4_init_6 (pc' := 8) rfl (by decide) (by decide) ?_
  intro g hg
  have t1 := NX.new (v := .inl (G.2 1, 5, .inr (.inl (fun _ => 0)))) ha' hg
  have ag : a ≠ g := fun z => by rw [← z] at hg; exact ha' hg
  have ga : g ≠ a := fun z => ag z.symm
  refine pX4_9 C hnm dX4_init_8 (pc' := 11) rfl (by rw [va_up_ne _ _ ag]; exact ha) (Nat.le_of_ble_eq_true rfl) rfl rfl (fs' := [_, _, _, _, _, _, _]) rfl ?_
  have loop : ∀ (d i : Nat) (hh : mx_H) (W : Nat → Int64), 5 - i = d → i ≤ 5 → NX h hh a [g] → hh a = some (.inr (4, [.ref g, .null, .null, .null, .long 0, .long 0, .long 0])) → hh g = some (.inl (G.2 1, 5, .inr (.inl W))) → (∀ q, q < i → W q = lN 2520) → mx_V p l ev { frames := 2, cells := 11, slots := 269, locals := 44 } s mt args below meth cd G base 2 (MQ below (mx_Qc G base (fun v h' => v = none ∧ ∃ g w x y z w2 x2 y2 z2 b u, NX h h' a [g, w, x, y, z, w2, x2, y2, z2, b, u] ∧ h' a = some (.inr (4, [.ref g, .ref w, .ref w2, .ref b, .long 0, .long 0, .long 0])) ∧ (∃ W : Nat → Int64, h' g = some (.inl (G.2 1, 5, .inr (.inl W))) ∧ ∀ p, p < 5 → W p = lN 2520) ∧ (∃ F S N c, wo_at G h' w x y z F S N c) ∧ (∃ F S N c, wo_at G h' w2 x2 y2 z2 F S N c) ∧ ∃ V c t, bo_at G h' b u V c t)) args s 11 269 (mx_A base)) hh 1 5 13 [some (.ref a), some (.int (nI i))] [] := by
    intro d
    induction d using Nat.strongRecOn with
    | ind d ih =>
    intro i hh W hd hi t2 e1 e2 e3
    refine mx_iload_n C dX4_init_13 (pc' := 14) rfl rfl ?_
    refine mx_iconst C (v := nI 5) (by decide) dX4_init_14 (pc' := 15) rfl ?_
    refine mx_N_ge C dX4_init_15 (tgt := 33) (by decide) (pc' := 18) rfl (by omega) (by omega) (fun h15 => ?_) (fun h15 => ?_)
    rotate_left
    · skip
      first | refine mx_aload_n C dX4_init_18 (pc' := 19) rfl rfl ?_ | refine mx_aload_nq C dX4_init_18 (pc' := 19) rfl rfl ?_
      refine gX4_9 C dX4_init_19 (pc' := 22) rfl (e1) rfl ?_
      refine mx_iload_n C dX4_init_22 (pc' := 23) rfl rfl ?_
      refine kX4_15 C dX4_init_23 (pc' := 26) rfl ?_
      refine mx_last C dX4_init_26 (pc' := 27) rfl (e2) (rfl) (h15) (by decide) ?_
      refine mx_iinc C dX4_init_27 (pc' := 30) rfl rfl (mx_inc _) (by first | exact mx_c1_0 | exact mx_c1_int rfl | exact mx_c1_ref rfl | exact mx_c1_none rfl | exact mx_c1_rf rfl | exact mx_c1_null rfl) (by decide) (lo' := [_, _]) rfl ?_
      refine mx_goto C dX4_init_30 (tgt := 13) (by decide) ?_
      have p1 := NX.put (h := hh) (a := g) (v := .inl (G.2 1, 5, .inr (.inl (vp_updL W i (lN 2520))))) (by rw [e2]; simp)
      refine ih _ (by omega) (i + 1) _ (vp_updL W i (lN 2520)) rfl (by omega) (t2.join p1 (Or.inr (by simp))) (by rw [va_up_ne _ _ ag]; exact e1) (va_up_self _ _ _) (fun q hq => ?_)
      by_cases e : q = i
      · subst e; exact pk_uLs
      · rw [pk_uLn e]; exact e3 q (by omega)
    have e3 : ∀ q, q < 5 → W q = lN 2520 := fun q hq => e3 q (by omega)
    first | refine mx_aload_n C dX4_init_33 (pc' := 34) rfl rfl ?_ | refine mx_aload_nq C dX4_init_33 (pc' := 34) rfl rfl ?_
    refine nX4_17 C dX4_init_34 (pc' := 37) rfl (by decide) (by decide) ?_
    intro w hw
    have p2 := NX.new (v := .inr (7, [.null, .null, .null, .int 0])) t2.2.2.2.2 hw
    have t3 := t2.join p2 (Or.inl rfl)
    have aw : a ≠ w := fun q => (t2.nw hw).2.1 q.symm
    have gw : g ≠ w := fun q => (t2.nw hw).2.2 (by rw [← q]; simp)
    refine mx_dup C rfl dX4_init_37 (pc' := 38) rfl ?_
    refine cX4_19 C dX4_init_38 (pc' := 41) rfl (c_X7_init l G base _ (va_up_self _ _ _)) ⟨by decide, by decide, by decide, by decide, Nat.le_of_ble_eq_true rfl⟩ ?_
    rintro _ h1 ⟨rfl, x, y, z, s1, F, S, N, n, hwo⟩
    have t4 := t3.join s1 (Or.inr (by simp))
    have b1 : h1 a = some (.inr (4, [.ref g, .null, .null, .null, .long 0, .long 0, .long 0])) := s1.get (by rw [va_up_ne _ _ aw]; exact e1) aw
    have g1 : h1 g = some (.inl (G.2 1, 5, .inr (.inl W))) := s1.get (by rw [va_up_ne _ _ gw]; exact e2) gw
    have na : ∀ q, q ∈ [w, x, y, z] → q ≠ a := fun q hq e => by have := (t4.1 q (by simp at hq ⊢; omega)).1; rw [e] at this; exact ha' this
    first | refine pX4_20 C hnm dX4_init_41 (pc' := 44) rfl (b1) (Nat.le_of_ble_eq_true rfl) rfl rfl (fs' := [_, _, _, _, _, _, _]) rfl ?_ | refine pX4_20 C hnm dX4_init_41 (pc' := 44) rfl (b1) (Nat.le_of_ble_eq_true rfl) (mx_nrf _ _) (mx_frf _ _) (fs' := [_, _, _, _, _, _, _]) rfl ?_
    have p3 := NX.put (h := h1) (a := a) (v := .inr (4, [.ref g, .ref w, .null, .null, .long 0, .long 0, .long 0])) t4.2.2.2.2
    have t5 := t4.join p3 (Or.inl rfl)
    have wo1 := hwo.nx p3 (na w (by simp)) (na x (by simp)) (na y (by simp)) (na z (by simp))
    have g2 := p3.get g1 ga
    first | refine mx_aload_n C dX4_init_44 (pc' := 45) rfl rfl ?_ | refine mx_aload_nq C dX4_init_44 (pc' := 45) rfl rfl ?_
    refine nX4_17 C dX4_init_45 (pc' := 48) rfl (by decide) (by decide) ?_
    intro w2 hw2
    have p4 := NX.new (v := .inr (7, [.null, .null, .null, .int 0])) t5.2.2.2.2 hw2
    have t6 := t5.join p4 (Or.inl rfl)
    have aw2 : a ≠ w2 := fun q => (t5.nw hw2).2.1 q.symm
    have n2 : ∀ q, q ∈ [g, w, x, y, z] → q ≠ w2 := fun q hq e => (t5.nw hw2).2.2 (by rw [← e]; simp at hq ⊢; omega)
    have wo2 := wo1.nx p4 (na w (by simp)) (na x (by simp)) (na y (by simp)) (na z (by simp))
    have g3 := p4.get g2 ga
    refine mx_dup C rfl dX4_init_48 (pc' := 49) rfl ?_
    refine cX4_19 C dX4_init_49 (pc' := 52) rfl (c_X7_init l G base _ (va_up_self _ _ _)) ⟨by decide, by decide, by decide, by decide, Nat.le_of_ble_eq_true rfl⟩ ?_
    rintro _ h2 ⟨rfl, x2, y2, z2, s2, F2, S2, N2, m2, hwp⟩
    have t7 := t6.join s2 (Or.inr (by simp))
    have b2 : h2 a = some (.inr (4, [.ref g, .ref w, .null, .null, .long 0, .long 0, .long 0])) := s2.get (by rw [va_up_ne _ _ aw2, va_up_self]) aw2
    have wo3 := wo2.nx s2 (n2 w (by simp)) (n2 x (by simp)) (n2 y (by simp)) (n2 z (by simp))
    have g4 := s2.get g3 (n2 g (by simp))
    have na2 : ∀ q, q ∈ [w2, x2, y2, z2] → q ≠ a := fun q hq e => by have := (t7.1 q (by simp at hq ⊢; omega)).1; rw [e] at this; exact ha' this
    first | refine pX4_24 C hnm dX4_init_52 (pc' := 55) rfl (b2) (Nat.le_of_ble_eq_true rfl) rfl rfl (fs' := [_, _, _, _, _, _, _]) rfl ?_ | refine pX4_24 C hnm dX4_init_52 (pc' := 55) rfl (b2) (Nat.le_of_ble_eq_true rfl) (mx_nrf _ _) (mx_frf _ _) (fs' := [_, _, _, _, _, _, _]) rfl ?_
    have p5 := NX.put (h := h2) (a := a) (v := .inr (4, [.ref g, .ref w, .ref w2, .null, .long 0, .long 0, .long 0])) t7.2.2.2.2
    have t8 := t7.join p5 (Or.inl rfl)
    have wo4 := wo3.nx p5 (na w (by simp)) (na x (by simp)) (na y (by simp)) (na z (by simp))
    have wp4 := hwp.nx p5 (na2 w2 (by simp)) (na2 x2 (by simp)) (na2 y2 (by simp)) (na2 z2 (by simp))
    have g5 := p5.get g4 ga
    first | refine mx_aload_n C dX4_init_55 (pc' := 56) rfl rfl ?_ | refine mx_aload_nq C dX4_init_55 (pc' := 56) rfl rfl ?_
    refine nX4_27 C dX4_init_56 (pc' := 59) rfl (by decide) (by decide) ?_
    intro b hb
    have p6 := NX.new (v := .inr (1, [.null, .int 0, .int 0])) t8.2.2.2.2 hb
    have t9 := t8.join p6 (Or.inl rfl)
    have ab : a ≠ b := fun q => (t8.nw hb).2.1 q.symm
    have n3 : ∀ q, q ∈ [g, w, x, y, z, w2, x2, y2, z2] → q ≠ b := fun q hq e => (t8.nw hb).2.2 (by rw [← e]; simp at hq ⊢; omega)
    have wo5 := wo4.nx p6 (na w (by simp)) (na x (by simp)) (na y (by simp)) (na z (by simp))
    have wp5 := wp4.nx p6 (na2 w2 (by simp)) (na2 x2 (by simp)) (na2 y2 (by simp)) (na2 z2 (by simp))
    have g6 := p6.get g5 ga
    refine mx_dup C rfl dX4_init_59 (pc' := 60) rfl ?_
    refine cX4_29 C dX4_init_60 (pc' := 63) rfl (c_X1_init l G base _ (va_up_self _ _ _)) ⟨by decide, by decide, by decide, by decide, Nat.le_of_ble_eq_true rfl⟩ ?_
    rintro _ h3 ⟨rfl, u, s3, V, m3, t0, hbo⟩
    have t10 := t9.join s3 (Or.inr (by simp))
    have b3 : h3 a = some (.inr (4, [.ref g, .ref w, .ref w2, .null, .long 0, .long 0, .long 0])) := s3.get (by rw [va_up_ne _ _ ab, va_up_self]) ab
    have wo6 := wo5.nx s3 (n3 w (by simp)) (n3 x (by simp)) (n3 y (by simp)) (n3 z (by simp))
    have wp6 := wp5.nx s3 (n3 w2 (by simp)) (n3 x2 (by simp)) (n3 y2 (by simp)) (n3 z2 (by simp))
    have g7 := s3.get g6 (n3 g (by simp))
    have ua : u ≠ a := fun q => by have := (t10.1 u (by simp)).1; rw [q] at this; exact ha' this
    first | refine pX4_30 C hnm dX4_init_63 (pc' := 66) rfl (b3) (Nat.le_of_ble_eq_true rfl) rfl rfl (fs' := [_, _, _, _, _, _, _]) rfl ?_ | refine pX4_30 C hnm dX4_init_63 (pc' := 66) rfl (b3) (Nat.le_of_ble_eq_true rfl) (mx_nrf _ _) (mx_frf _ _) (fs' := [_, _, _, _, _, _, _]) rfl ?_
    have p7 := NX.put (h := h3) (a := a) (v := .inr (4, [.ref g, .ref w, .ref w2, .ref b, .long 0, .long 0, .long 0])) t10.2.2.2.2
    have t11 := t10.join p7 (Or.inl rfl)
    refine mx_vret C hr dX4_init_66 (by omega) (by omega) ⟨rfl, g, w, x, y, z, w2, x2, y2, z2, b, u, t11, va_up_self _ _ _, ⟨W, p7.get g7 ga, e3⟩, ⟨F, S, N, n, wo6.nx p7 (na w (by simp)) (na x (by simp)) (na y (by simp)) (na z (by simp))⟩, ⟨F2, S2, N2, m2, wp6.nx p7 (na2 w2 (by simp)) (na2 x2 (by simp)) (na2 y2 (by simp)) (na2 z2 (by simp))⟩, V, m3, t0, hbo.nx p7 (fun q => ab q.symm) ua⟩
  refine mx_iconst C (v := nI 0) (by decide) dX4_init_11 (pc' := 12) rfl ?_
  refine mx_istore_n C dX4_init_12 (pc' := 13) rfl (by first | exact mx_c1_0 | exact mx_c1_int rfl | exact mx_c1_ref rfl | exact mx_c1_none rfl | exact mx_c1_rf rfl | exact mx_c1_null rfl) (by decide) (lo' := [_, _]) rfl ?_
  exact loop _ 0 _ _ rfl (by omega) (t1.join (NX.put (v := .inr (4, [.ref g, .null, .null, .null, .long 0, .long 0, .long 0])) t1.2.2.2.2) (Or.inl rfl)) (va_up_self _ _ _) (by rw [va_up_ne _ _ ga, va_up_self]) (fun q hq => by omega)
end IT
