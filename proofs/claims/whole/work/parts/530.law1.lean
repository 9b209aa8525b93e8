/-! what is far from the class's cells, from the reference's; the law's own score and index -/
def inA (A : mxA) (σ : mxS) (a : Nat) : Prop := (∃ i, i < 23 ∧ a = aK A i) ∨ (∃ r, 1 ≤ r ∧ r ≤ st_n σ ∧ a = aB A r) ∨ ∃ f, 1 ≤ f ∧ f ≤ st_k σ ∧ (a = aT A f ∨ a = aC A f)
theorem OUT.far {A : mxA} {σ : mxS} {h h' : mx_H} (o : OUT A σ h h') {a : Nat} (ha : ¬ inA A σ a) : h' a = h a :=
  o a (fun i hi z => ha (Or.inl ⟨i, hi, z⟩)) (fun r r1 r2 z => ha (Or.inr (Or.inl ⟨r, r1, r2, z⟩))) (fun f f1 f2 => ⟨fun z => ha (Or.inr (Or.inr ⟨f, f1, f2, Or.inl z⟩)), fun z => ha (Or.inr (Or.inr ⟨f, f1, f2, Or.inr z⟩))⟩)
theorem CI.far {G : mx_G} {A : mxA} {h h' : mx_H} {σ : mxS} {la ea : Nat → Nat} {mk : Nat → Bool} (c : CI G A h σ la ea mk) (hf : ∀ a, inA A σ a → h' a = h a) : CI G A h' σ la ea mk := by
  obtain ⟨c1, c2, c3, ⟨F, c4, c4b⟩, c5, ⟨R, n, k1, k2, k3, k4⟩, c7, c8, c9, c10⟩ := c
  have eK : ∀ i, i < 23 → h' (aK A i) = h (aK A i) := fun i hi => hf _ (Or.inl ⟨i, hi, rfl⟩)
  exact ⟨c1, c2, (eK 0 (by decide)).trans c3, ⟨F, (eK 1 (by decide)).trans c4, c4b⟩, c5.kept (fun i _ _ => eK i (by omega)), ⟨R, n, k1, k2, (eK 9 (by decide)).trans k3, (eK 10 (by decide)).trans k4⟩, c7.kept (fun i _ _ => eK i (by omega)), fun r r1 r2 => (hf _ (Or.inr (Or.inl ⟨r, r1, r2, rfl⟩))).trans (c8 r r1 r2), fun f f1 f2 => (c9 f f1 f2).kept (hf _ (Or.inr (Or.inr ⟨f, f1, f2, Or.inl rfl⟩))) (hf _ (Or.inr (Or.inr ⟨f, f1, f2, Or.inr rfl⟩))), c10⟩
theorem MI.far {G : mx_G} {P : Nat → Nat} {h h' : mx_H} {σ : mxS} {th kc : Int32} {pu pd : Int64} (m : MI G P h σ th kc pu pd) (hf : ∀ i, i < 18 → h' (P i) = h (P i)) : MI G P h' σ th kc pu pd := by
  obtain ⟨m1, m2, m3, m4, m5, m6, m7⟩ := m
  exact ⟨m1, m2, (hf 0 (by decide)).trans m3, m4.kept (fun j _ _ => hf j (by omega)), m5.kept (fun j _ _ => hf j (by omega)), m6.kept (fun j _ _ => hf j (by omega)), m7.kept (fun j _ _ => hf j (by omega))⟩
/-- but the class's cells and z nothing has changed -/
def OUZ (A : mxA) (σ : mxS) (z : Nat) (h h' : mx_H) : Prop := ∀ a, ¬ inA A σ a → a ≠ z → h' a = h a
theorem wl_c50 : Cond.codeWith yL_score cL_score 6 (some .int) [(0, 11, 14, 13)] ∈ lw_tbl := by decide +kernel
theorem wl_c85 : Cond.codeWith yL_index cL_index 5 (some .int) [(0, 10, 13, 19)] ∈ lw_tbl := by decide +kernel
theorem wl_i : Cond.initialized RL ∈ lw_tbl := by decide +kernel
theorem wl_m50 : Cond.methodLink RL 50 yL_score ∈ lw_tbl := by decide +kernel
theorem wl_m85 : Cond.methodLink RL 85 yL_index ∈ lw_tbl := by decide +kernel
theorem wl_s50 : Cond.static yL_score ∈ lw_tbl := by decide +kernel
theorem wl_s85 : Cond.static yL_index ∈ lw_tbl := by decide +kernel
theorem wl_k13 : Cond.classLink RL 13 "java/lang/ArithmeticException" ∈ lw_tbl := by decide +kernel
theorem wl_k19 : Cond.classLink RL 19 "java/lang/ArrayIndexOutOfBoundsException" ∈ lw_tbl := by decide +kernel
theorem wl_t13 : Cond.castable "java/lang/ArithmeticException" "java/lang/ArithmeticException" ∈ mx_xw := by decide +kernel
theorem wl_t19 : Cond.castable "java/lang/ArrayIndexOutOfBoundsException" "java/lang/ArrayIndexOutOfBoundsException" ∈ mx_xw := by decide +kernel
section LC
variable {p : Program} {l : Launch} {e : Env} {R : Room} {s : State} {m : MethodId} {args : Array Value} {below : List Frame} {meth : Method} {c : Code} {cc : ByteArray} {own : String} {G : mx_G} {base nL : Nat} {Q : State → Prop} {h : mx_H} {kc ks pc : Nat} {lo : List (Option Value)} {st : List Value}
theorem cLX_7 (C : mx_C p s m args meth c cc nL RL G base) (hZ : mx_Z base s s.heap) {fr lc mc ms : Nat} {a : Nat} {fs : List Value} {w1 w2 w3 : Value} {rest : List Value} {post : Option Value → mx_H → Prop} {px : String → mx_H → Prop} (hd : decode cc pc = .ok (.invokevirtual 7, 3)) {pc' : Nat} (hp : pc + 3 = pc') (ha : h a = some (.inr (8, fs))) (hM : mx_MX l G base yX8_score cX8_score 7 (some .long) fr lc mc ms [.ref a, w1, w2, w3] h post px) (hRm : fr + 1 ≤ R.frames ∧ 8 + (7 + 11) + lc ≤ R.locals ∧ kc + mc ≤ R.cells ∧ ks + ms ≤ R.slots ∧ (rest.map fun v => v.category).sum ≤ 8)
    (kx : ∀ (E : String) (h' : mx_H) (q9 : Addr) (ce : Cell) (H1 : Heap) (locs1 : List Loc) (ls : Array Slot), mx_L ls nL lo → px E h' → mx_R G base h' H1 → va_S (mx_A base) s.heap H1 locs1 → H1[q9]? = some ce → ce.vm = .none → s.vm.findClass E = some ce.cls → vx_W p l e R s m args below meth c H1 locs1 (kc + mc) (ks + ms) Q (F0 m pc ls rest) q9)
    (kk : ∀ (v : Option Value) (h' : mx_H), post v h' → mx_V p l e R s m args below meth c G base nL Q h' (kc + mc) (ks + ms) pc' lo (v.toList ++ rest)) : mx_V p l e R s m args below meth c G base nL Q h kc ks pc lo (w3 :: w2 :: w1 :: .ref a :: rest) := by
  subst hp
  intro H locs ls hR hS hL
  have hX : CallFix p m c cc nL s args mx_tb RL := ⟨C.1, C.2.1, C.2.2.1, C.2.2.2.1, C.2.2.2.2.1⟩
  obtain ⟨r, g1, cell, g2, g3, g4, -⟩ := hR.at ha
  have hr : r = (RX8, TX8, 11) := Option.some.inj (g1.symm.trans rfl)
  subst hr
  exact mx_goX (vx_runV (As := [w1, w2, w3]) (rest := rest) hX hM ⟨mx_cb (n := 3) C (mx_in wd_m_RL_7 rfl) (mx_in wd_init_RX8 rfl) (mx_in wd_code_yX8_score rfl) (by decide +kernel) ⟨hRm.1, hRm.2.1⟩, C.2.2.2.2.1 _ (mx_in wd_i_yX8_score rfl), C.2.2.2.2.1 _ (mx_in wd_s_yX8_score rfl)⟩ ⟨mx_blindX, ⟨cell, g2, by rw [g4]; rfl, by rw [g3]; exact (C.2.2.2.2.2.1.1 8 _ rfl).2.1⟩, (mx_preSX C hZ hR hS).2⟩ rfl rfl hL.1 rfl (lv_room hRm.2.2.2.2) hd ⟨hRm.2.2.1, hRm.2.2.2.1⟩) hS hL (fun E h' q9 ce H1 locs1 => kx E h' q9 ce H1 locs1 ls hL) kk
theorem cLX_15 (C : mx_C p s m args meth c cc nL RL G base) (hZ : mx_Z base s s.heap) {fr lc mc ms : Nat} {a : Nat} {fs : List Value} {w1 w2 : Value} {rest : List Value} {post : Option Value → mx_H → Prop} {px : String → mx_H → Prop} (hd : decode cc pc = .ok (.invokevirtual 15, 3)) {pc' : Nat} (hp : pc + 3 = pc') (ha : h a = some (.inr (8, fs))) (hM : mx_MX l G base yX8_index cX8_index 4 (some .int) fr lc mc ms [.ref a, w1, w2] h post px) (hRm : fr + 1 ≤ R.frames ∧ 8 + (4 + 11) + lc ≤ R.locals ∧ kc + mc ≤ R.cells ∧ ks + ms ≤ R.slots ∧ (rest.map fun v => v.category).sum ≤ 8)
    (kx : ∀ (E : String) (h' : mx_H) (q9 : Addr) (ce : Cell) (H1 : Heap) (locs1 : List Loc) (ls : Array Slot), mx_L ls nL lo → px E h' → mx_R G base h' H1 → va_S (mx_A base) s.heap H1 locs1 → H1[q9]? = some ce → ce.vm = .none → s.vm.findClass E = some ce.cls → vx_W p l e R s m args below meth c H1 locs1 (kc + mc) (ks + ms) Q (F0 m pc ls rest) q9)
    (kk : ∀ (v : Option Value) (h' : mx_H), post v h' → mx_V p l e R s m args below meth c G base nL Q h' (kc + mc) (ks + ms) pc' lo (v.toList ++ rest)) : mx_V p l e R s m args below meth c G base nL Q h kc ks pc lo (w2 :: w1 :: .ref a :: rest) := by
  subst hp
  intro H locs ls hR hS hL
  have hX : CallFix p m c cc nL s args mx_tb RL := ⟨C.1, C.2.1, C.2.2.1, C.2.2.2.1, C.2.2.2.2.1⟩
  obtain ⟨r, g1, cell, g2, g3, g4, -⟩ := hR.at ha
  have hr : r = (RX8, TX8, 11) := Option.some.inj (g1.symm.trans rfl)
  subst hr
  exact mx_goX (vx_runV (As := [w1, w2]) (rest := rest) hX hM ⟨mx_cb (n := 2) C (mx_in wd_m_RL_15 rfl) (mx_in wd_init_RX8 rfl) (mx_in wd_code_yX8_index rfl) (by decide +kernel) ⟨hRm.1, hRm.2.1⟩, C.2.2.2.2.1 _ (mx_in wd_i_yX8_index rfl), C.2.2.2.2.1 _ (mx_in wd_s_yX8_index rfl)⟩ ⟨mx_blindX, ⟨cell, g2, by rw [g4]; rfl, by rw [g3]; exact (C.2.2.2.2.2.1.1 8 _ rfl).2.1⟩, (mx_preSX C hZ hR hS).2⟩ rfl rfl hL.1 rfl (lv_room hRm.2.2.2.2) hd ⟨hRm.2.2.1, hRm.2.2.2.1⟩) hS hL (fun E h' q9 ce H1 locs1 => kx E h' q9 ce H1 locs1 ls hL) kk
theorem cLS_50 (C : mx_C p s m args meth c cc nL RL G base) (hZ : mx_Z base s s.heap) {fr lc mc ms : Nat} {w1 w2 w3 w4 w5 : Value} {rest : List Value} {post : Option Value → mx_H → Prop} (hd : decode cc pc = .ok (.invokestatic 50, 3)) {pc' : Nat} (hp : pc + 3 = pc') (hM : mx_MH l G base yL_score cL_score 6 (some .int) [(0, 11, 14, 13)] fr lc mc ms [w1, w2, w3, w4, w5] h post) (hRm : fr + 1 ≤ R.frames ∧ 8 + (6 + 11) + lc ≤ R.locals ∧ kc + mc ≤ R.cells ∧ ks + ms ≤ R.slots ∧ (rest.map fun v => v.category).sum ≤ 8)
    (kk : ∀ (v : Option Value) (h' : mx_H), post v h' → mx_V p l e R s m args below meth c G base nL Q h' (kc + mc) (ks + ms) pc' lo (v.toList ++ rest)) : mx_V p l e R s m args below meth c G base nL Q h kc ks pc lo (w5 :: w4 :: w3 :: w2 :: w1 :: rest) := by
  subst hp
  intro H locs ls hR hS hL
  have hX : CallFix p m c cc nL s args mx_tb RL := ⟨C.1, C.2.1, C.2.2.1, C.2.2.2.1, C.2.2.2.2.1⟩
  have cw : vx_CSW R s args RL 50 yL_score cL_score 6 (some .int) [(0, 11, 14, 13)] (Cond.codeWith yL_score cL_score 6 (some .int) [(0, 11, 14, 13)] :: mx_tb) { frames := fr, cells := mc, slots := ms, locals := lc } mc ms 5 := by
    have hG : GoodIn mx_tb (Cond.codeWith yL_score cL_score 6 (some .int) [(0, 11, 14, 13)] :: mx_tb) := mx_good (fun w h => (List.mem_cons.mp h).elim (fun z => by rw [z]; exact mx_in wl_c50 rfl) (fun z => z))
    refine ⟨⟨rfl, rfl, hRm.1, hRm.2.1, pay_in C.2.2.2.2.1 hG, List.mem_cons_self⟩, C.2.2.2.2.1 _ (mx_in wl_c50 rfl), C.2.2.2.2.1 _ (mx_in wl_i rfl), ⟨by decide, by decide⟩, fun sig hsig => ?_, C.2.2.2.2.1 _ (mx_in wl_m50 rfl), C.2.2.2.2.1 _ (mx_in wl_s50 rfl)⟩
    have h2 : (parseMethodDescriptor yL_score.desc).map (fun d => d.parameters.length) = some 5 := by decide +kernel
    rw [hsig] at h2
    exact (Option.some.inj h2).symm
  exact mx_goX (vx_runSX (As := [w1, w2, w3, w4, w5]) (rest := rest) hX hM cw (mx_preSX C hZ hR hS) rfl rfl hL.1 rfl (lv_room hRm.2.2.2.2) hd ⟨hRm.2.2.1, hRm.2.2.2.1⟩) hS hL (fun E h' q9 ce H1 locs1 hf => hf.elim) kk
theorem cLS_85 (C : mx_C p s m args meth c cc nL RL G base) (hZ : mx_Z base s s.heap) {fr lc mc ms : Nat} {w1 w2 w3 w4 : Value} {rest : List Value} {post : Option Value → mx_H → Prop} (hd : decode cc pc = .ok (.invokestatic 85, 3)) {pc' : Nat} (hp : pc + 3 = pc') (hM : mx_MH l G base yL_index cL_index 5 (some .int) [(0, 10, 13, 19)] fr lc mc ms [w1, w2, w3, w4] h post) (hRm : fr + 1 ≤ R.frames ∧ 8 + (5 + 11) + lc ≤ R.locals ∧ kc + mc ≤ R.cells ∧ ks + ms ≤ R.slots ∧ (rest.map fun v => v.category).sum ≤ 8)
    (kk : ∀ (v : Option Value) (h' : mx_H), post v h' → mx_V p l e R s m args below meth c G base nL Q h' (kc + mc) (ks + ms) pc' lo (v.toList ++ rest)) : mx_V p l e R s m args below meth c G base nL Q h kc ks pc lo (w4 :: w3 :: w2 :: w1 :: rest) := by
  subst hp
  intro H locs ls hR hS hL
  have hX : CallFix p m c cc nL s args mx_tb RL := ⟨C.1, C.2.1, C.2.2.1, C.2.2.2.1, C.2.2.2.2.1⟩
  have cw : vx_CSW R s args RL 85 yL_index cL_index 5 (some .int) [(0, 10, 13, 19)] (Cond.codeWith yL_index cL_index 5 (some .int) [(0, 10, 13, 19)] :: mx_tb) { frames := fr, cells := mc, slots := ms, locals := lc } mc ms 4 := by
    have hG : GoodIn mx_tb (Cond.codeWith yL_index cL_index 5 (some .int) [(0, 10, 13, 19)] :: mx_tb) := mx_good (fun w h => (List.mem_cons.mp h).elim (fun z => by rw [z]; exact mx_in wl_c85 rfl) (fun z => z))
    refine ⟨⟨rfl, rfl, hRm.1, hRm.2.1, pay_in C.2.2.2.2.1 hG, List.mem_cons_self⟩, C.2.2.2.2.1 _ (mx_in wl_c85 rfl), C.2.2.2.2.1 _ (mx_in wl_i rfl), ⟨by decide, by decide⟩, fun sig hsig => ?_, C.2.2.2.2.1 _ (mx_in wl_m85 rfl), C.2.2.2.2.1 _ (mx_in wl_s85 rfl)⟩
    have h2 : (parseMethodDescriptor yL_index.desc).map (fun d => d.parameters.length) = some 4 := by decide +kernel
    rw [hsig] at h2
    exact (Option.some.inj h2).symm
  exact mx_goX (vx_runSX (As := [w1, w2, w3, w4]) (rest := rest) hX hM cw (mx_preSX C hZ hR hS) rfl rfl hL.1 rfl (lv_room hRm.2.2.2.2) hd ⟨hRm.2.2.1, hRm.2.2.2.1⟩) hS hL (fun E h' q9 ce H1 locs1 hf => hf.elim) kk
end LC
section LS
variable (l : Launch) (G : mx_G) (base : Nat)
set_option maxRecDepth 20000
theorem c_L_score (hl : l.stackTraces = false) (h : mx_H) {A : mxA} {σ : mxS} {la ea : Nat → Nat} {mk : Nat → Bool} (c0 : CI G A h σ la ea mk) {a b w : Int32} {x y z : Nat} (hx0 : ixS σ a = x) (hy0 : ixS σ b = y) {U D W : Nat} (eU : (lkS σ x y 5).1 = U) (eD : (lkS σ x y 5).2.1 = D) (eW : (lkS σ x y 5).2.2 = W) {f : Nat → Int64} (hz : h z = some (.inl (G.2 1, 1, .inr (.inl f)))) (hzA : ¬ inA A σ z) : mx_MH l G base yL_score cL_score 6 (some .int) [(0, 11, 14, 13)] 8 159 1 6 [.ref (aK A 0), .int a, .int b, .int w, .ref z] h (fun v h' => OUZ A σ z h h' ∧ (∃ g : Nat → Int64, h' z = some (.inl (G.2 1, 1, .inr (.inl g))) ∧ (x = 0 ∨ y = 0 → v = some (.int (nI 0)) ∧ g 0 = -1) ∧ (¬ (x = 0 ∨ y = 0) → (W = 0 → v = some (.int (nI 1))) ∧ (W ≠ 0 → v = some (.int (nI 0)) ∧ g 0 = lN (if w = 0 then U / Nat.gcd (D * W) U else D * W / Nat.gcd (D * W) U)))) ∧ ∃ mk', CI G A h' σ la ea mk') := by
  refine mx_enterH (lo := [some (.ref (aK A 0)), some (.int a), some (.int b), some (.int w), some (.ref z), none]) (by decide) (Nat.le_of_ble_eq_true rfl) rfl ?_
  intro p ev s mt args below meth cd C hr hZ ht
  have C : mx_C p s mt args meth cd cL_score 6 RL G base := C
  first | refine mx_aload C dL_score_0 (pc' := 2) rfl rfl ?_ | refine mx_aloadq C dL_score_0 (pc' := 2) rfl rfl ?_
  refine mx_iconst C (v := nI 0) (by decide) dL_score_2 (pc' := 3) rfl ?_
  first | refine mx_aload_n C dL_score_3 (pc' := 4) rfl rfl ?_ | refine mx_aload_nq C dL_score_3 (pc' := 4) rfl rfl ?_
  refine mx_iload_n C dL_score_4 (pc' := 5) rfl rfl ?_
  refine mx_iload_n C dL_score_5 (pc' := 6) rfl rfl ?_
  refine mx_iload_n C dL_score_6 (pc' := 7) rfl rfl ?_
  refine cLX_7 C hZ dL_score_7 (pc' := 10) rfl c0.2.2.1 (c_X8_score l G base hl h c0 hx0 hy0 eU eD eW) ⟨by decide, by decide, by decide, by decide, Nat.le_of_ble_eq_true rfl⟩ ?_ ?_
  · rintro E h1 q9 ce H1 locs1 ls hL ⟨rfl, hno, hW0, c1, o1⟩ hR hS hcell hv hcl
    refine vx_catch (own := RL) (name := "java/lang/ArithmeticException") C.2.2.2.1 [] ⟨0, 11, 14, 13⟩ [] ht (fun z hz => by cases hz) (by decide) (by decide) (C.2.2.2.2.1 _ (mx_in wl_k13 rfl)) (va_Nw.use rfl (hZ.2.2.2.2 _ wl_t13)) hcell hv hcl ?_
    have key : mx_V p l ev { frames := 8, cells := 1, slots := 6, locals := 159 } s mt args below meth cd G base 6 (vx_MQ below (mx_Qc G base (fun v h' => OUZ A σ z h h' ∧ (∃ g : Nat → Int64, h' z = some (.inl (G.2 1, 1, .inr (.inl g))) ∧ (x = 0 ∨ y = 0 → v = some (.int (nI 0)) ∧ g 0 = -1) ∧ (¬ (x = 0 ∨ y = 0) → (W = 0 → v = some (.int (nI 1))) ∧ (W ≠ 0 → v = some (.int (nI 0)) ∧ g 0 = lN (if w = 0 then U / Nat.gcd (D * W) U else D * W / Nat.gcd (D * W) U)))) ∧ ∃ mk', CI G A h' σ la ea mk')) (mx_XC G base (fun _ _ => False)) args s 1 6 (mx_A base)) h1 1 6 14 [some (.ref (aK A 0)), some (.int a), some (.int b), some (.int w), some (.ref z), none] [.ref q9] := by
      first | refine mx_astore C dL_score_14 (pc' := 16) rfl (by first | exact mx_c1_0 | exact mx_c1_int rfl | exact mx_c1_ref rfl | exact mx_c1_none rfl | exact mx_c1_rf rfl | exact mx_c1_null rfl) (by decide) (lo' := [_, _, _, _, _, _]) rfl ?_ | refine mx_astoreq C dL_score_14 (pc' := 16) rfl (by first | exact mx_c1_0 | exact mx_c1_int rfl | exact mx_c1_ref rfl | exact mx_c1_none rfl | exact mx_c1_rf rfl | exact mx_c1_null rfl) (by decide) (lo' := [_, _, _, _, _, _]) rfl ?_
      refine mx_iconst C (v := nI 1) (by decide) dL_score_16 (pc' := 17) rfl ?_
      exact mx_toX (mx_iret C hr dL_score_17 (by omega) (by omega) ⟨fun a ha _ => o1.far ha, ⟨f, (o1.far hzA).trans hz, fun q => absurd q hno, fun _ => ⟨fun _ => rfl, fun q => absurd hW0 q⟩⟩, mk, c1⟩)
    exact key H1 locs1 ls hR hS hL
  · rintro v h1 ⟨o1, c1, p1, p2⟩
    have hz1 := (o1.far hzA).trans hz
    by_cases hno : x = 0 ∨ y = 0
    · rw [p1 hno]
      refine mx_last C dL_score_10 (pc' := 11) rfl (hz1) (rfl) (show 0 < 1 by decide) (by decide) ?_
      refine mx_goto C dL_score_11 (tgt := 18) (by decide) ?_
      refine mx_iconst C (v := nI 0) (by decide) dL_score_18 (pc' := 19) rfl ?_
      refine mx_toX (mx_iret C hr dL_score_19 (by omega) (by omega) ⟨fun a ha hne => (va_up_ne _ _ hne).trans (o1.far ha), ⟨_, va_up_self _ _ _, fun _ => ⟨rfl, pk_uLs⟩, fun q => absurd hno q⟩, mk, c1.far (fun a ha => va_up_ne _ _ (fun q => hzA (by rw [← q]; exact ha)))⟩)
    · obtain ⟨hW, hv⟩ := p2 hno
      rw [hv]
      refine mx_last C dL_score_10 (pc' := 11) rfl (hz1) (rfl) (show 0 < 1 by decide) (by decide) ?_
      refine mx_goto C dL_score_11 (tgt := 18) (by decide) ?_
      refine mx_iconst C (v := nI 0) (by decide) dL_score_18 (pc' := 19) rfl ?_
      refine mx_toX (mx_iret C hr dL_score_19 (by omega) (by omega) ⟨fun a ha hne => (va_up_ne _ _ hne).trans (o1.far ha), ⟨_, va_up_self _ _ _, fun q => absurd q hno, fun _ => ⟨fun q => absurd q hW, fun _ => ⟨rfl, pk_uLs⟩⟩⟩, mk, c1.far (fun a ha => va_up_ne _ _ (fun q => hzA (by rw [← q]; exact ha)))⟩)
theorem c_L_index (hl : l.stackTraces = false) (h : mx_H) {A : mxA} {σ : mxS} {la ea : Nat → Nat} {mk : Nat → Bool} (c0 : CI G A h σ la ea mk) {a i : Int32} {r z : Nat} (hr0 : ixR (st_n σ) a = r) {f : Nat → Int64} (hz : h z = some (.inl (G.2 1, 1, .inr (.inl f)))) (hzA : ¬ inA A σ z) : mx_MH l G base yL_index cL_index 5 (some .int) [(0, 10, 13, 19)] 8 156 1 6 [.ref (aK A 0), .int a, .int i, .ref z] h (fun v h' => OUZ A σ z h h' ∧ (∃ g : Nat → Int64, h' z = some (.inl (G.2 1, 1, .inr (.inl g))) ∧ (r = 0 → v = some (.int (nI 0)) ∧ g 0 = -1) ∧ (r ≠ 0 → (v = some (.int (nI 1)) ∧ (i < 0 ∨ nI (kl σ r (st_k σ)).length ≤ i)) ∨ (v = some (.int (nI 0)) ∧ ∃ j q, i = nI j ∧ (kl σ r (st_k σ))[j]? = some q ∧ g 0 = lN (cntK σ q)))) ∧ ∃ mk', CI G A h' σ la ea mk') := by
  refine mx_enterH (lo := [some (.ref (aK A 0)), some (.int a), some (.int i), some (.ref z), none]) (by decide) (Nat.le_of_ble_eq_true rfl) rfl ?_
  intro p ev s mt args below meth cd C hr hZ ht
  have C : mx_C p s mt args meth cd cL_index 5 RL G base := C
  first | refine mx_aload_n C dL_index_0 (pc' := 1) rfl rfl ?_ | refine mx_aload_nq C dL_index_0 (pc' := 1) rfl rfl ?_
  refine mx_iconst C (v := nI 0) (by decide) dL_index_1 (pc' := 2) rfl ?_
  first | refine mx_aload_n C dL_index_2 (pc' := 3) rfl rfl ?_ | refine mx_aload_nq C dL_index_2 (pc' := 3) rfl rfl ?_
  refine mx_iload_n C dL_index_3 (pc' := 4) rfl rfl ?_
  refine mx_iload_n C dL_index_4 (pc' := 5) rfl rfl ?_
  refine cLX_15 C hZ dL_index_5 (pc' := 8) rfl c0.2.2.1 (c_X8_index l G base hl h c0 hr0) ⟨by decide, by decide, by decide, by decide, Nat.le_of_ble_eq_true rfl⟩ ?_ ?_
  · rintro E h1 q9 ce H1 locs1 ls hL ⟨rfl, hno, hW0, c1, o1⟩ hR hS hcell hv hcl
    refine vx_catch (own := RL) (name := "java/lang/ArrayIndexOutOfBoundsException") C.2.2.2.1 [] ⟨0, 10, 13, 19⟩ [] ht (fun z hz => by cases hz) (by decide) (by decide) (C.2.2.2.2.1 _ (mx_in wl_k19 rfl)) (va_Nw.use rfl (hZ.2.2.2.2 _ wl_t19)) hcell hv hcl ?_
    have key : mx_V p l ev { frames := 8, cells := 1, slots := 6, locals := 156 } s mt args below meth cd G base 5 (vx_MQ below (mx_Qc G base (fun v h' => OUZ A σ z h h' ∧ (∃ g : Nat → Int64, h' z = some (.inl (G.2 1, 1, .inr (.inl g))) ∧ (r = 0 → v = some (.int (nI 0)) ∧ g 0 = -1) ∧ (r ≠ 0 → (v = some (.int (nI 1)) ∧ (i < 0 ∨ nI (kl σ r (st_k σ)).length ≤ i)) ∨ (v = some (.int (nI 0)) ∧ ∃ j q, i = nI j ∧ (kl σ r (st_k σ))[j]? = some q ∧ g 0 = lN (cntK σ q)))) ∧ ∃ mk', CI G A h' σ la ea mk')) (mx_XC G base (fun _ _ => False)) args s 1 6 (mx_A base)) h1 1 6 13 [some (.ref (aK A 0)), some (.int a), some (.int i), some (.ref z), none] [.ref q9] := by
      first | refine mx_astore C dL_index_13 (pc' := 15) rfl (by first | exact mx_c1_0 | exact mx_c1_int rfl | exact mx_c1_ref rfl | exact mx_c1_none rfl | exact mx_c1_rf rfl | exact mx_c1_null rfl) (by decide) (lo' := [_, _, _, _, _]) rfl ?_ | refine mx_astoreq C dL_index_13 (pc' := 15) rfl (by first | exact mx_c1_0 | exact mx_c1_int rfl | exact mx_c1_ref rfl | exact mx_c1_none rfl | exact mx_c1_rf rfl | exact mx_c1_null rfl) (by decide) (lo' := [_, _, _, _, _]) rfl ?_
      refine mx_iconst C (v := nI 1) (by decide) dL_index_15 (pc' := 16) rfl ?_
      exact mx_toX (mx_iret C hr dL_index_16 (by omega) (by omega) ⟨fun a ha _ => o1.far ha, ⟨f, (o1.far hzA).trans hz, fun q => absurd q hno, fun _ => Or.inl ⟨rfl, hW0⟩⟩, c1⟩)
    exact key H1 locs1 ls hR hS hL
  · rintro v h1 ⟨o1, ⟨mk1, c1⟩, p1, p2⟩
    have hz1 := (o1.far hzA).trans hz
    by_cases hno : r = 0
    · rw [p1 hno]
      refine mx_i2l C (rfl) dL_index_8 (pc' := 9) rfl ?_
      refine mx_last C dL_index_9 (pc' := 10) rfl (hz1) (rfl) (show 0 < 1 by decide) (by decide) ?_
      refine mx_goto C dL_index_10 (tgt := 17) (by decide) ?_
      refine mx_iconst C (v := nI 0) (by decide) dL_index_17 (pc' := 18) rfl ?_
      refine mx_toX (mx_iret C hr dL_index_18 (by omega) (by omega) ⟨fun a ha hne => (va_up_ne _ _ hne).trans (o1.far ha), ⟨_, va_up_self _ _ _, fun _ => ⟨rfl, pk_uLs.trans (by decide)⟩, fun q => absurd hno q⟩, mk1, c1.far (fun a ha => va_up_ne _ _ (fun q => hzA (by rw [← q]; exact ha)))⟩)
    · obtain ⟨j, q, e1, e2, hv⟩ := p2 hno
      have hcl := cntB_le (fun i => mkP σ (fun j => decide (sky σ (j + 1) = some q)) (st_k σ) (i + 1)) (st_n σ)
      have hcn : cntK σ q ≤ 40 := Nat.le_trans hcl c0.1.1
      rw [hv]
      refine mx_i2l C (nI_l (show cntK σ q < 2 ^ 31 by omega)) dL_index_8 (pc' := 9) rfl ?_
      refine mx_last C dL_index_9 (pc' := 10) rfl (hz1) (rfl) (show 0 < 1 by decide) (by decide) ?_
      refine mx_goto C dL_index_10 (tgt := 17) (by decide) ?_
      refine mx_iconst C (v := nI 0) (by decide) dL_index_17 (pc' := 18) rfl ?_
      refine mx_toX (mx_iret C hr dL_index_18 (by omega) (by omega) ⟨fun a ha hne => (va_up_ne _ _ hne).trans (o1.far ha), ⟨_, va_up_self _ _ _, fun q => absurd q hno, fun _ => Or.inr ⟨rfl, j, q, e1, e2, pk_uLs⟩⟩, mk1, c1.far (fun a ha => va_up_ne _ _ (fun q => hzA (by rw [← q]; exact ha)))⟩)
end LS
