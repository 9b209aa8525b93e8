/-! methods that throw: their contracts over pictures -/
def xa1 : List Cond := vx_atS RX8 126 "java/lang/ArithmeticException" ["java/lang/RuntimeException", "java/lang/Exception"]
def xa2 : List Cond := vx_atS RX8 194 "java/lang/ArrayIndexOutOfBoundsException" ["java/lang/IndexOutOfBoundsException", "java/lang/RuntimeException", "java/lang/Exception"]
def isDC : Cond → Bool
  | .declares _ => true
  | .castable _ _ => true
  | _ => false
def mx_xw : List Cond := (xa1 ++ xa2).filter (fun w => !goodWord w)
theorem mx_xw_dc : ∀ w ∈ mx_xw, isDC w = true := by decide +kernel
theorem isDC.mv {w : Cond} (h : isDC w = true) {s U : State} (hW : s.WarmedH U.vm) (hZ : va_Nw w s) : va_Nw w U := by
  cases w <;> first | exact va_Nw.warmD hW hZ | exact va_Nw.warmC hW hZ | (simp [isDC] at h)
theorem isDC.on {w : Cond} (h : isDC w = true) : w.onTables = true := by
  cases w <;> first | rfl | (simp [isDC] at h)
theorem xa1_in : ∀ w ∈ xa1.filter goodWord, w ∈ lw_tbl := by decide +kernel
theorem xa2_in : ∀ w ∈ xa2.filter goodWord, w ∈ lw_tbl := by decide +kernel
def mx_Z (base : Nat) (U : State) (H : Heap) : Prop := vx_Zq Bundle.tN "UNASSIGNED_STACK" Bundle.steD (mx_A base) U H ∧ vx_Zq Bundle.tN "SUPPRESSED_SENTINEL" Bundle.listD (mx_A base) U H ∧ (∃ sa, vk_R RX8 124 "no part of both has a weight" sa U) ∧ (∃ sa, vk_R RX8 192 "the record has no such key" sa U) ∧ ∀ w ∈ mx_xw, va_Nw w U
theorem mx_Z.mv {base : Nat} {s U : State} {H H1 : Heap} (hW : s.WarmedH U.vm) (hq : ∀ a : Nat, a < H.size → ¬ mx_A base a → H1[a]? = H[a]?) (z : mx_Z base s H) : mx_Z base U H1 :=
  ⟨vx_Zq.moved hW.alike (z.1.kept hq), vx_Zq.moved hW.alike (z.2.1.kept hq), z.2.2.1.imp (fun _ k => vk_R.warm hW k), z.2.2.2.1.imp (fun _ k => vk_R.warm hW k), fun w hw => isDC.mv (mx_xw_dc w hw) hW (z.2.2.2.2 w hw)⟩
theorem mx_R.ext {G : mx_G} {base : Nat} {h : mx_H} {H H1 : Heap} (hR : mx_R G base h H) (hq : ∀ q : Nat, q < H.size → H1[q]? = H[q]?) : mx_R G base h H1 := by
  obtain ⟨L, f, a, b, c⟩ := hR
  exact ⟨L, f, a, b.kept (fun k q hk => hq _ (vx_lt b hk)), c⟩
def mx_PcX (G : mx_G) (base : Nat) (as : List Value) (h : mx_H) : Array Value → State → Prop := va_Pc as (fun U => mx_R G base h U.heap ∧ va_K G.1 mxCl (mx_ts G) U ∧ base ≤ U.heap.size ∧ mx_Z base U U.heap)
def mx_XC (G : mx_G) (base : Nat) (px : String → mx_H → Prop) : String → State → State → Prop := fun E st t => ∃ h', px E h' ∧ mx_R G base h' t.heap ∧ va_F (mx_A base) st t
def mx_MX (l : Launch) (G : mx_G) (base : Nat) (y : MethodName) (b : ByteArray) (nL : Nat) (ret : Option FieldType) (fr lc mc ms : Nat) (as : List Value) (h : mx_H) (post : Option Value → mx_H → Prop) (px : String → mx_H → Prop) : Prop :=
  vx_Met l y (Cond.code y b nL ret :: mx_tb) { frames := fr, cells := mc, slots := ms, locals := lc } (mx_PcX G base as h) (mx_Qc G base post) (mx_XC G base px) mc ms (mx_A base)
def mx_MH (l : Launch) (G : mx_G) (base : Nat) (y : MethodName) (b : ByteArray) (nL : Nat) (ret : Option FieldType) (hh : List (Nat × Nat × Nat × Nat)) (fr lc mc ms : Nat) (as : List Value) (h : mx_H) (post : Option Value → mx_H → Prop) : Prop :=
  vx_Met l y (Cond.codeWith y b nL ret hh :: mx_tb) { frames := fr, cells := mc, slots := ms, locals := lc } (mx_PcX G base as h) (mx_Qc G base post) (mx_XC G base (fun _ _ => False)) mc ms (mx_A base)
section TX
variable {p : Program} {l : Launch} {e : Env} {R : Room} {s : State} {m : MethodId} {args : Array Value} {below : List Frame} {meth : Method} {c : Code} {cc : ByteArray} {own : String} {G : mx_G} {base nL : Nat} {Q : State → Prop} {h : mx_H} {kc ks pc : Nat} {lo : List (Option Value)} {st : List Value}
theorem mx_blindX {as : List Value} : FrameBlind (mx_PcX G base as h) := fun a U g mk q => by
  obtain ⟨q1, q2, q3, q4, q5⟩ := q
  exact ⟨q1, q2, va_K.moved (u := U) (U := U.calling g mk a) (Vm.Alike.refl U.vm) q3, q4, mx_Z.mv (s := U) (U := U.calling g mk a) (State.WarmedH.refl U) (fun _ _ _ => rfl) q5⟩
theorem mx_preSX (C : mx_C p s m args meth c cc nL own G base) (hZ : mx_Z base s s.heap) {as : List Value} {H : Heap} {locs : List Loc} (hR : mx_R G base h H) (hS : va_S (mx_A base) s.heap H locs) : PreS s H (mx_PcX G base as h) as :=
  ⟨mx_blindX, fun U hU hW => ⟨rfl, by rw [hU]; exact hR, va_K.moved hW.alike C.2.2.2.2.2.1, Nat.le_trans C.2.2.2.2.2.2.1 (by rw [hU]; exact hS.1), by rw [hU]; exact mx_Z.mv hW hS.2.1 hZ⟩⟩
theorem mx_enterX {y : MethodName} {b : ByteArray} {ret : Option FieldType} {fr lc mc ms : Nat} {as : List Value} {post : Option Value → mx_H → Prop} {px : String → mx_H → Prop} (hy : plainName y.cls = true) (hlen : (lg_sl as).length ≤ nL) {lo : List (Option Value)} (hlo : mx_of nL (lv_args 0 as) = lo)
    (body : ∀ (p : Program) (e : Env) (s : State) (m : MethodId) (args : Array Value) (below : List Frame) (meth : Method) (c : Code), mx_C p s m args meth c b nL y.cls G base → meth.sig.returnType = ret → mx_Z base s s.heap → (∀ x ∈ c.exceptionTable.toList, False) → mx_V p l e { frames := fr, cells := mc, slots := ms, locals := lc } s m args below meth c G base nL (vx_MQ below (mx_Qc G base post) (mx_XC G base px) args s mc ms (mx_A base)) h 0 0 0 lo []) : mx_MX l G base y b nL ret fr lc mc ms as h post px := by
  refine vx_ofW (cc := b) (maxL := nL) (ret := ret) hy rfl ?_
  intro p e s m args below meth c s₁ B hml hx hv
  obtain ⟨rfl, hR, hK, hbs, hZ⟩ := hv
  have hts := atoms_spec (ws := Cond.code y b nL ret :: mx_tb) B.pre
  have hown : s.vm.findClass y.cls = some m.cls := findClass_of_methodNamed B.named
  have hl := lv_entry as (n := nL) hlen
  rw [lg_entry_eq]
  refine body p e s m as.toArray below meth c ⟨B.exec, B.bytes, hml, hown, fun w hw => hts w (List.mem_cons_of_mem _ hw), hK, hbs, B.notSynchronized⟩ B.returns hZ hx s.heap [] _ hR va_S.rf ?_
  rw [← hlo]
  exact mx_of_L hl
theorem mx_enterH {y : MethodName} {b : ByteArray} {ret : Option FieldType} {hh : List (Nat × Nat × Nat × Nat)} {fr lc mc ms : Nat} {as : List Value} {post : Option Value → mx_H → Prop} (hy : plainName y.cls = true) (hlen : (lg_sl as).length ≤ nL) {lo : List (Option Value)} (hlo : mx_of nL (lv_args 0 as) = lo)
    (body : ∀ (p : Program) (e : Env) (s : State) (m : MethodId) (args : Array Value) (below : List Frame) (meth : Method) (c : Code), mx_C p s m args meth c b nL y.cls G base → meth.sig.returnType = ret → mx_Z base s s.heap → c.exceptionTable.toList = tableOf hh → mx_V p l e { frames := fr, cells := mc, slots := ms, locals := lc } s m args below meth c G base nL (vx_MQ below (mx_Qc G base post) (mx_XC G base (fun _ _ => False)) args s mc ms (mx_A base)) h 0 0 0 lo []) : mx_MH l G base y b nL ret hh fr lc mc ms as h post := by
  refine vx_ofWH (cc := b) (maxL := nL) (ret := ret) (hh := hh) hy rfl ?_
  intro p e s m args below meth c s₁ B hml hv
  obtain ⟨rfl, hR, hK, hbs, hZ⟩ := hv
  have hts := atoms_spec (ws := Cond.codeWith y b nL ret hh :: mx_tb) B.pre
  have hown : s.vm.findClass y.cls = some m.cls := findClass_of_methodNamed B.named
  have hl := lv_entry as (n := nL) hlen
  have ht := vx_table (x := y) B (hts _ List.mem_cons_self)
  rw [lg_entry_eq]
  refine body p e s m as.toArray below meth c ⟨B.exec, B.bytes, hml, hown, fun w hw => hts w (List.mem_cons_of_mem _ hw), hK, hbs, B.notSynchronized⟩ B.returns hZ ht s.heap [] _ hR va_S.rf ?_
  rw [← hlo]
  exact mx_of_L hl
theorem mx_toX {post : Option Value → mx_H → Prop} {px : String → mx_H → Prop} {mc ms : Nat} (k : mx_V p l e R s m args below meth c G base nL (MQ below (mx_Qc G base post) args s mc ms (mx_A base)) h kc ks pc lo st) : mx_V p l e R s m args below meth c G base nL (vx_MQ below (mx_Qc G base post) (mx_XC G base px) args s mc ms (mx_A base)) h kc ks pc lo st := fun H locs ls hR hS hL => vx_ret (k H locs ls hR hS hL)
theorem mx_hat1 (C : mx_C p s m args meth c cc nL own G base) (hZ : mx_Z base s s.heap) : ∀ w ∈ xa1, w.before args s = true := by
  intro w hw
  cases hg : goodWord w with
  | true => exact C.2.2.2.2.1 w (mx_in (xa1_in w (List.mem_filter.mpr ⟨hw, hg⟩)) hg)
  | false =>
    have hm : w ∈ mx_xw := List.mem_filter.mpr ⟨List.mem_append_left _ hw, by rw [hg]; rfl⟩
    exact va_Nw.use (isDC.on (mx_xw_dc w hm)) (hZ.2.2.2.2 w hm)
theorem mx_hat2 (C : mx_C p s m args meth c cc nL own G base) (hZ : mx_Z base s s.heap) : ∀ w ∈ xa2, w.before args s = true := by
  intro w hw
  cases hg : goodWord w with
  | true => exact C.2.2.2.2.1 w (mx_in (xa2_in w (List.mem_filter.mpr ⟨hw, hg⟩)) hg)
  | false =>
    have hm : w ∈ mx_xw := List.mem_filter.mpr ⟨List.mem_append_right _ hw, by rw [hg]; rfl⟩
    exact va_Nw.use (isDC.on (mx_xw_dc w hm)) (hZ.2.2.2.2 w hm)
theorem wx_k1 : Cond.classLink RX8 122 "java/lang/ArithmeticException" ∈ lw_tbl := by decide +kernel
theorem wx_i1 : Cond.initialized "java/lang/ArithmeticException" ∈ lw_tbl := by decide +kernel
theorem wx_k2 : Cond.classLink RX8 190 "java/lang/ArrayIndexOutOfBoundsException" ∈ lw_tbl := by decide +kernel
theorem wx_i2 : Cond.initialized "java/lang/ArrayIndexOutOfBoundsException" ∈ lw_tbl := by decide +kernel
theorem xa1_ot : ∀ w ∈ Cond.classLink RX8 122 "java/lang/ArithmeticException" :: Cond.initialized "java/lang/ArithmeticException" :: xa1, vx_ot w = true := by decide +kernel
theorem xa2_ot : ∀ w ∈ Cond.classLink RX8 190 "java/lang/ArrayIndexOutOfBoundsException" :: Cond.initialized "java/lang/ArrayIndexOutOfBoundsException" :: xa2, vx_ot w = true := by decide +kernel
theorem mx_throw1 {post : Option Value → mx_H → Prop} {px : String → mx_H → Prop} {mc ms : Nat} (C : mx_C p s m args meth c cc nL RX8 G base) (hl : l.stackTraces = false) (hZ : mx_Z base s s.heap) (hx : ∀ x ∈ c.exceptionTable.toList, False)
    (d0 : decode cc pc = .ok (.new 122, 3)) (d3 : decode cc (pc + 3) = .ok (.dup, 1)) (d4 : decode cc (pc + 4) = .ok (.ldc 124, 2)) (d6 : decode cc (pc + 6) = .ok (.invokespecial 126, 3)) (d9 : decode cc (pc + 9) = .ok (.athrow, 1))
    (hRf : 5 < R.frames) (hRl : 82 ≤ R.locals) (hRc : kc + 1 ≤ R.cells) (hRs : ks + 6 ≤ R.slots) (hc : kc + 1 ≤ mc) (hs : ks + 6 ≤ ms) (hpx : px "java/lang/ArithmeticException" h) : mx_V p l e R s m args below meth c G base nL (vx_MQ below (mx_Qc G base post) (mx_XC G base px) args s mc ms (mx_A base)) h kc ks pc lo [] := by
  intro H locs ls hR hS hL
  obtain ⟨sa, hsa⟩ := hZ.2.2.1
  exact vx_throwS C.1 C.2.1 hl (names := ["java/lang/RuntimeException", "java/lang/Exception"]) C.2.2.2.1 (by decide +kernel) (by decide +kernel) (C.2.2.2.2.1 _ (mx_in wx_k1 rfl)) (C.2.2.2.2.1 _ (mx_in wx_i1 rfl)) hsa (mx_hat1 C hZ) xa1_ot hZ.1 hZ.2.1 hS (hL.1.trans C.2.2.1.symm) d0 d3 d4 d6 d9 (fun x h9 => (hx x h9).elim) hRf (by show 0 + (13 * (2 + 1) + 43) ≤ R.locals; omega) hRc hRs C.2.2.2.2.2.2.2
    (fun t ha h1 h2 => ⟨h, hpx, hR.ext h2, Nat.le_trans hS.1 h1, fun q q1 q2 => (h2 q (Nat.lt_of_lt_of_le q1 hS.1)).trans (hS.2.1 q q1 q2)⟩) hS.2.2 hc hs
theorem mx_throw2 {post : Option Value → mx_H → Prop} {px : String → mx_H → Prop} {mc ms : Nat} (C : mx_C p s m args meth c cc nL RX8 G base) (hl : l.stackTraces = false) (hZ : mx_Z base s s.heap) (hx : ∀ x ∈ c.exceptionTable.toList, False)
    (d0 : decode cc pc = .ok (.new 190, 3)) (d3 : decode cc (pc + 3) = .ok (.dup, 1)) (d4 : decode cc (pc + 4) = .ok (.ldc 192, 2)) (d6 : decode cc (pc + 6) = .ok (.invokespecial 194, 3)) (d9 : decode cc (pc + 9) = .ok (.athrow, 1))
    (hRf : 6 < R.frames) (hRl : 95 ≤ R.locals) (hRc : kc + 1 ≤ R.cells) (hRs : ks + 6 ≤ R.slots) (hc : kc + 1 ≤ mc) (hs : ks + 6 ≤ ms) (hpx : px "java/lang/ArrayIndexOutOfBoundsException" h) : mx_V p l e R s m args below meth c G base nL (vx_MQ below (mx_Qc G base post) (mx_XC G base px) args s mc ms (mx_A base)) h kc ks pc lo [] := by
  intro H locs ls hR hS hL
  obtain ⟨sa, hsa⟩ := hZ.2.2.2.1
  exact vx_throwS C.1 C.2.1 hl (names := ["java/lang/IndexOutOfBoundsException", "java/lang/RuntimeException", "java/lang/Exception"]) C.2.2.2.1 (by decide +kernel) (by decide +kernel) (C.2.2.2.2.1 _ (mx_in wx_k2 rfl)) (C.2.2.2.2.1 _ (mx_in wx_i2 rfl)) hsa (mx_hat2 C hZ) xa2_ot hZ.1 hZ.2.1 hS (hL.1.trans C.2.2.1.symm) d0 d3 d4 d6 d9 (fun x h9 => (hx x h9).elim) hRf (by show 0 + (13 * (3 + 1) + 43) ≤ R.locals; omega) hRc hRs C.2.2.2.2.2.2.2
    (fun t ha h1 h2 => ⟨h, hpx, hR.ext h2, Nat.le_trans hS.1 h1, fun q q1 q2 => (h2 q (Nat.lt_of_lt_of_le q1 hS.1)).trans (hS.2.1 q q1 q2)⟩) hS.2.2 hc hs
/-- behind a call of a method that returns or throws -/
theorem mx_goX {post : Option Value → mx_H → Prop} {px : String → mx_H → Prop} {H : Heap} {locs : List Loc} {ls : Array Slot} {mc ms : Nat} {a : Array Value} {rest st0 : List Value} (hr : vx_Run p l e R s m args below meth c H locs kc ks mc ms (F0 m pc ls st0) rest (mx_Qc G base post a) (mx_XC G base px) (mx_A base)) (hS : va_S (mx_A base) s.heap H locs) (hL : mx_L ls nL lo)
    (kx : ∀ (E : String) (h' : mx_H) (q9 : Addr) (ce : Cell) (H1 : Heap) (locs1 : List Loc), px E h' → mx_R G base h' H1 → va_S (mx_A base) s.heap H1 locs1 → H1[q9]? = some ce → ce.vm = .none → s.vm.findClass E = some ce.cls → vx_W p l e R s m args below meth c H1 locs1 (kc + mc) (ks + ms) Q (F0 m pc ls rest) q9)
    (kk : ∀ (v : Option Value) (h' : mx_H), post v h' → mx_V p l e R s m args below meth c G base nL Q h' (kc + mc) (ks + ms) (pc + 3) lo (v.toList ++ rest)) : W p l e R s m args below meth c H locs kc ks Q (F0 m pc ls st0) := by
  have fin : ∀ (st₀ t T' : State) (L : List Loc), st₀.heap = H → T'.heap = t.heap → (∀ q ∈ L, mx_A base q.base) → va_F (mx_A base) st₀ t → va_S (mx_A base) s.heap T'.heap (locs ++ L) := by
    intro st₀ t T' L h0 e1 hLc hF
    obtain ⟨hz, hk⟩ := hF
    rw [h0] at hz hk
    exact ⟨Nat.le_trans hS.1 (by rw [e1]; exact hz), fun q h1 h2 => by rw [e1, hk q (Nat.lt_of_lt_of_le h1 hS.1) h2]; exact hS.2.1 q h1 h2, fun q hq => by
      rcases List.mem_append.mp hq with z | z
      · exact hS.2.2 q z
      · exact hLc q z⟩
  intro T hT X
  rcases hr T hT X with ⟨v, st₀, t, T', L, h0, X', hLc, e1, e2, ⟨v', h', hv, hp, hR', hF⟩, st⟩ | ⟨q, st₀, t, T', L, E, ce, h0, X', hLc, e1, e2, ⟨h', hp, hR', hF⟩, hce, hcv, hcl, st⟩
  · cases hv
    obtain ⟨t2, a1, b1⟩ := kk v h' hp T'.heap (locs ++ L) ls (by rw [e1]; exact hR') (fin st₀ t T' L h0 e1 hLc hF) hL T' rfl X'
    exact ⟨t2, st t2 a1, b1⟩
  · obtain ⟨t2, a1, b1⟩ := kx E h' q ce T'.heap (locs ++ L) hp (by rw [e1]; exact hR') (fin st₀ t T' L h0 e1 hLc hF) (by rw [e1]; exact hce) hcv hcl T' rfl X'
    exact ⟨t2, st.trans a1, b1⟩
end TX
