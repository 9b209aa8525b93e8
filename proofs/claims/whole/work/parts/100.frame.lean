/-- the claim's classes, a class's number is that of its name RXi (5: a place that nothing uses) -/
abbrev mxCl : List vw_C := [(RX0, TX0, 8), (RX1, TX1, 3), (RX2, TX2, 2), (RX3, TX3, 2), (RX4, TX4, 7), (RX0, TX0, 8), (RX6, TX6, 6), (RX7, TX7, 4), (RX8, TX8, 11), (RX9, TX9, 25)]
def mx_tb : List Cond := lw_tbl.filter goodWord
theorem mx_in {w : Cond} (h : w ∈ lw_tbl) (g : goodWord w = true) : w ∈ mx_tb := List.mem_filter.mpr ⟨h, g⟩
theorem mx_good {ws : List Cond} (h : ∀ w ∈ ws, w ∈ mx_tb) : GoodIn mx_tb ws := fun w hw => ⟨h w hw, good_of_word (List.mem_filter.mp (h w hw)).2⟩
/-! The frame of this proof: one picture of ALL cells made since the law began, as a function from addresses (mx_H); a judgement mx_V over pictures; a row an instruction. -/
abbrev mx_H : Type := Nat → Option va_E
abbrev mx_G : Type := va_G × (Nat → ClassId)
def mx_ts (G : mx_G) : List (ClassId × FieldType) := [(G.2 0, .int), (G.2 1, .long), (G.2 2, .char), (G.2 3, .byte), (G.2 4, .boolean)]
def mx_A (base : Nat) : Nat → Prop := fun q => base ≤ q
def mx_R (G : mx_G) (base : Nat) (h : mx_H) (H : Heap) : Prop :=
  ∃ (L : List Nat) (f : Nat → va_E), (∀ a, h a = if a ∈ L then some (f a) else none) ∧ va_P G.1 mxCl (va_pl L f) H ∧ va_D (mx_A base) (va_pl L f)
theorem mx_R.get {G : mx_G} {base : Nat} {h : mx_H} {H : Heap} (hR : mx_R G base h H) {a : Nat} {e : va_E} (ha : h a = some e) :
    ∃ (L : List Nat) (f : Nat → va_E) (k : Nat), (∀ a, h a = if a ∈ L then some (f a) else none) ∧ va_P G.1 mxCl (va_pl L f) H ∧ va_D (mx_A base) (va_pl L f) ∧ a ∈ L ∧ f a = e ∧ (va_pl L f)[k]? = some (a, e) := by
  obtain ⟨L, f, hh, hP, hD⟩ := hR
  have hm : a ∈ L ∧ f a = e := by
    have h1 := hh a
    rw [ha] at h1
    by_cases hL : a ∈ L
    · rw [if_pos hL] at h1
      exact ⟨hL, (Option.some.inj h1).symm⟩
    · rw [if_neg hL] at h1
      cases h1
  obtain ⟨k, hk⟩ := va_pl_get (X := []) (f := f) hm.1
  refine ⟨L, f, k, hh, hP, hD, hm.1, hm.2, ?_⟩
  rw [← hm.2]
  exact hk
theorem mx_R.at {G : mx_G} {base : Nat} {h : mx_H} {H : Heap} (hR : mx_R G base h H) {a : Nat} {e : va_E} (ha : h a = some e) : va_at G.1 mxCl (a, e) H := by
  obtain ⟨L, f, k, -, hP, -, -, -, hk⟩ := hR.get ha
  exact hP k _ hk
theorem mx_R.one {G : mx_G} {base : Nat} {h : mx_H} {H : Heap} (hR : mx_R G base h H) {a : Nat} {e : va_E} (ha : h a = some e) : va_P G.1 mxCl [(a, e)] H := by
  intro k q hk
  have hz : k < 1 := (List.getElem?_eq_some_iff.mp hk).1
  rw [show k = 0 by omega] at hk
  cases hk
  exact hR.at ha
theorem mx_R.lt {G : mx_G} {base : Nat} {h : mx_H} {H : Heap} (hR : mx_R G base h H) {a : Nat} {e : va_E} (ha : h a = some e) : a < H.size := (hR.at ha).lt
theorem mx_R.ge {G : mx_G} {base : Nat} {h : mx_H} {H : Heap} (hR : mx_R G base h H) {a : Nat} {e : va_E} (ha : h a = some e) : base ≤ a := by
  obtain ⟨L, f, k, -, -, hD, -, -, hk⟩ := hR.get ha
  exact hD.2 k _ hk
theorem mx_R.set {G : mx_G} {base : Nat} {h : mx_H} {H1 : Heap} {L : List Nat} {f : Nat → va_E} {a k : Nat} {e0 e : va_E} (hh : ∀ a, h a = if a ∈ L then some (f a) else none) (hD0 : va_D (mx_A base) (va_pl L f)) (ha : a ∈ L) (hf : f a = e0) (hk : (va_pl L f)[k]? = some (a, e0))
    (hP : va_P G.1 mxCl ((va_pl L f).set k (a, e)) H1) (hD : va_D (mx_A base) ((va_pl L f).set k (a, e))) : mx_R G base (va_up h a (some e)) H1 := by
  have hs : (va_pl L f).set k (a, e) = va_pl L (va_up f a e) := va_pl_set (X := []) hD0 ha (by rw [← hf] at hk; exact hk)
  rw [hs] at hP hD
  refine ⟨L, va_up f a e, fun x => ?_, hP, hD⟩
  by_cases hx : x = a
  · subst hx
    rw [va_up_self, va_up_self, if_pos ha]
  · rw [va_up_ne _ _ hx, va_up_ne _ _ hx]
    exact hh x
theorem mx_R.push {G : mx_G} {base : Nat} {h : mx_H} {H H1 : Heap} {L : List Nat} {f : Nat → va_E} {q : Nat} {e : va_E} (hh : ∀ a, h a = if a ∈ L then some (f a) else none) (hq : q ∉ L)
    (hP : va_P G.1 mxCl (va_pl L f ++ [(q, e)]) H1) (hD : va_D (mx_A base) (va_pl L f ++ [(q, e)])) : mx_R G base (va_up h q (some e)) H1 := by
  have hs := va_pl_push (f := f) (e := e) hq
  rw [hs] at hP hD
  refine ⟨L ++ [q], va_up f q e, fun x => ?_, hP, hD⟩
  by_cases hx : x = q
  · subst hx
    rw [va_up_self, va_up_self, if_pos (List.mem_append_right _ (List.mem_singleton.mpr rfl))]
  · rw [va_up_ne _ _ hx, va_up_ne _ _ hx, hh x]
    by_cases hL : x ∈ L
    · rw [if_pos hL, if_pos (List.mem_append_left _ hL)]
    · rw [if_neg hL, if_neg (fun z => (List.mem_append.mp z).elim hL (fun y => hx (List.mem_singleton.mp y)))]
/-- locals: what is known of each place -/
def mx_L (ls : Array Slot) (nL : Nat) (lo : List (Option Value)) : Prop := ls.size = nL ∧ lv_wf ls ∧ ∀ (i : Nat) (v : Value), lo[i]? = some (some v) → ls[i]? = some (.val v)
def mx_al (lo : List (Option Value)) : List (Nat × Value) := (List.range lo.length).filterMap (fun i => match lo[i]? with
  | some (some v) => some (i, v)
  | _ => none)
theorem mx_al_mem {lo : List (Option Value)} {i : Nat} {v : Value} : (i, v) ∈ mx_al lo ↔ lo[i]? = some (some v) := by
  unfold mx_al
  rw [List.mem_filterMap]
  constructor
  · rintro ⟨j, hj, he⟩
    split at he
    · rename_i w hw
      cases he
      exact hw
    · cases he
  · intro h
    refine ⟨i, List.mem_range.mpr (List.getElem?_eq_some_iff.mp h).1, ?_⟩
    rw [h]
theorem mx_L.has {ls : Array Slot} {nL : Nat} {lo : List (Option Value)} (h : mx_L ls nL lo) : lv_has ls nL (mx_al lo) := ⟨h.1, h.2.1, fun q hq => h.2.2 q.1 q.2 (mx_al_mem.mp hq)⟩
def mx_c1 (lo : List (Option Value)) (i : Nat) : Prop := i = 0 ∨ ∀ w, lo[i - 1]? = some (some w) → w.category = 1
theorem mx_c1_0 {lo : List (Option Value)} : mx_c1 lo 0 := Or.inl rfl
theorem mx_c1_int {lo : List (Option Value)} {i : Nat} {x : Int32} (h : lo[i - 1]? = some (some (.int x))) : mx_c1 lo i := Or.inr fun w hw => by rw [h] at hw; cases hw; rfl
theorem mx_c1_ref {lo : List (Option Value)} {i : Nat} {x : Nat} (h : lo[i - 1]? = some (some (.ref x))) : mx_c1 lo i := Or.inr fun w hw => by rw [h] at hw; cases hw; rfl
theorem mx_c1_rf {lo : List (Option Value)} {i : Nat} {x : Option Nat} (h : lo[i - 1]? = some (some (va_rf x))) : mx_c1 lo i := Or.inr fun w hw => by
  rw [h] at hw
  have hw := Option.some.inj (Option.some.inj hw)
  subst hw
  cases x <;> rfl
theorem mx_c1_null {lo : List (Option Value)} {i : Nat} (h : lo[i - 1]? = some (some .null)) : mx_c1 lo i := Or.inr fun w hw => by rw [h] at hw; cases hw; rfl
theorem mx_c1_none {lo : List (Option Value)} {i : Nat} (h : lo[i - 1]? = some none) : mx_c1 lo i := Or.inr fun w hw => by rw [h] at hw; cases hw
theorem mx_L.set1 {ls' : Array Slot} {nL : Nat} {lo : List (Option Value)} {i : Nat} {v : Value} (hc : mx_c1 lo i)
    (h' : lv_has ls' nL ((i, v) :: (mx_al lo).filter (fun q => !(q.1 == i) && !(q.1 + 1 == i && q.2.category == 2)))) : mx_L ls' nL (lo.set i (some v)) := by
  refine ⟨h'.1, h'.2.1, fun j w hj => ?_⟩
  by_cases e : i = j
  · subst e
    have hl : i < lo.length := by
      have := (List.getElem?_eq_some_iff.mp hj).1
      rw [List.length_set] at this
      exact this
    rw [List.getElem?_set_self hl] at hj
    have hw : v = w := Option.some.inj (Option.some.inj hj)
    subst hw
    exact h'.2.2 (i, v) List.mem_cons_self
  · rw [List.getElem?_set_ne e] at hj
    refine h'.2.2 (j, w) (List.mem_cons_of_mem _ (List.mem_filter.mpr ⟨mx_al_mem.mpr hj, ?_⟩))
    have h1 : (j == i) = false := by
      rw [beq_eq_false_iff_ne]
      exact fun z => e z.symm
    show (!(j == i) && !(j + 1 == i && w.category == 2)) = true
    rw [h1]
    by_cases h2 : j + 1 = i
    · subst h2
      rcases hc with h3 | h3
      · omega
      · have h4 := h3 w (by rw [Nat.add_sub_cancel]; exact hj)
        rw [h4]
        simp
    · have h3 : (j + 1 == i) = false := by
        rw [beq_eq_false_iff_ne]
        exact h2
      rw [h3]
      rfl
theorem mx_L.set2 {ls' : Array Slot} {nL : Nat} {lo : List (Option Value)} {i : Nat} {v : Value} (hc : mx_c1 lo i)
    (h' : lv_has ls' nL ((i, v) :: (mx_al lo).filter (fun q => !(q.1 == i) && (!(q.1 == i + 1) && !(q.1 + 1 == i && q.2.category == 2))))) : mx_L ls' nL ((lo.set i (some v)).set (i + 1) none) := by
  refine ⟨h'.1, h'.2.1, fun j w hj => ?_⟩
  by_cases e2 : i + 1 = j
  · subst e2
    have hl : i + 1 < (lo.set i (some v)).length := by
      have := (List.getElem?_eq_some_iff.mp hj).1
      rw [List.length_set] at this
      exact this
    rw [List.getElem?_set_self hl] at hj
    cases hj
  rw [List.getElem?_set_ne e2] at hj
  by_cases e : i = j
  · subst e
    have hl : i < lo.length := by
      have := (List.getElem?_eq_some_iff.mp hj).1
      rw [List.length_set] at this
      exact this
    rw [List.getElem?_set_self hl] at hj
    have hw : v = w := Option.some.inj (Option.some.inj hj)
    subst hw
    exact h'.2.2 (i, v) List.mem_cons_self
  · rw [List.getElem?_set_ne e] at hj
    refine h'.2.2 (j, w) (List.mem_cons_of_mem _ (List.mem_filter.mpr ⟨mx_al_mem.mpr hj, ?_⟩))
    have h1 : (j == i) = false := by
      rw [beq_eq_false_iff_ne]
      exact fun z => e z.symm
    have h1' : (j == i + 1) = false := by
      rw [beq_eq_false_iff_ne]
      exact fun z => e2 z.symm
    show (!(j == i) && (!(j == i + 1) && !(j + 1 == i && w.category == 2))) = true
    rw [h1, h1']
    by_cases h2 : j + 1 = i
    · subst h2
      rcases hc with h3 | h3
      · omega
      · have h4 := h3 w (by rw [Nat.add_sub_cancel]; exact hj)
        rw [h4]
        simp
    · have h3 : (j + 1 == i) = false := by
        rw [beq_eq_false_iff_ne]
        exact h2
      rw [h3]
      rfl
/-- fewer locals are known -/
def mx_le (lo lo' : List (Option Value)) : Prop := ∀ (i : Nat) (v : Value), lo'[i]? = some (some v) → lo[i]? = some (some v)
theorem mx_le_nil {lo : List (Option Value)} : mx_le lo [] := fun i v h => by simp at h
theorem mx_le_keep {a : Option Value} {lo lo' : List (Option Value)} (h : mx_le lo lo') : mx_le (a :: lo) (a :: lo') := fun i v hi => by
  cases i with
  | zero => exact hi
  | succ i => exact h i v hi
theorem mx_le_drop {a : Option Value} {lo lo' : List (Option Value)} (h : mx_le lo lo') : mx_le (a :: lo) (none :: lo') := fun i v hi => by
  cases i with
  | zero => cases hi
  | succ i => exact h i v hi
/-- where a method's body stands -/
def mx_C (p : Program) (s : State) (m : MethodId) (args : Array Value) (meth : Method) (c : Code) (cc : ByteArray) (nL : Nat) (own : String) (G : mx_G) (base : Nat) : Prop :=
  p.tables.exec = Jvm.exec ∧ c.code = cc ∧ c.maxLocals = nL ∧ s.vm.findClass own = some m.cls ∧ (∀ w ∈ mx_tb, w.before args s = true) ∧ va_K G.1 mxCl (mx_ts G) s ∧ base ≤ s.heap.size ∧ meth.locks = false
def mx_V (p : Program) (l : Launch) (e : Env) (R : Room) (s : State) (m : MethodId) (args : Array Value) (below : List Frame) (meth : Method) (c : Code) (G : mx_G) (base nL : Nat) (Q : State → Prop) (h : mx_H) (kc ks pc : Nat) (lo : List (Option Value)) (st : List Value) : Prop :=
  ∀ (H : Heap) (locs : List Loc) (ls : Array Slot), mx_R G base h H → va_S (mx_A base) s.heap H locs → mx_L ls nL lo → W p l e R s m args below meth c H locs kc ks Q (F0 m pc ls st)
section MX
variable {p : Program} {l : Launch} {e : Env} {R : Room} {s : State} {m : MethodId} {args : Array Value} {below : List Frame} {meth : Method} {c : Code} {cc : ByteArray} {own : String} {G : mx_G} {base nL : Nat} {Q : State → Prop} {h : mx_H} {kc ks pc : Nat} {lo : List (Option Value)} {st : List Value}
theorem mx_weak {lo' : List (Option Value)} (hl : mx_le lo lo') (k : mx_V p l e R s m args below meth c G base nL Q h kc ks pc lo' st) : mx_V p l e R s m args below meth c G base nL Q h kc ks pc lo st := fun H locs ls hR hS hL => k H locs ls hR hS ⟨hL.1, hL.2.1, fun i v hi => hL.2.2 i v (hl i v hi)⟩
theorem mx_widen {k' n' : Nat} (h1 : kc ≤ k') (h2 : ks ≤ n') (k : mx_V p l e R s m args below meth c G base nL Q h k' n' pc lo st) : mx_V p l e R s m args below meth c G base nL Q h kc ks pc lo st := fun H locs ls hR hS hL => W.widen h1 h2 (k H locs ls hR hS hL)
theorem mx_iconst (C : mx_C p s m args meth c cc nL own G base) {n : Int} {v : Int32} (hv : Int32.ofInt n = v) (hd : decode cc pc = .ok (.iconst n, 1)) {pc' : Nat} (hp : pc + 1 = pc') (k : mx_V p l e R s m args below meth c G base nL Q h kc ks pc' lo (.int v :: st)) : mx_V p l e R s m args below meth c G base nL Q h kc ks pc lo st := by
  subst hp
  exact fun H locs ls hR hS hL => lv_iconst C.1 C.2.1 hd hv (k H locs ls hR hS hL)

theorem mx_bipush (C : mx_C p s m args meth c cc nL own G base) {n : Int} {v : Int32} (hv : (Int8.ofInt n).toInt32 = v) (hd : decode cc pc = .ok (.bipush n, 2)) {pc' : Nat} (hp : pc + 2 = pc') (k : mx_V p l e R s m args below meth c G base nL Q h kc ks pc' lo (.int v :: st)) : mx_V p l e R s m args below meth c G base nL Q h kc ks pc lo st := by
  subst hp
  exact fun H locs ls hR hS hL => lv_bipush C.1 C.2.1 hd hv (k H locs ls hR hS hL)

theorem mx_sipush (C : mx_C p s m args meth c cc nL own G base) {n : Int} {v : Int32} (hv : (Int16.ofInt n).toInt32 = v) (hd : decode cc pc = .ok (.sipush n, 3)) {pc' : Nat} (hp : pc + 3 = pc') (k : mx_V p l e R s m args below meth c G base nL Q h kc ks pc' lo (.int v :: st)) : mx_V p l e R s m args below meth c G base nL Q h kc ks pc lo st := by
  subst hp
  exact fun H locs ls hR hS hL => lv_sipush C.1 C.2.1 hd hv (k H locs ls hR hS hL)

theorem mx_lconst (C : mx_C p s m args meth c cc nL own G base) {n : Fin 2} {v : Int64} (hv : Int64.ofNat (n : Nat) = v) (hd : decode cc pc = .ok (.lconst n, 1)) {pc' : Nat} (hp : pc + 1 = pc') (k : mx_V p l e R s m args below meth c G base nL Q h kc ks pc' lo (.long v :: st)) : mx_V p l e R s m args below meth c G base nL Q h kc ks pc lo st := by
  subst hp
  exact fun H locs ls hR hS hL => lv_lconst C.1 C.2.1 hd hv (k H locs ls hR hS hL)

theorem mx_null (C : mx_C p s m args meth c cc nL own G base)   (hd : decode cc pc = .ok (.aconst_null, 1)) {pc' : Nat} (hp : pc + 1 = pc') (k : mx_V p l e R s m args below meth c G base nL Q h kc ks pc' lo (.null :: st)) : mx_V p l e R s m args below meth c G base nL Q h kc ks pc lo st := by
  subst hp
  exact fun H locs ls hR hS hL => lv_null C.1 C.2.1 hd  (k H locs ls hR hS hL)

theorem mx_iload_n (C : mx_C p s m args meth c cc nL own G base) {k0 : Fin 4} {x : Int32} (hd : decode cc pc = .ok (.iload_n k0, 1)) {pc' : Nat} (hp : pc + 1 = pc') (hl : lo[(k0 : Nat)]? = some (some (.int x))) (k : mx_V p l e R s m args below meth c G base nL Q h kc ks pc' lo (.int x :: st)) : mx_V p l e R s m args below meth c G base nL Q h kc ks pc lo st := by
  subst hp
  exact fun H locs ls hR hS hL => lv_iload_n C.1 C.2.1 hd rfl (hL.2.2 _ _ hl) (k H locs ls hR hS hL)

theorem mx_iload (C : mx_C p s m args meth c cc nL own G base) {i : Nat} {x : Int32} (hd : decode cc pc = .ok (.iload i, 2)) {pc' : Nat} (hp : pc + 2 = pc') (hl : lo[i]? = some (some (.int x))) (k : mx_V p l e R s m args below meth c G base nL Q h kc ks pc' lo (.int x :: st)) : mx_V p l e R s m args below meth c G base nL Q h kc ks pc lo st := by
  subst hp
  exact fun H locs ls hR hS hL => lv_iload C.1 C.2.1 hd (hL.2.2 _ _ hl) (k H locs ls hR hS hL)

theorem mx_lload_n (C : mx_C p s m args meth c cc nL own G base) {k0 : Fin 4} {x : Int64} (hd : decode cc pc = .ok (.lload_n k0, 1)) {pc' : Nat} (hp : pc + 1 = pc') (hl : lo[(k0 : Nat)]? = some (some (.long x))) (k : mx_V p l e R s m args below meth c G base nL Q h kc ks pc' lo (.long x :: st)) : mx_V p l e R s m args below meth c G base nL Q h kc ks pc lo st := by
  subst hp
  exact fun H locs ls hR hS hL => lv_lload_n C.1 C.2.1 hd rfl (hL.2.2 _ _ hl) (k H locs ls hR hS hL)

theorem mx_lload (C : mx_C p s m args meth c cc nL own G base) {i : Nat} {x : Int64} (hd : decode cc pc = .ok (.lload i, 2)) {pc' : Nat} (hp : pc + 2 = pc') (hl : lo[i]? = some (some (.long x))) (k : mx_V p l e R s m args below meth c G base nL Q h kc ks pc' lo (.long x :: st)) : mx_V p l e R s m args below meth c G base nL Q h kc ks pc lo st := by
  subst hp
  exact fun H locs ls hR hS hL => lv_lload C.1 C.2.1 hd (hL.2.2 _ _ hl) (k H locs ls hR hS hL)

theorem mx_aload_n (C : mx_C p s m args meth c cc nL own G base) {k0 : Fin 4} {x : Nat} (hd : decode cc pc = .ok (.aload_n k0, 1)) {pc' : Nat} (hp : pc + 1 = pc') (hl : lo[(k0 : Nat)]? = some (some (.ref x))) (k : mx_V p l e R s m args below meth c G base nL Q h kc ks pc' lo (.ref x :: st)) : mx_V p l e R s m args below meth c G base nL Q h kc ks pc lo st := by
  subst hp
  exact fun H locs ls hR hS hL => lv_aload_n C.1 C.2.1 hd rfl (hL.2.2 _ _ hl) (k H locs ls hR hS hL)

theorem mx_aload (C : mx_C p s m args meth c cc nL own G base) {i : Nat} {x : Nat} (hd : decode cc pc = .ok (.aload i, 2)) {pc' : Nat} (hp : pc + 2 = pc') (hl : lo[i]? = some (some (.ref x))) (k : mx_V p l e R s m args below meth c G base nL Q h kc ks pc' lo (.ref x :: st)) : mx_V p l e R s m args below meth c G base nL Q h kc ks pc lo st := by
  subst hp
  exact fun H locs ls hR hS hL => lv_aload C.1 C.2.1 hd (hL.2.2 _ _ hl) (k H locs ls hR hS hL)

theorem mx_aload_nq (C : mx_C p s m args meth c cc nL own G base) {k0 : Fin 4} {x : Option Nat} (hd : decode cc pc = .ok (.aload_n k0, 1)) {pc' : Nat} (hp : pc + 1 = pc') (hl : lo[(k0 : Nat)]? = some (some (va_rf x))) (k : mx_V p l e R s m args below meth c G base nL Q h kc ks pc' lo (va_rf x :: st)) : mx_V p l e R s m args below meth c G base nL Q h kc ks pc lo st := by
  subst hp
  intro H locs ls hR hS hL
  cases x with
  | none => exact lv_aload_nN C.1 C.2.1 hd rfl (hL.2.2 _ _ hl) (k H locs ls hR hS hL)
  | some a => exact lv_aload_n C.1 C.2.1 hd rfl (hL.2.2 _ _ hl) (k H locs ls hR hS hL)
theorem mx_aloadq (C : mx_C p s m args meth c cc nL own G base) {i : Nat} {x : Option Nat} (hd : decode cc pc = .ok (.aload i, 2)) {pc' : Nat} (hp : pc + 2 = pc') (hl : lo[i]? = some (some (va_rf x))) (k : mx_V p l e R s m args below meth c G base nL Q h kc ks pc' lo (va_rf x :: st)) : mx_V p l e R s m args below meth c G base nL Q h kc ks pc lo st := by
  subst hp
  intro H locs ls hR hS hL
  cases x with
  | none => exact lv_aloadN C.1 C.2.1 hd (hL.2.2 _ _ hl) (k H locs ls hR hS hL)
  | some a => exact lv_aload C.1 C.2.1 hd (hL.2.2 _ _ hl) (k H locs ls hR hS hL)

theorem mx_istore_n (C : mx_C p s m args meth c cc nL own G base) {k0 : Fin 4} {x : Int32} (hd : decode cc pc = .ok (.istore_n k0, 1)) {pc' : Nat} (hp : pc + 1 = pc') (hc : mx_c1 lo (k0 : Nat)) (hn : (k0 : Nat) < nL) {lo' : List (Option Value)} (hs : lo.set (k0 : Nat) (some (.int x)) = lo') (k : mx_V p l e R s m args below meth c G base nL Q h kc ks pc' lo' st) : mx_V p l e R s m args below meth c G base nL Q h kc ks pc lo (.int x :: st) := by
  subst hp
  subst hs
  exact fun H locs ls hR hS hL => lv_istore_n C.1 C.2.1 hd rfl hL.has hn rfl (fun ls' h' => k H locs ls' hR hS (mx_L.set1 hc h'))
theorem mx_istore (C : mx_C p s m args meth c cc nL own G base) {i : Nat} {x : Int32} (hd : decode cc pc = .ok (.istore i, 2)) {pc' : Nat} (hp : pc + 2 = pc') (hc : mx_c1 lo i) (hn : i < nL) {lo' : List (Option Value)} (hs : lo.set i (some (.int x)) = lo') (k : mx_V p l e R s m args below meth c G base nL Q h kc ks pc' lo' st) : mx_V p l e R s m args below meth c G base nL Q h kc ks pc lo (.int x :: st) := by
  subst hp
  subst hs
  exact fun H locs ls hR hS hL => lv_istore C.1 C.2.1 hd hL.has hn rfl (fun ls' h' => k H locs ls' hR hS (mx_L.set1 hc h'))

theorem mx_astore_n (C : mx_C p s m args meth c cc nL own G base) {k0 : Fin 4} {x : Nat} (hd : decode cc pc = .ok (.astore_n k0, 1)) {pc' : Nat} (hp : pc + 1 = pc') (hc : mx_c1 lo (k0 : Nat)) (hn : (k0 : Nat) < nL) {lo' : List (Option Value)} (hs : lo.set (k0 : Nat) (some (.ref x)) = lo') (k : mx_V p l e R s m args below meth c G base nL Q h kc ks pc' lo' st) : mx_V p l e R s m args below meth c G base nL Q h kc ks pc lo (.ref x :: st) := by
  subst hp
  subst hs
  exact fun H locs ls hR hS hL => lv_astore_n C.1 C.2.1 hd rfl hL.has hn rfl (fun ls' h' => k H locs ls' hR hS (mx_L.set1 hc h'))
theorem mx_astore (C : mx_C p s m args meth c cc nL own G base) {i : Nat} {x : Nat} (hd : decode cc pc = .ok (.astore i, 2)) {pc' : Nat} (hp : pc + 2 = pc') (hc : mx_c1 lo i) (hn : i < nL) {lo' : List (Option Value)} (hs : lo.set i (some (.ref x)) = lo') (k : mx_V p l e R s m args below meth c G base nL Q h kc ks pc' lo' st) : mx_V p l e R s m args below meth c G base nL Q h kc ks pc lo (.ref x :: st) := by
  subst hp
  subst hs
  exact fun H locs ls hR hS hL => lv_astore C.1 C.2.1 hd hL.has hn rfl (fun ls' h' => k H locs ls' hR hS (mx_L.set1 hc h'))

theorem mx_astore_nq (C : mx_C p s m args meth c cc nL own G base) {k0 : Fin 4} {x : Option Nat} (hd : decode cc pc = .ok (.astore_n k0, 1)) {pc' : Nat} (hp : pc + 1 = pc') (hc : mx_c1 lo (k0 : Nat)) (hn : (k0 : Nat) < nL) {lo' : List (Option Value)} (hs : lo.set (k0 : Nat) (some (va_rf x)) = lo') (k : mx_V p l e R s m args below meth c G base nL Q h kc ks pc' lo' st) : mx_V p l e R s m args below meth c G base nL Q h kc ks pc lo (va_rf x :: st) := by
  subst hp
  subst hs
  intro H locs ls hR hS hL
  cases x with
  | none => exact lv_astore_nN C.1 C.2.1 hd rfl hL.has hn rfl (fun ls' h' => k H locs ls' hR hS (mx_L.set1 hc h'))
  | some a => exact lv_astore_n C.1 C.2.1 hd rfl hL.has hn rfl (fun ls' h' => k H locs ls' hR hS (mx_L.set1 hc h'))
theorem mx_astoreq (C : mx_C p s m args meth c cc nL own G base) {i : Nat} {x : Option Nat} (hd : decode cc pc = .ok (.astore i, 2)) {pc' : Nat} (hp : pc + 2 = pc') (hc : mx_c1 lo i) (hn : i < nL) {lo' : List (Option Value)} (hs : lo.set i (some (va_rf x)) = lo') (k : mx_V p l e R s m args below meth c G base nL Q h kc ks pc' lo' st) : mx_V p l e R s m args below meth c G base nL Q h kc ks pc lo (va_rf x :: st) := by
  subst hp
  subst hs
  intro H locs ls hR hS hL
  cases x with
  | none => exact lv_astoreN C.1 C.2.1 hd hL.has hn rfl (fun ls' h' => k H locs ls' hR hS (mx_L.set1 hc h'))
  | some a => exact lv_astore C.1 C.2.1 hd hL.has hn rfl (fun ls' h' => k H locs ls' hR hS (mx_L.set1 hc h'))
theorem mx_lstore_n (C : mx_C p s m args meth c cc nL own G base) {k0 : Fin 4} {x : Int64} (hd : decode cc pc = .ok (.lstore_n k0, 1)) {pc' : Nat} (hp : pc + 1 = pc') (hc : mx_c1 lo (k0 : Nat)) (hn : (k0 : Nat) + 1 < nL) {lo' : List (Option Value)} (hs : (lo.set (k0 : Nat) (some (.long x))).set ((k0 : Nat) + 1) none = lo') (k : mx_V p l e R s m args below meth c G base nL Q h kc ks pc' lo' st) : mx_V p l e R s m args below meth c G base nL Q h kc ks pc lo (.long x :: st) := by
  subst hp
  subst hs
  exact fun H locs ls hR hS hL => lv_lstore_n C.1 C.2.1 hd rfl hL.has hn rfl (fun ls' h' => k H locs ls' hR hS (mx_L.set2 hc h'))
theorem mx_lstore (C : mx_C p s m args meth c cc nL own G base) {i : Nat} {x : Int64} (hd : decode cc pc = .ok (.lstore i, 2)) {pc' : Nat} (hp : pc + 2 = pc') (hc : mx_c1 lo i) (hn : i + 1 < nL) {lo' : List (Option Value)} (hs : (lo.set i (some (.long x))).set (i + 1) none = lo') (k : mx_V p l e R s m args below meth c G base nL Q h kc ks pc' lo' st) : mx_V p l e R s m args below meth c G base nL Q h kc ks pc lo (.long x :: st) := by
  subst hp
  subst hs
  exact fun H locs ls hR hS hL => lv_lstore C.1 C.2.1 hd hL.has hn rfl (fun ls' h' => k H locs ls' hR hS (mx_L.set2 hc h'))
theorem mx_iinc (C : mx_C p s m args meth c cc nL own G base) {i : Nat} {n : Int} {x v : Int32} (hd : decode cc pc = .ok (.iinc i n, 3)) {pc' : Nat} (hp : pc + 3 = pc') (hl : lo[i]? = some (some (.int x))) (hv : x + Int32.ofInt n = v) (hc : mx_c1 lo i) (hn : i < nL) {lo' : List (Option Value)} (hs : lo.set i (some (.int v)) = lo') (k : mx_V p l e R s m args below meth c G base nL Q h kc ks pc' lo' st) : mx_V p l e R s m args below meth c G base nL Q h kc ks pc lo st := by
  subst hp
  subst hs
  intro H locs ls hR hS hL
  obtain ⟨j, hj⟩ := List.getElem?_of_mem (mx_al_mem.mpr hl)
  exact lv_iinc C.1 C.2.1 hd hL.has hj hv hn rfl (fun ls' h' => k H locs ls' hR hS (mx_L.set1 hc h'))

theorem mx_iadd (C : mx_C p s m args meth c cc nL own G base) {x y : Int32}  (hd : decode cc pc = .ok (.iadd, 1)) {pc' : Nat} (hp : pc + 1 = pc') (k : mx_V p l e R s m args below meth c G base nL Q h kc ks pc' lo (.int (x + y) :: st)) : mx_V p l e R s m args below meth c G base nL Q h kc ks pc lo (.int y :: .int x :: st) := by
  subst hp
  exact fun H locs ls hR hS hL => lv_iadd C.1 C.2.1 hd  (k H locs ls hR hS hL)

theorem mx_isub (C : mx_C p s m args meth c cc nL own G base) {x y : Int32}  (hd : decode cc pc = .ok (.isub, 1)) {pc' : Nat} (hp : pc + 1 = pc') (k : mx_V p l e R s m args below meth c G base nL Q h kc ks pc' lo (.int (x - y) :: st)) : mx_V p l e R s m args below meth c G base nL Q h kc ks pc lo (.int y :: .int x :: st) := by
  subst hp
  exact fun H locs ls hR hS hL => lv_isub C.1 C.2.1 hd  (k H locs ls hR hS hL)

theorem mx_imul (C : mx_C p s m args meth c cc nL own G base) {x y : Int32}  (hd : decode cc pc = .ok (.imul, 1)) {pc' : Nat} (hp : pc + 1 = pc') (k : mx_V p l e R s m args below meth c G base nL Q h kc ks pc' lo (.int (x * y) :: st)) : mx_V p l e R s m args below meth c G base nL Q h kc ks pc lo (.int y :: .int x :: st) := by
  subst hp
  exact fun H locs ls hR hS hL => lv_imul C.1 C.2.1 hd  (k H locs ls hR hS hL)

theorem mx_iand (C : mx_C p s m args meth c cc nL own G base) {x y : Int32}  (hd : decode cc pc = .ok (.iand, 1)) {pc' : Nat} (hp : pc + 1 = pc') (k : mx_V p l e R s m args below meth c G base nL Q h kc ks pc' lo (.int (x &&& y) :: st)) : mx_V p l e R s m args below meth c G base nL Q h kc ks pc lo (.int y :: .int x :: st) := by
  subst hp
  exact fun H locs ls hR hS hL => lv_iand C.1 C.2.1 hd  (k H locs ls hR hS hL)

theorem mx_ior (C : mx_C p s m args meth c cc nL own G base) {x y : Int32}  (hd : decode cc pc = .ok (.ior, 1)) {pc' : Nat} (hp : pc + 1 = pc') (k : mx_V p l e R s m args below meth c G base nL Q h kc ks pc' lo (.int (x ||| y) :: st)) : mx_V p l e R s m args below meth c G base nL Q h kc ks pc lo (.int y :: .int x :: st) := by
  subst hp
  exact fun H locs ls hR hS hL => lv_ior C.1 C.2.1 hd  (k H locs ls hR hS hL)

theorem mx_ladd (C : mx_C p s m args meth c cc nL own G base) {x y : Int64}  (hd : decode cc pc = .ok (.ladd, 1)) {pc' : Nat} (hp : pc + 1 = pc') (k : mx_V p l e R s m args below meth c G base nL Q h kc ks pc' lo (.long (x + y) :: st)) : mx_V p l e R s m args below meth c G base nL Q h kc ks pc lo (.long y :: .long x :: st) := by
  subst hp
  exact fun H locs ls hR hS hL => lv_ladd C.1 C.2.1 hd  (k H locs ls hR hS hL)

theorem mx_lsub (C : mx_C p s m args meth c cc nL own G base) {x y : Int64}  (hd : decode cc pc = .ok (.lsub, 1)) {pc' : Nat} (hp : pc + 1 = pc') (k : mx_V p l e R s m args below meth c G base nL Q h kc ks pc' lo (.long (x - y) :: st)) : mx_V p l e R s m args below meth c G base nL Q h kc ks pc lo (.long y :: .long x :: st) := by
  subst hp
  exact fun H locs ls hR hS hL => lv_lsub C.1 C.2.1 hd  (k H locs ls hR hS hL)

theorem mx_lmul (C : mx_C p s m args meth c cc nL own G base) {x y : Int64}  (hd : decode cc pc = .ok (.lmul, 1)) {pc' : Nat} (hp : pc + 1 = pc') (k : mx_V p l e R s m args below meth c G base nL Q h kc ks pc' lo (.long (x * y) :: st)) : mx_V p l e R s m args below meth c G base nL Q h kc ks pc lo (.long y :: .long x :: st) := by
  subst hp
  exact fun H locs ls hR hS hL => lv_lmul C.1 C.2.1 hd  (k H locs ls hR hS hL)

theorem mx_lor (C : mx_C p s m args meth c cc nL own G base) {x y : Int64}  (hd : decode cc pc = .ok (.lor, 1)) {pc' : Nat} (hp : pc + 1 = pc') (k : mx_V p l e R s m args below meth c G base nL Q h kc ks pc' lo (.long (x ||| y) :: st)) : mx_V p l e R s m args below meth c G base nL Q h kc ks pc lo (.long y :: .long x :: st) := by
  subst hp
  exact fun H locs ls hR hS hL => lv_lor C.1 C.2.1 hd  (k H locs ls hR hS hL)

theorem mx_land (C : mx_C p s m args meth c cc nL own G base) {x y : Int64}  (hd : decode cc pc = .ok (.land, 1)) {pc' : Nat} (hp : pc + 1 = pc') (k : mx_V p l e R s m args below meth c G base nL Q h kc ks pc' lo (.long (x &&& y) :: st)) : mx_V p l e R s m args below meth c G base nL Q h kc ks pc lo (.long y :: .long x :: st) := by
  subst hp
  exact fun H locs ls hR hS hL => lv_land C.1 C.2.1 hd  (k H locs ls hR hS hL)

theorem mx_idiv (C : mx_C p s m args meth c cc nL own G base) {x y : Int32} (hne : ¬ y = 0) (hd : decode cc pc = .ok (.idiv, 1)) {pc' : Nat} (hp : pc + 1 = pc') (k : mx_V p l e R s m args below meth c G base nL Q h kc ks pc' lo (.int (x / y) :: st)) : mx_V p l e R s m args below meth c G base nL Q h kc ks pc lo (.int y :: .int x :: st) := by
  subst hp
  exact fun H locs ls hR hS hL => lv_idiv C.1 C.2.1 hd hne (k H locs ls hR hS hL)

theorem mx_irem (C : mx_C p s m args meth c cc nL own G base) {x y : Int32} (hne : ¬ y = 0) (hd : decode cc pc = .ok (.irem, 1)) {pc' : Nat} (hp : pc + 1 = pc') (k : mx_V p l e R s m args below meth c G base nL Q h kc ks pc' lo (.int (x - x / y * y) :: st)) : mx_V p l e R s m args below meth c G base nL Q h kc ks pc lo (.int y :: .int x :: st) := by
  subst hp
  exact fun H locs ls hR hS hL => lv_irem C.1 C.2.1 hd hne (k H locs ls hR hS hL)

theorem mx_ldiv (C : mx_C p s m args meth c cc nL own G base) {x y : Int64} (hne : ¬ y = 0) (hd : decode cc pc = .ok (.ldiv, 1)) {pc' : Nat} (hp : pc + 1 = pc') (k : mx_V p l e R s m args below meth c G base nL Q h kc ks pc' lo (.long (x / y) :: st)) : mx_V p l e R s m args below meth c G base nL Q h kc ks pc lo (.long y :: .long x :: st) := by
  subst hp
  exact fun H locs ls hR hS hL => lv_ldiv C.1 C.2.1 hd hne (k H locs ls hR hS hL)

theorem mx_lrem (C : mx_C p s m args meth c cc nL own G base) {x y : Int64} (hne : ¬ y = 0) (hd : decode cc pc = .ok (.lrem, 1)) {pc' : Nat} (hp : pc + 1 = pc') (k : mx_V p l e R s m args below meth c G base nL Q h kc ks pc' lo (.long (x - x / y * y) :: st)) : mx_V p l e R s m args below meth c G base nL Q h kc ks pc lo (.long y :: .long x :: st) := by
  subst hp
  exact fun H locs ls hR hS hL => lv_lrem C.1 C.2.1 hd hne (k H locs ls hR hS hL)

theorem mx_ineg (C : mx_C p s m args meth c cc nL own G base) {x : Int32}  (hd : decode cc pc = .ok (.ineg, 1)) {pc' : Nat} (hp : pc + 1 = pc') (k : mx_V p l e R s m args below meth c G base nL Q h kc ks pc' lo (.int (-x) :: st)) : mx_V p l e R s m args below meth c G base nL Q h kc ks pc lo (.int x :: st) := by
  subst hp
  exact fun H locs ls hR hS hL => lv_ineg C.1 C.2.1 hd  (k H locs ls hR hS hL)

theorem mx_ishl (C : mx_C p s m args meth c cc nL own G base) {x y : Int32}  (hd : decode cc pc = .ok (.ishl, 1)) {pc' : Nat} (hp : pc + 1 = pc') (k : mx_V p l e R s m args below meth c G base nL Q h kc ks pc' lo (.int (x <<< (y &&& 31)) :: st)) : mx_V p l e R s m args below meth c G base nL Q h kc ks pc lo (.int y :: .int x :: st) := by
  subst hp
  exact fun H locs ls hR hS hL => lv_ishl C.1 C.2.1 hd  (k H locs ls hR hS hL)

theorem mx_i2l (C : mx_C p s m args meth c cc nL own G base) {x : Int32} {v : Int64} (hv : x.toInt64 = v) (hd : decode cc pc = .ok (.i2l, 1)) {pc' : Nat} (hp : pc + 1 = pc') (k : mx_V p l e R s m args below meth c G base nL Q h kc ks pc' lo (.long v :: st)) : mx_V p l e R s m args below meth c G base nL Q h kc ks pc lo (.int x :: st) := by
  subst hp
  exact fun H locs ls hR hS hL => lv_i2l C.1 C.2.1 hd hv (k H locs ls hR hS hL)

theorem mx_l2i (C : mx_C p s m args meth c cc nL own G base) {x : Int64} {v : Int32} (hv : x.toInt32 = v) (hd : decode cc pc = .ok (.l2i, 1)) {pc' : Nat} (hp : pc + 1 = pc') (k : mx_V p l e R s m args below meth c G base nL Q h kc ks pc' lo (.int v :: st)) : mx_V p l e R s m args below meth c G base nL Q h kc ks pc lo (.long x :: st) := by
  subst hp
  exact fun H locs ls hR hS hL => lv_l2i C.1 C.2.1 hd hv (k H locs ls hR hS hL)

theorem mx_i2b (C : mx_C p s m args meth c cc nL own G base) {x v : Int32} (hv : x.toInt8.toInt32 = v) (hd : decode cc pc = .ok (.i2b, 1)) {pc' : Nat} (hp : pc + 1 = pc') (k : mx_V p l e R s m args below meth c G base nL Q h kc ks pc' lo (.int v :: st)) : mx_V p l e R s m args below meth c G base nL Q h kc ks pc lo (.int x :: st) := by
  subst hp
  exact fun H locs ls hR hS hL => lv_i2b C.1 C.2.1 hd hv (k H locs ls hR hS hL)

theorem mx_i2c (C : mx_C p s m args meth c cc nL own G base) {x v : Int32} (hv : (x.toUInt32 % 65536).toInt32 = v) (hd : decode cc pc = .ok (.i2c, 1)) {pc' : Nat} (hp : pc + 1 = pc') (k : mx_V p l e R s m args below meth c G base nL Q h kc ks pc' lo (.int v :: st)) : mx_V p l e R s m args below meth c G base nL Q h kc ks pc lo (.int x :: st) := by
  subst hp
  exact fun H locs ls hR hS hL => lv_i2c C.1 C.2.1 hd hv (k H locs ls hR hS hL)

theorem mx_lshl (C : mx_C p s m args meth c cc nL own G base) {x v : Int64} {y : Int32} (hv : x <<< (y.toInt64 &&& 63) = v) (hd : decode cc pc = .ok (.lshl, 1)) {pc' : Nat} (hp : pc + 1 = pc') (k : mx_V p l e R s m args below meth c G base nL Q h kc ks pc' lo (.long v :: st)) : mx_V p l e R s m args below meth c G base nL Q h kc ks pc lo (.int y :: .long x :: st) := by
  subst hp
  exact fun H locs ls hR hS hL => lv_lshl C.1 C.2.1 hd hv (k H locs ls hR hS hL)

theorem mx_lcmp (C : mx_C p s m args meth c cc nL own G base) {x y : Int64}  (hd : decode cc pc = .ok (.lcmp, 1)) {pc' : Nat} (hp : pc + 1 = pc') (k : mx_V p l e R s m args below meth c G base nL Q h kc ks pc' lo (.int (lg_cmp x y) :: st)) : mx_V p l e R s m args below meth c G base nL Q h kc ks pc lo (.long y :: .long x :: st) := by
  subst hp
  exact fun H locs ls hR hS hL => W.lcmp C.1 C.2.1 hd  (k H locs ls hR hS hL)

theorem mx_dup (C : mx_C p s m args meth c cc nL own G base) {va : Value} (hva : va.category = 1) (hd : decode cc pc = .ok (.dup, 1)) {pc' : Nat} (hp : pc + 1 = pc') (k : mx_V p l e R s m args below meth c G base nL Q h kc ks pc' lo (va :: va :: st)) : mx_V p l e R s m args below meth c G base nL Q h kc ks pc lo (va :: st) := by
  subst hp
  exact fun H locs ls hR hS hL => lv_dup C.1 C.2.1 hd hva (k H locs ls hR hS hL)

theorem mx_pop (C : mx_C p s m args meth c cc nL own G base) {va : Value} (hva : va.category = 1) (hd : decode cc pc = .ok (.pop, 1)) {pc' : Nat} (hp : pc + 1 = pc') (k : mx_V p l e R s m args below meth c G base nL Q h kc ks pc' lo st) : mx_V p l e R s m args below meth c G base nL Q h kc ks pc lo (va :: st) := by
  subst hp
  exact fun H locs ls hR hS hL => lv_pop C.1 C.2.1 hd hva (k H locs ls hR hS hL)

theorem mx_dup2 (C : mx_C p s m args meth c cc nL own G base) {va vb : Value} (hva : va.category = 1) (hvb : vb.category = 1) (hd : decode cc pc = .ok (.dup2, 1)) {pc' : Nat} (hp : pc + 1 = pc') (k : mx_V p l e R s m args below meth c G base nL Q h kc ks pc' lo (va :: vb :: va :: vb :: st)) : mx_V p l e R s m args below meth c G base nL Q h kc ks pc lo (va :: vb :: st) := by
  subst hp
  exact fun H locs ls hR hS hL => lv_dup2_11 C.1 C.2.1 hd hva hvb (k H locs ls hR hS hL)

theorem mx_ldc2 (C : mx_C p s m args meth c cc nL own G base) {index : Nat} {v : Int64} (hw : Cond.constantLong own index v ∈ mx_tb) (hd : decode cc pc = .ok (.ldc2_w index, 3)) {pc' : Nat} (hp : pc + 3 = pc') (k : mx_V p l e R s m args below meth c G base nL Q h kc ks pc' lo (.long v :: st)) : mx_V p l e R s m args below meth c G base nL Q h kc ks pc lo st := by
  subst hp
  exact fun H locs ls hR hS hL => lv_ldc2 C.1 C.2.1 C.2.2.2.1 (C.2.2.2.2.1 _ hw) hd (k H locs ls hR hS hL)
theorem mx_top {x y : Int32} (e0 : x = y) (k : mx_V p l e R s m args below meth c G base nL Q h kc ks pc lo (.int y :: st)) : mx_V p l e R s m args below meth c G base nL Q h kc ks pc lo (.int x :: st) := by
  subst e0
  exact k
theorem mx_topl {x y : Int64} (e0 : x = y) (k : mx_V p l e R s m args below meth c G base nL Q h kc ks pc lo (.long y :: st)) : mx_V p l e R s m args below meth c G base nL Q h kc ks pc lo (.long x :: st) := by
  subst e0
  exact k
theorem mx_heap {h' : mx_H} (e0 : h = h') (k : mx_V p l e R s m args below meth c G base nL Q h' kc ks pc lo st) : mx_V p l e R s m args below meth c G base nL Q h kc ks pc lo st := by
  subst e0
  exact k

theorem mx_if_eq (C : mx_C p s m args meth c cc nL own G base) {x : Int32} {off : Int} {tgt : Nat} (hd : decode cc pc = .ok (.ifCond .eq off, 3)) (ht : (pc : Int) + off = (tgt : Int)) {pc' : Nat} (hp : pc + 3 = pc') (kt : x = 0 → mx_V p l e R s m args below meth c G base nL Q h kc ks tgt lo st) (kf : ¬ x = 0 → mx_V p l e R s m args below meth c G base nL Q h kc ks pc' lo st) : mx_V p l e R s m args below meth c G base nL Q h kc ks pc lo (.int x :: st) := by
  subst hp
  exact fun H locs ls hR hS hL => lv_if_eq C.1 C.2.1 hd ht (fun z => kt z H locs ls hR hS hL) (fun z => kf z H locs ls hR hS hL)

theorem mx_icmp_eq (C : mx_C p s m args meth c cc nL own G base) {x y : Int32} {off : Int} {tgt : Nat} (hd : decode cc pc = .ok (.if_icmp .eq off, 3)) (ht : (pc : Int) + off = (tgt : Int)) {pc' : Nat} (hp : pc + 3 = pc') (kt : x = y → mx_V p l e R s m args below meth c G base nL Q h kc ks tgt lo st) (kf : ¬ x = y → mx_V p l e R s m args below meth c G base nL Q h kc ks pc' lo st) : mx_V p l e R s m args below meth c G base nL Q h kc ks pc lo (.int y :: .int x :: st) := by
  subst hp
  exact fun H locs ls hR hS hL => lv_icmp_eq C.1 C.2.1 hd ht (fun z => kt z H locs ls hR hS hL) (fun z => kf z H locs ls hR hS hL)

theorem mx_if_ne (C : mx_C p s m args meth c cc nL own G base) {x : Int32} {off : Int} {tgt : Nat} (hd : decode cc pc = .ok (.ifCond .ne off, 3)) (ht : (pc : Int) + off = (tgt : Int)) {pc' : Nat} (hp : pc + 3 = pc') (kt : ¬ x = 0 → mx_V p l e R s m args below meth c G base nL Q h kc ks tgt lo st) (kf : x = 0 → mx_V p l e R s m args below meth c G base nL Q h kc ks pc' lo st) : mx_V p l e R s m args below meth c G base nL Q h kc ks pc lo (.int x :: st) := by
  subst hp
  exact fun H locs ls hR hS hL => lv_if_ne C.1 C.2.1 hd ht (fun z => kt z H locs ls hR hS hL) (fun z => kf z H locs ls hR hS hL)

theorem mx_icmp_ne (C : mx_C p s m args meth c cc nL own G base) {x y : Int32} {off : Int} {tgt : Nat} (hd : decode cc pc = .ok (.if_icmp .ne off, 3)) (ht : (pc : Int) + off = (tgt : Int)) {pc' : Nat} (hp : pc + 3 = pc') (kt : ¬ x = y → mx_V p l e R s m args below meth c G base nL Q h kc ks tgt lo st) (kf : x = y → mx_V p l e R s m args below meth c G base nL Q h kc ks pc' lo st) : mx_V p l e R s m args below meth c G base nL Q h kc ks pc lo (.int y :: .int x :: st) := by
  subst hp
  exact fun H locs ls hR hS hL => lv_icmp_ne C.1 C.2.1 hd ht (fun z => kt z H locs ls hR hS hL) (fun z => kf z H locs ls hR hS hL)

theorem mx_if_lt (C : mx_C p s m args meth c cc nL own G base) {x : Int32} {off : Int} {tgt : Nat} (hd : decode cc pc = .ok (.ifCond .lt off, 3)) (ht : (pc : Int) + off = (tgt : Int)) {pc' : Nat} (hp : pc + 3 = pc') (kt : x < 0 → mx_V p l e R s m args below meth c G base nL Q h kc ks tgt lo st) (kf : ¬ x < 0 → mx_V p l e R s m args below meth c G base nL Q h kc ks pc' lo st) : mx_V p l e R s m args below meth c G base nL Q h kc ks pc lo (.int x :: st) := by
  subst hp
  exact fun H locs ls hR hS hL => lv_if_lt C.1 C.2.1 hd ht (fun z => kt z H locs ls hR hS hL) (fun z => kf z H locs ls hR hS hL)

theorem mx_icmp_lt (C : mx_C p s m args meth c cc nL own G base) {x y : Int32} {off : Int} {tgt : Nat} (hd : decode cc pc = .ok (.if_icmp .lt off, 3)) (ht : (pc : Int) + off = (tgt : Int)) {pc' : Nat} (hp : pc + 3 = pc') (kt : x < y → mx_V p l e R s m args below meth c G base nL Q h kc ks tgt lo st) (kf : ¬ x < y → mx_V p l e R s m args below meth c G base nL Q h kc ks pc' lo st) : mx_V p l e R s m args below meth c G base nL Q h kc ks pc lo (.int y :: .int x :: st) := by
  subst hp
  exact fun H locs ls hR hS hL => lv_icmp_lt C.1 C.2.1 hd ht (fun z => kt z H locs ls hR hS hL) (fun z => kf z H locs ls hR hS hL)

theorem mx_if_ge (C : mx_C p s m args meth c cc nL own G base) {x : Int32} {off : Int} {tgt : Nat} (hd : decode cc pc = .ok (.ifCond .ge off, 3)) (ht : (pc : Int) + off = (tgt : Int)) {pc' : Nat} (hp : pc + 3 = pc') (kt : 0 ≤ x → mx_V p l e R s m args below meth c G base nL Q h kc ks tgt lo st) (kf : ¬ 0 ≤ x → mx_V p l e R s m args below meth c G base nL Q h kc ks pc' lo st) : mx_V p l e R s m args below meth c G base nL Q h kc ks pc lo (.int x :: st) := by
  subst hp
  exact fun H locs ls hR hS hL => lv_if_ge C.1 C.2.1 hd ht (fun z => kt z H locs ls hR hS hL) (fun z => kf z H locs ls hR hS hL)

theorem mx_icmp_ge (C : mx_C p s m args meth c cc nL own G base) {x y : Int32} {off : Int} {tgt : Nat} (hd : decode cc pc = .ok (.if_icmp .ge off, 3)) (ht : (pc : Int) + off = (tgt : Int)) {pc' : Nat} (hp : pc + 3 = pc') (kt : y ≤ x → mx_V p l e R s m args below meth c G base nL Q h kc ks tgt lo st) (kf : ¬ y ≤ x → mx_V p l e R s m args below meth c G base nL Q h kc ks pc' lo st) : mx_V p l e R s m args below meth c G base nL Q h kc ks pc lo (.int y :: .int x :: st) := by
  subst hp
  exact fun H locs ls hR hS hL => lv_icmp_ge C.1 C.2.1 hd ht (fun z => kt z H locs ls hR hS hL) (fun z => kf z H locs ls hR hS hL)

theorem mx_if_gt (C : mx_C p s m args meth c cc nL own G base) {x : Int32} {off : Int} {tgt : Nat} (hd : decode cc pc = .ok (.ifCond .gt off, 3)) (ht : (pc : Int) + off = (tgt : Int)) {pc' : Nat} (hp : pc + 3 = pc') (kt : 0 < x → mx_V p l e R s m args below meth c G base nL Q h kc ks tgt lo st) (kf : ¬ 0 < x → mx_V p l e R s m args below meth c G base nL Q h kc ks pc' lo st) : mx_V p l e R s m args below meth c G base nL Q h kc ks pc lo (.int x :: st) := by
  subst hp
  exact fun H locs ls hR hS hL => lv_if_gt C.1 C.2.1 hd ht (fun z => kt z H locs ls hR hS hL) (fun z => kf z H locs ls hR hS hL)

theorem mx_icmp_gt (C : mx_C p s m args meth c cc nL own G base) {x y : Int32} {off : Int} {tgt : Nat} (hd : decode cc pc = .ok (.if_icmp .gt off, 3)) (ht : (pc : Int) + off = (tgt : Int)) {pc' : Nat} (hp : pc + 3 = pc') (kt : y < x → mx_V p l e R s m args below meth c G base nL Q h kc ks tgt lo st) (kf : ¬ y < x → mx_V p l e R s m args below meth c G base nL Q h kc ks pc' lo st) : mx_V p l e R s m args below meth c G base nL Q h kc ks pc lo (.int y :: .int x :: st) := by
  subst hp
  exact fun H locs ls hR hS hL => lv_icmp_gt C.1 C.2.1 hd ht (fun z => kt z H locs ls hR hS hL) (fun z => kf z H locs ls hR hS hL)

theorem mx_if_le (C : mx_C p s m args meth c cc nL own G base) {x : Int32} {off : Int} {tgt : Nat} (hd : decode cc pc = .ok (.ifCond .le off, 3)) (ht : (pc : Int) + off = (tgt : Int)) {pc' : Nat} (hp : pc + 3 = pc') (kt : x ≤ 0 → mx_V p l e R s m args below meth c G base nL Q h kc ks tgt lo st) (kf : ¬ x ≤ 0 → mx_V p l e R s m args below meth c G base nL Q h kc ks pc' lo st) : mx_V p l e R s m args below meth c G base nL Q h kc ks pc lo (.int x :: st) := by
  subst hp
  exact fun H locs ls hR hS hL => lv_if_le C.1 C.2.1 hd ht (fun z => kt z H locs ls hR hS hL) (fun z => kf z H locs ls hR hS hL)

theorem mx_icmp_le (C : mx_C p s m args meth c cc nL own G base) {x y : Int32} {off : Int} {tgt : Nat} (hd : decode cc pc = .ok (.if_icmp .le off, 3)) (ht : (pc : Int) + off = (tgt : Int)) {pc' : Nat} (hp : pc + 3 = pc') (kt : x ≤ y → mx_V p l e R s m args below meth c G base nL Q h kc ks tgt lo st) (kf : ¬ x ≤ y → mx_V p l e R s m args below meth c G base nL Q h kc ks pc' lo st) : mx_V p l e R s m args below meth c G base nL Q h kc ks pc lo (.int y :: .int x :: st) := by
  subst hp
  exact fun H locs ls hR hS hL => lv_icmp_le C.1 C.2.1 hd ht (fun z => kt z H locs ls hR hS hL) (fun z => kf z H locs ls hR hS hL)

theorem mx_goto (C : mx_C p s m args meth c cc nL own G base) {off : Int} {tgt : Nat} (hd : decode cc pc = .ok (.goto off, 3)) (ht : (pc : Int) + off = (tgt : Int)) (k : mx_V p l e R s m args below meth c G base nL Q h kc ks tgt lo st) : mx_V p l e R s m args below meth c G base nL Q h kc ks pc lo st := fun H locs ls hR hS hL => lv_goto C.1 C.2.1 hd ht (k H locs ls hR hS hL)
theorem mx_ifnull (C : mx_C p s m args meth c cc nL own G base) {x : Option Nat} {off : Int} {tgt : Nat} (hd : decode cc pc = .ok (.ifnull off, 3)) (ht : (pc : Int) + off = (tgt : Int)) {pc' : Nat} (hp : pc + 3 = pc') (kt : x = none → mx_V p l e R s m args below meth c G base nL Q h kc ks tgt lo st) (kf : ∀ a, x = some a → mx_V p l e R s m args below meth c G base nL Q h kc ks pc' lo st) : mx_V p l e R s m args below meth c G base nL Q h kc ks pc lo (va_rf x :: st) := by
  subst hp
  intro H locs ls hR hS hL
  cases x with
  | none => exact lv_ifnullN C.1 C.2.1 hd ht (kt rfl H locs ls hR hS hL)
  | some a => exact lv_ifnull C.1 C.2.1 hd (kf a rfl H locs ls hR hS hL)
theorem mx_ifnonnull (C : mx_C p s m args meth c cc nL own G base) {x : Option Nat} {off : Int} {tgt : Nat} (hd : decode cc pc = .ok (.ifnonnull off, 3)) (ht : (pc : Int) + off = (tgt : Int)) {pc' : Nat} (hp : pc + 3 = pc') (kt : ∀ a, x = some a → mx_V p l e R s m args below meth c G base nL Q h kc ks tgt lo st) (kf : x = none → mx_V p l e R s m args below meth c G base nL Q h kc ks pc' lo st) : mx_V p l e R s m args below meth c G base nL Q h kc ks pc lo (va_rf x :: st) := by
  subst hp
  intro H locs ls hR hS hL
  cases x with
  | none => exact lv_ifnonnullN C.1 C.2.1 hd (kf rfl H locs ls hR hS hL)
  | some a => exact lv_ifnonnull C.1 C.2.1 hd ht (kt a rfl H locs ls hR hS hL)
theorem mx_acmp_eq (C : mx_C p s m args meth c cc nL own G base) {x y : Option Nat} {off : Int} {tgt : Nat} (hd : decode cc pc = .ok (.if_acmp .eq off, 3)) (ht : (pc : Int) + off = (tgt : Int)) {pc' : Nat} (hp : pc + 3 = pc') (kt : x = y → mx_V p l e R s m args below meth c G base nL Q h kc ks tgt lo st) (kf : ¬ x = y → mx_V p l e R s m args below meth c G base nL Q h kc ks pc' lo st) : mx_V p l e R s m args below meth c G base nL Q h kc ks pc lo (va_rf y :: va_rf x :: st) := by
  subst hp
  exact fun H locs ls hR hS hL => lv_acmp_eq C.1 C.2.1 hd ht (fun z => kt z H locs ls hR hS hL) (fun z => kf z H locs ls hR hS hL)
theorem mx_acmp_ne (C : mx_C p s m args meth c cc nL own G base) {x y : Option Nat} {off : Int} {tgt : Nat} (hd : decode cc pc = .ok (.if_acmp .ne off, 3)) (ht : (pc : Int) + off = (tgt : Int)) {pc' : Nat} (hp : pc + 3 = pc') (kt : ¬ x = y → mx_V p l e R s m args below meth c G base nL Q h kc ks tgt lo st) (kf : x = y → mx_V p l e R s m args below meth c G base nL Q h kc ks pc' lo st) : mx_V p l e R s m args below meth c G base nL Q h kc ks pc lo (va_rf y :: va_rf x :: st) := by
  subst hp
  exact fun H locs ls hR hS hL => lv_acmp_ne C.1 C.2.1 hd ht (fun z => kt z H locs ls hR hS hL) (fun z => kf z H locs ls hR hS hL)
theorem mx_get (C : mx_C p s m args meth c cc nL own G base) {cn : String} {T : u_T} {N ci j index a : Nat} {fs : List Value} {v : Value} (hcl : mxCl[ci]? = some (cn, T, N)) (hin : ∀ w ∈ u_ws cn T N, w ∈ mx_tb) (hj : j < N) (hw : Cond.fieldLink own index (T j).1 (T j).2.1 (T j).2.2.1 ∈ mx_tb) (hd : decode cc pc = .ok (.getfield index, 3)) {pc' : Nat} (hp : pc + 3 = pc') (ha : h a = some (.inr (ci, fs))) (hv : fs[j]? = some v) (k : mx_V p l e R s m args below meth c G base nL Q h kc ks pc' lo (v :: st)) : mx_V p l e R s m args below meth c G base nL Q h kc ks pc lo (.ref a :: st) := by
  subst hp
  exact fun H locs ls hR hS hL => va_get C.1 C.2.1 C.2.2.2.2.1 hin C.2.2.2.1 C.2.2.2.2.2.1 (hR.one ha) 0 rfl hcl j hj (C.2.2.2.2.1 _ hw) (fun _ z => z) hv hd (k H locs ls hR hS hL)
theorem mx_put (C : mx_C p s m args meth c cc nL own G base) {cn : String} {T : u_T} {N ci j index a : Nat} {fs : List Value} {v : Value} {ty : FieldType} (hcl : mxCl[ci]? = some (cn, T, N)) (hin : ∀ w ∈ u_ws cn T N, w ∈ mx_tb) (ty0 : Nat → FieldType) (hty : ∀ k, k < N → parseFieldDescriptor (T k).2.2.1 = some (ty0 k)) (hnm : ∀ a, a < N → ∀ b, b < N → a ≠ b → (T a).2.1 ≠ (T b).2.1) (hj : j < N) (hw : Cond.fieldLink own index (T j).1 (T j).2.1 (T j).2.2.1 ∈ mx_tb) (hfin : (T j).2.2.2 = false) (hdc : parseFieldDescriptor (T j).2.2.1 = some ty) (hd : decode cc pc = .ok (.putfield index, 3)) {pc' : Nat} (hp : pc + 3 = pc') (ha : h a = some (.inr (ci, fs))) (hl : j < fs.length) (hn : narrow ty v = v) (hf : fits ty v = true) {fs' : List Value} (hs' : fs.set j v = fs') (k : mx_V p l e R s m args below meth c G base nL Q (va_up h a (some (.inr (ci, fs')))) kc ks pc' lo st) : mx_V p l e R s m args below meth c G base nL Q h kc ks pc lo (v :: .ref a :: st) := by
  subst hp
  subst hs'
  intro H locs ls hR hS hL
  obtain ⟨L, f, q, hh, hP, hD, hm, he, hq⟩ := hR.get ha
  exact va_put C.1 C.2.1 C.2.2.2.2.1 hin ty0 hty hnm C.2.2.2.1 C.2.2.2.2.2.1 hP hD hS q hq hcl j hj (C.2.2.2.2.1 _ hw) (fun _ z => z) hfin hdc hn hf hl hd (fun H1 locs1 hP1 hD1 hS1 => k H1 locs1 ls (mx_R.set hh hD hm he hq hP1 hD1) hS1 hL)
theorem mx_putF (C : mx_C p s m args meth c cc nL own G base) {cn : String} {T : u_T} {N ci j index a : Nat} {fs : List Value} {v : Value} {ty : FieldType} (hcl : mxCl[ci]? = some (cn, T, N)) (hin : ∀ w ∈ u_ws cn T N, w ∈ mx_tb) (ty0 : Nat → FieldType) (hty : ∀ k, k < N → parseFieldDescriptor (T k).2.2.1 = some (ty0 k)) (hnm : ∀ a, a < N → ∀ b, b < N → a ≠ b → (T a).2.1 ≠ (T b).2.1) (hj : j < N) (hw : Cond.fieldLink own index (T j).1 (T j).2.1 (T j).2.2.1 ∈ mx_tb) (hfin : (T j).2.2.2 = true) (hdecl : (T j).1 = own) (hdc : parseFieldDescriptor (T j).2.2.1 = some ty) (hinit : meth.name = "<init>") (hd : decode cc pc = .ok (.putfield index, 3)) {pc' : Nat} (hp : pc + 3 = pc') (ha : h a = some (.inr (ci, fs))) (hl : j < fs.length) (hn : narrow ty v = v) (hf : fits ty v = true) {fs' : List Value} (hs' : fs.set j v = fs') (k : mx_V p l e R s m args below meth c G base nL Q (va_up h a (some (.inr (ci, fs')))) kc ks pc' lo st) : mx_V p l e R s m args below meth c G base nL Q h kc ks pc lo (v :: .ref a :: st) := by
  subst hp
  subst hs'
  intro H locs ls hR hS hL
  obtain ⟨L, f, q, hh, hP, hD, hm, he, hq⟩ := hR.get ha
  exact va_putF C.1 C.2.1 C.2.2.2.2.1 hin ty0 hty hnm C.2.2.2.1 C.2.2.2.2.2.1 hP hD hS q hq hcl j hj (C.2.2.2.2.1 _ hw) (fun _ z => z) hfin hinit hdecl hdc hn hf hl hd (fun H1 locs1 hP1 hD1 hS1 => k H1 locs1 ls (mx_R.set hh hD hm he hq hP1 hD1) hS1 hL)
theorem mx_new (C : mx_C p s m args meth c cc nL own G base) {cn : String} {T : u_T} {N ci index : Nat} {fs : List Value} (hcl : mxCl[ci]? = some (cn, T, N)) (hin : ∀ w ∈ u_ws cn T N, w ∈ mx_tb) (ty0 : Nat → FieldType) (hty : ∀ k, k < N → parseFieldDescriptor (T k).2.2.1 = some (ty0 k)) (hw : Cond.classLink own index cn ∈ mx_tb) (hi : Cond.instantiable cn N ∈ mx_tb) (hini : Cond.initialized cn ∈ mx_tb) (hfs : ∀ j, j < N → defaultValue (ty0 j) = vp_V fs j) (hd : decode cc pc = .ok (.new index, 3)) {pc' : Nat} (hp : pc + 3 = pc') (hc : kc + 1 ≤ R.cells) (hsl : ks + N ≤ R.slots)
    (k : ∀ q : Nat, h q = none → mx_V p l e R s m args below meth c G base nL Q (va_up h q (some (.inr (ci, fs)))) (kc + 1) (ks + N) pc' lo (.ref q :: st)) : mx_V p l e R s m args below meth c G base nL Q h kc ks pc lo st := by
  subst hp
  intro H locs ls hR hS hL
  obtain ⟨L, f, hh, hP, hD⟩ := hR
  refine va_new C.1 C.2.1 C.2.2.2.2.1 hin ty0 hty C.2.2.2.1 (C.2.2.2.2.1 _ hw) (C.2.2.2.2.1 _ hi) (C.2.2.2.2.1 _ hini) C.2.2.2.2.2.1 hP hD hS (fun q hq => Nat.le_trans C.2.2.2.2.2.2.1 hq) hcl hfs hc hsl hd (fun q H1 hP1 hD1 hS1 => ?_)
  have hqL : q ∉ L := fun z => by
    obtain ⟨i, hi⟩ := va_pl_get (X := []) (f := f) z
    have hi : (va_pl L f)[i]? = some (q, f q) := hi
    have hlt := (List.getElem?_eq_some_iff.mp hi).1
    have h1 := hD1.1 i (va_pl L f).length (q, f q) (q, .inr (ci, fs)) (by rw [List.getElem?_append_left hlt]; exact hi) (by rw [List.getElem?_append_right (Nat.le_refl _), Nat.sub_self]; rfl) rfl
    omega
  exact k q (by rw [hh q, if_neg hqL]) H1 locs ls (mx_R.push (H := H) hh hqL hP1 hD1) hS1 hL

theorem mx_iald (C : mx_C p s m args meth c cc nL own G base) {a n j : Nat} {i : Int32} {f : Nat → Int32} (hd : decode cc pc = .ok (.iaload, 1)) {pc' : Nat} (hp : pc + 1 = pc') (ha : h a = some (.inl (G.2 0, n, .inl f))) (hi : i = nI j) (hj : j < n) (hn : n < 2 ^ 31) (k : mx_V p l e R s m args below meth c G base nL Q h kc ks pc' lo (.int (f j) :: st)) : mx_V p l e R s m args below meth c G base nL Q h kc ks pc lo (.int i :: .ref a :: st) := by
  subst hp
  subst hi
  intro H locs ls hR hS hL
  refine va_iald C.1 C.2.1 C.2.2.2.2.2.1 (hR.one ha) 0 0 rfl rfl (vp_in_nI hj hn) hd ?_
  rw [nI_clamp (Nat.lt_trans hj hn)]
  exact k H locs ls hR hS hL

theorem mx_cald (C : mx_C p s m args meth c cc nL own G base) {a n j : Nat} {i : Int32} {f : Nat → Int32} (hd : decode cc pc = .ok (.caload, 1)) {pc' : Nat} (hp : pc + 1 = pc') (ha : h a = some (.inl (G.2 2, n, .inl f))) (hi : i = nI j) (hj : j < n) (hn : n < 2 ^ 31) (k : mx_V p l e R s m args below meth c G base nL Q h kc ks pc' lo (.int (f j) :: st)) : mx_V p l e R s m args below meth c G base nL Q h kc ks pc lo (.int i :: .ref a :: st) := by
  subst hp
  subst hi
  intro H locs ls hR hS hL
  refine va_cald C.1 C.2.1 C.2.2.2.2.2.1 (hR.one ha) 0 2 rfl rfl (vp_in_nI hj hn) hd ?_
  rw [nI_clamp (Nat.lt_trans hj hn)]
  exact k H locs ls hR hS hL

theorem mx_bald (C : mx_C p s m args meth c cc nL own G base) {a n j : Nat} {i : Int32} {f : Nat → Int32} (hd : decode cc pc = .ok (.baload, 1)) {pc' : Nat} (hp : pc + 1 = pc') (ha : h a = some (.inl (G.2 3, n, .inl f))) (hi : i = nI j) (hj : j < n) (hn : n < 2 ^ 31) (k : mx_V p l e R s m args below meth c G base nL Q h kc ks pc' lo (.int (f j) :: st)) : mx_V p l e R s m args below meth c G base nL Q h kc ks pc lo (.int i :: .ref a :: st) := by
  subst hp
  subst hi
  intro H locs ls hR hS hL
  refine va_bald C.1 C.2.1 C.2.2.2.2.2.1 (hR.one ha) 0 3 rfl rfl (vp_in_nI hj hn) hd ?_
  rw [nI_clamp (Nat.lt_trans hj hn)]
  exact k H locs ls hR hS hL

theorem mx_zald (C : mx_C p s m args meth c cc nL own G base) {a n j : Nat} {i : Int32} {f : Nat → Int32} (hd : decode cc pc = .ok (.baload, 1)) {pc' : Nat} (hp : pc + 1 = pc') (ha : h a = some (.inl (G.2 4, n, .inl f))) (hi : i = nI j) (hj : j < n) (hn : n < 2 ^ 31) (k : mx_V p l e R s m args below meth c G base nL Q h kc ks pc' lo (.int (f j) :: st)) : mx_V p l e R s m args below meth c G base nL Q h kc ks pc lo (.int i :: .ref a :: st) := by
  subst hp
  subst hi
  intro H locs ls hR hS hL
  refine va_zald C.1 C.2.1 C.2.2.2.2.2.1 (hR.one ha) 0 4 rfl rfl (vp_in_nI hj hn) hd ?_
  rw [nI_clamp (Nat.lt_trans hj hn)]
  exact k H locs ls hR hS hL

theorem mx_lald (C : mx_C p s m args meth c cc nL own G base) {a n j : Nat} {i : Int32} {f : Nat → Int64} (hd : decode cc pc = .ok (.laload, 1)) {pc' : Nat} (hp : pc + 1 = pc') (ha : h a = some (.inl (G.2 1, n, .inr (.inl f)))) (hi : i = nI j) (hj : j < n) (hn : n < 2 ^ 31) (k : mx_V p l e R s m args below meth c G base nL Q h kc ks pc' lo (.long (f j) :: st)) : mx_V p l e R s m args below meth c G base nL Q h kc ks pc lo (.int i :: .ref a :: st) := by
  subst hp
  subst hi
  intro H locs ls hR hS hL
  refine va_lald C.1 C.2.1 C.2.2.2.2.2.1 (hR.one ha) 0 1 rfl rfl (vp_in_nI hj hn) hd ?_
  rw [nI_clamp (Nat.lt_trans hj hn)]
  exact k H locs ls hR hS hL

theorem mx_iast (C : mx_C p s m args meth c cc nL own G base) {a n j : Nat} {i : Int32} {x : Int32} {f : Nat → Int32} (hd : decode cc pc = .ok (.iastore, 1)) {pc' : Nat} (hp : pc + 1 = pc') (ha : h a = some (.inl (G.2 0, n, .inl f))) (hi : i = nI j) (hj : j < n) (hn : n < 2 ^ 31) (k : mx_V p l e R s m args below meth c G base nL Q (va_up h a (some (.inl (G.2 0, n, .inl (upd f j x))))) kc ks pc' lo st) : mx_V p l e R s m args below meth c G base nL Q h kc ks pc lo (.int x :: .int i :: .ref a :: st) := by
  subst hp
  subst hi
  intro H locs ls hR hS hL
  obtain ⟨L, f0, q, hh, hP, hD, hm, he, hq⟩ := hR.get ha
  refine va_iast C.1 C.2.1 C.2.2.2.2.2.1 hP hD hS q 0 hq rfl (vp_in_nI hj hn) hd (fun H1 locs1 hP1 hD1 hS1 => ?_)
  rw [nI_clamp (Nat.lt_trans hj hn)] at hP1 hD1
  exact k H1 locs1 ls (mx_R.set hh hD hm he hq hP1 hD1) hS1 hL

theorem mx_cast (C : mx_C p s m args meth c cc nL own G base) {a n j : Nat} {i : Int32} {x : Int32} {f : Nat → Int32} (hd : decode cc pc = .ok (.castore, 1)) {pc' : Nat} (hp : pc + 1 = pc') (ha : h a = some (.inl (G.2 2, n, .inl f))) (hi : i = nI j) (hj : j < n) (hn : n < 2 ^ 31) (k : mx_V p l e R s m args below meth c G base nL Q (va_up h a (some (.inl (G.2 2, n, .inl (upd f j (vp_nar .char x)))))) kc ks pc' lo st) : mx_V p l e R s m args below meth c G base nL Q h kc ks pc lo (.int x :: .int i :: .ref a :: st) := by
  subst hp
  subst hi
  intro H locs ls hR hS hL
  obtain ⟨L, f0, q, hh, hP, hD, hm, he, hq⟩ := hR.get ha
  refine va_cast C.1 C.2.1 C.2.2.2.2.2.1 hP hD hS q 2 hq rfl (vp_in_nI hj hn) hd (fun H1 locs1 hP1 hD1 hS1 => ?_)
  rw [nI_clamp (Nat.lt_trans hj hn)] at hP1 hD1
  exact k H1 locs1 ls (mx_R.set hh hD hm he hq hP1 hD1) hS1 hL

theorem mx_bast (C : mx_C p s m args meth c cc nL own G base) {a n j : Nat} {i : Int32} {x : Int32} {f : Nat → Int32} (hd : decode cc pc = .ok (.bastore, 1)) {pc' : Nat} (hp : pc + 1 = pc') (ha : h a = some (.inl (G.2 3, n, .inl f))) (hi : i = nI j) (hj : j < n) (hn : n < 2 ^ 31) (k : mx_V p l e R s m args below meth c G base nL Q (va_up h a (some (.inl (G.2 3, n, .inl (upd f j (vp_nar .byte x)))))) kc ks pc' lo st) : mx_V p l e R s m args below meth c G base nL Q h kc ks pc lo (.int x :: .int i :: .ref a :: st) := by
  subst hp
  subst hi
  intro H locs ls hR hS hL
  obtain ⟨L, f0, q, hh, hP, hD, hm, he, hq⟩ := hR.get ha
  refine va_bast C.1 C.2.1 C.2.2.2.2.2.1 hP hD hS q 3 hq rfl (vp_in_nI hj hn) hd (fun H1 locs1 hP1 hD1 hS1 => ?_)
  rw [nI_clamp (Nat.lt_trans hj hn)] at hP1 hD1
  exact k H1 locs1 ls (mx_R.set hh hD hm he hq hP1 hD1) hS1 hL

theorem mx_zast (C : mx_C p s m args meth c cc nL own G base) {a n j : Nat} {i : Int32} {x : Int32} {f : Nat → Int32} (hd : decode cc pc = .ok (.bastore, 1)) {pc' : Nat} (hp : pc + 1 = pc') (ha : h a = some (.inl (G.2 4, n, .inl f))) (hi : i = nI j) (hj : j < n) (hn : n < 2 ^ 31) (k : mx_V p l e R s m args below meth c G base nL Q (va_up h a (some (.inl (G.2 4, n, .inl (upd f j (vp_nar .boolean x)))))) kc ks pc' lo st) : mx_V p l e R s m args below meth c G base nL Q h kc ks pc lo (.int x :: .int i :: .ref a :: st) := by
  subst hp
  subst hi
  intro H locs ls hR hS hL
  obtain ⟨L, f0, q, hh, hP, hD, hm, he, hq⟩ := hR.get ha
  refine va_zast C.1 C.2.1 C.2.2.2.2.2.1 hP hD hS q 4 hq rfl (vp_in_nI hj hn) hd (fun H1 locs1 hP1 hD1 hS1 => ?_)
  rw [nI_clamp (Nat.lt_trans hj hn)] at hP1 hD1
  exact k H1 locs1 ls (mx_R.set hh hD hm he hq hP1 hD1) hS1 hL

theorem mx_last (C : mx_C p s m args meth c cc nL own G base) {a n j : Nat} {i : Int32} {x : Int64} {f : Nat → Int64} (hd : decode cc pc = .ok (.lastore, 1)) {pc' : Nat} (hp : pc + 1 = pc') (ha : h a = some (.inl (G.2 1, n, .inr (.inl f)))) (hi : i = nI j) (hj : j < n) (hn : n < 2 ^ 31) (k : mx_V p l e R s m args below meth c G base nL Q (va_up h a (some (.inl (G.2 1, n, .inr (.inl (vp_updL f j x)))))) kc ks pc' lo st) : mx_V p l e R s m args below meth c G base nL Q h kc ks pc lo (.long x :: .int i :: .ref a :: st) := by
  subst hp
  subst hi
  intro H locs ls hR hS hL
  obtain ⟨L, f0, q, hh, hP, hD, hm, he, hq⟩ := hR.get ha
  refine va_last C.1 C.2.1 C.2.2.2.2.2.1 hP hD hS q 1 hq rfl (vp_in_nI hj hn) hd (fun H1 locs1 hP1 hD1 hS1 => ?_)
  rw [nI_clamp (Nat.lt_trans hj hn)] at hP1 hD1
  exact k H1 locs1 ls (mx_R.set hh hD hm he hq hP1 hD1) hS1 hL

theorem mx_newai (C : mx_C p s m args meth c cc nL own G base) {n : Int32} {N : Nat} (hw : Cond.arrayClass .int ∈ mx_tb) (hn : n = nI N) (hN : N ≤ 60000) (hd : decode cc pc = .ok (.newarray .int, 2)) {pc' : Nat} (hp : pc + 2 = pc') (hc : kc + 1 ≤ R.cells) (hsl : ks + N ≤ R.slots)
    (k : ∀ q : Nat, h q = none → mx_V p l e R s m args below meth c G base nL Q (va_up h q (some (.inl (G.2 0, N, .inl (fun _ => 0))))) (kc + 1) (ks + N) pc' lo (.ref q :: st)) : mx_V p l e R s m args below meth c G base nL Q h kc ks pc lo (.int n :: st) := by
  subst hp
  subst hn
  intro H locs ls hR hS hL
  obtain ⟨L, f, hh, hP, hD⟩ := hR
  refine va_newa (atype := .int) (ty := .int) C.1 C.2.1 (C.2.2.2.2.1 _ hw) rfl C.2.2.2.2.2.1 hP hD hS (fun q hq => Nat.le_trans C.2.2.2.2.2.2.1 hq) (N' := N) (a0 := (N, .inl (fun _ => 0))) (fun cA => rfl) (nI_pos (by omega)) (nI_clamp (by omega)) (by show N * _ ≤ _; simp only [componentBytes]; omega) hc hsl hd (fun q cA H1 hK1 hP1 hD1 hS1 => ?_)
  have hcA : cA = G.2 0 := by
    have h1 := (hK1.2 5 (cA, .int) rfl).2
    have h2 := (C.2.2.2.2.2.1.2 0 (G.2 0, .int) rfl).2
    exact Option.some.inj (Eq.trans (Eq.symm h1) h2)
  subst hcA
  have hqL : q ∉ L := fun z => by
    obtain ⟨i, hi⟩ := va_pl_get (X := []) (f := f) z
    have hi : (va_pl L f)[i]? = some (q, f q) := hi
    have hlt := (List.getElem?_eq_some_iff.mp hi).1
    have h1 := hD1.1 i (va_pl L f).length (q, f q) (q, .inl (G.2 0, (N, .inl (fun _ => 0)))) (by rw [List.getElem?_append_left hlt]; exact hi) (by rw [List.getElem?_append_right (Nat.le_refl _), Nat.sub_self]; rfl) rfl
    omega
  exact k q (by rw [hh q, if_neg hqL]) H1 locs ls (mx_R.push (H := H) hh hqL hP1 hD1) hS1 hL

theorem mx_newal (C : mx_C p s m args meth c cc nL own G base) {n : Int32} {N : Nat} (hw : Cond.arrayClass .long ∈ mx_tb) (hn : n = nI N) (hN : N ≤ 60000) (hd : decode cc pc = .ok (.newarray .long, 2)) {pc' : Nat} (hp : pc + 2 = pc') (hc : kc + 1 ≤ R.cells) (hsl : ks + N ≤ R.slots)
    (k : ∀ q : Nat, h q = none → mx_V p l e R s m args below meth c G base nL Q (va_up h q (some (.inl (G.2 1, N, .inr (.inl (fun _ => 0)))))) (kc + 1) (ks + N) pc' lo (.ref q :: st)) : mx_V p l e R s m args below meth c G base nL Q h kc ks pc lo (.int n :: st) := by
  subst hp
  subst hn
  intro H locs ls hR hS hL
  obtain ⟨L, f, hh, hP, hD⟩ := hR
  refine va_newa (atype := .long) (ty := .long) C.1 C.2.1 (C.2.2.2.2.1 _ hw) rfl C.2.2.2.2.2.1 hP hD hS (fun q hq => Nat.le_trans C.2.2.2.2.2.2.1 hq) (N' := N) (a0 := (N, .inr (.inl (fun _ => 0)))) (fun cA => rfl) (nI_pos (by omega)) (nI_clamp (by omega)) (by show N * _ ≤ _; simp only [componentBytes]; omega) hc hsl hd (fun q cA H1 hK1 hP1 hD1 hS1 => ?_)
  have hcA : cA = G.2 1 := by
    have h1 := (hK1.2 5 (cA, .long) rfl).2
    have h2 := (C.2.2.2.2.2.1.2 1 (G.2 1, .long) rfl).2
    exact Option.some.inj (Eq.trans (Eq.symm h1) h2)
  subst hcA
  have hqL : q ∉ L := fun z => by
    obtain ⟨i, hi⟩ := va_pl_get (X := []) (f := f) z
    have hi : (va_pl L f)[i]? = some (q, f q) := hi
    have hlt := (List.getElem?_eq_some_iff.mp hi).1
    have h1 := hD1.1 i (va_pl L f).length (q, f q) (q, .inl (G.2 1, (N, .inr (.inl (fun _ => 0))))) (by rw [List.getElem?_append_left hlt]; exact hi) (by rw [List.getElem?_append_right (Nat.le_refl _), Nat.sub_self]; rfl) rfl
    omega
  exact k q (by rw [hh q, if_neg hqL]) H1 locs ls (mx_R.push (H := H) hh hqL hP1 hD1) hS1 hL

theorem mx_newac (C : mx_C p s m args meth c cc nL own G base) {n : Int32} {N : Nat} (hw : Cond.arrayClass .char ∈ mx_tb) (hn : n = nI N) (hN : N ≤ 60000) (hd : decode cc pc = .ok (.newarray .char, 2)) {pc' : Nat} (hp : pc + 2 = pc') (hc : kc + 1 ≤ R.cells) (hsl : ks + N ≤ R.slots)
    (k : ∀ q : Nat, h q = none → mx_V p l e R s m args below meth c G base nL Q (va_up h q (some (.inl (G.2 2, N, .inl (fun _ => 0))))) (kc + 1) (ks + N) pc' lo (.ref q :: st)) : mx_V p l e R s m args below meth c G base nL Q h kc ks pc lo (.int n :: st) := by
  subst hp
  subst hn
  intro H locs ls hR hS hL
  obtain ⟨L, f, hh, hP, hD⟩ := hR
  refine va_newa (atype := .char) (ty := .char) C.1 C.2.1 (C.2.2.2.2.1 _ hw) rfl C.2.2.2.2.2.1 hP hD hS (fun q hq => Nat.le_trans C.2.2.2.2.2.2.1 hq) (N' := N) (a0 := (N, .inl (fun _ => 0))) (fun cA => rfl) (nI_pos (by omega)) (nI_clamp (by omega)) (by show N * _ ≤ _; simp only [componentBytes]; omega) hc hsl hd (fun q cA H1 hK1 hP1 hD1 hS1 => ?_)
  have hcA : cA = G.2 2 := by
    have h1 := (hK1.2 5 (cA, .char) rfl).2
    have h2 := (C.2.2.2.2.2.1.2 2 (G.2 2, .char) rfl).2
    exact Option.some.inj (Eq.trans (Eq.symm h1) h2)
  subst hcA
  have hqL : q ∉ L := fun z => by
    obtain ⟨i, hi⟩ := va_pl_get (X := []) (f := f) z
    have hi : (va_pl L f)[i]? = some (q, f q) := hi
    have hlt := (List.getElem?_eq_some_iff.mp hi).1
    have h1 := hD1.1 i (va_pl L f).length (q, f q) (q, .inl (G.2 2, (N, .inl (fun _ => 0)))) (by rw [List.getElem?_append_left hlt]; exact hi) (by rw [List.getElem?_append_right (Nat.le_refl _), Nat.sub_self]; rfl) rfl
    omega
  exact k q (by rw [hh q, if_neg hqL]) H1 locs ls (mx_R.push (H := H) hh hqL hP1 hD1) hS1 hL

theorem mx_newab (C : mx_C p s m args meth c cc nL own G base) {n : Int32} {N : Nat} (hw : Cond.arrayClass .byte ∈ mx_tb) (hn : n = nI N) (hN : N ≤ 60000) (hd : decode cc pc = .ok (.newarray .byte, 2)) {pc' : Nat} (hp : pc + 2 = pc') (hc : kc + 1 ≤ R.cells) (hsl : ks + N ≤ R.slots)
    (k : ∀ q : Nat, h q = none → mx_V p l e R s m args below meth c G base nL Q (va_up h q (some (.inl (G.2 3, N, .inl (fun _ => 0))))) (kc + 1) (ks + N) pc' lo (.ref q :: st)) : mx_V p l e R s m args below meth c G base nL Q h kc ks pc lo (.int n :: st) := by
  subst hp
  subst hn
  intro H locs ls hR hS hL
  obtain ⟨L, f, hh, hP, hD⟩ := hR
  refine va_newa (atype := .byte) (ty := .byte) C.1 C.2.1 (C.2.2.2.2.1 _ hw) rfl C.2.2.2.2.2.1 hP hD hS (fun q hq => Nat.le_trans C.2.2.2.2.2.2.1 hq) (N' := N) (a0 := (N, .inl (fun _ => 0))) (fun cA => rfl) (nI_pos (by omega)) (nI_clamp (by omega)) (by show N * _ ≤ _; simp only [componentBytes]; omega) hc hsl hd (fun q cA H1 hK1 hP1 hD1 hS1 => ?_)
  have hcA : cA = G.2 3 := by
    have h1 := (hK1.2 5 (cA, .byte) rfl).2
    have h2 := (C.2.2.2.2.2.1.2 3 (G.2 3, .byte) rfl).2
    exact Option.some.inj (Eq.trans (Eq.symm h1) h2)
  subst hcA
  have hqL : q ∉ L := fun z => by
    obtain ⟨i, hi⟩ := va_pl_get (X := []) (f := f) z
    have hi : (va_pl L f)[i]? = some (q, f q) := hi
    have hlt := (List.getElem?_eq_some_iff.mp hi).1
    have h1 := hD1.1 i (va_pl L f).length (q, f q) (q, .inl (G.2 3, (N, .inl (fun _ => 0)))) (by rw [List.getElem?_append_left hlt]; exact hi) (by rw [List.getElem?_append_right (Nat.le_refl _), Nat.sub_self]; rfl) rfl
    omega
  exact k q (by rw [hh q, if_neg hqL]) H1 locs ls (mx_R.push (H := H) hh hqL hP1 hD1) hS1 hL

theorem mx_newaz (C : mx_C p s m args meth c cc nL own G base) {n : Int32} {N : Nat} (hw : Cond.arrayClass .boolean ∈ mx_tb) (hn : n = nI N) (hN : N ≤ 60000) (hd : decode cc pc = .ok (.newarray .boolean, 2)) {pc' : Nat} (hp : pc + 2 = pc') (hc : kc + 1 ≤ R.cells) (hsl : ks + N ≤ R.slots)
    (k : ∀ q : Nat, h q = none → mx_V p l e R s m args below meth c G base nL Q (va_up h q (some (.inl (G.2 4, N, .inl (fun _ => 0))))) (kc + 1) (ks + N) pc' lo (.ref q :: st)) : mx_V p l e R s m args below meth c G base nL Q h kc ks pc lo (.int n :: st) := by
  subst hp
  subst hn
  intro H locs ls hR hS hL
  obtain ⟨L, f, hh, hP, hD⟩ := hR
  refine va_newa (atype := .boolean) (ty := .boolean) C.1 C.2.1 (C.2.2.2.2.1 _ hw) rfl C.2.2.2.2.2.1 hP hD hS (fun q hq => Nat.le_trans C.2.2.2.2.2.2.1 hq) (N' := N) (a0 := (N, .inl (fun _ => 0))) (fun cA => rfl) (nI_pos (by omega)) (nI_clamp (by omega)) (by show N * _ ≤ _; simp only [componentBytes]; omega) hc hsl hd (fun q cA H1 hK1 hP1 hD1 hS1 => ?_)
  have hcA : cA = G.2 4 := by
    have h1 := (hK1.2 5 (cA, .boolean) rfl).2
    have h2 := (C.2.2.2.2.2.1.2 4 (G.2 4, .boolean) rfl).2
    exact Option.some.inj (Eq.trans (Eq.symm h1) h2)
  subst hcA
  have hqL : q ∉ L := fun z => by
    obtain ⟨i, hi⟩ := va_pl_get (X := []) (f := f) z
    have hi : (va_pl L f)[i]? = some (q, f q) := hi
    have hlt := (List.getElem?_eq_some_iff.mp hi).1
    have h1 := hD1.1 i (va_pl L f).length (q, f q) (q, .inl (G.2 4, (N, .inl (fun _ => 0)))) (by rw [List.getElem?_append_left hlt]; exact hi) (by rw [List.getElem?_append_right (Nat.le_refl _), Nat.sub_self]; rfl) rfl
    omega
  exact k q (by rw [hh q, if_neg hqL]) H1 locs ls (mx_R.push (H := H) hh hqL hP1 hD1) hS1 hL

theorem mx_aleni (C : mx_C p s m args meth c cc nL own G base) {a n : Nat} {f : Nat → Int32} (hd : decode cc pc = .ok (.arraylength, 1)) {pc' : Nat} (hp : pc + 1 = pc') (ha : h a = some (.inl (G.2 0, n, .inl f))) (k : mx_V p l e R s m args below meth c G base nL Q h kc ks pc' lo (.int (nI n) :: st)) : mx_V p l e R s m args below meth c G base nL Q h kc ks pc lo (.ref a :: st) := by
  subst hp
  exact fun H locs ls hR hS hL => va_alen C.1 C.2.1 C.2.2.2.2.2.1 (hR.one ha) 0 0 rfl (ty := .int) rfl rfl hd (k H locs ls hR hS hL)

theorem mx_alenl (C : mx_C p s m args meth c cc nL own G base) {a n : Nat} {f : Nat → Int64} (hd : decode cc pc = .ok (.arraylength, 1)) {pc' : Nat} (hp : pc + 1 = pc') (ha : h a = some (.inl (G.2 1, n, .inr (.inl f)))) (k : mx_V p l e R s m args below meth c G base nL Q h kc ks pc' lo (.int (nI n) :: st)) : mx_V p l e R s m args below meth c G base nL Q h kc ks pc lo (.ref a :: st) := by
  subst hp
  exact fun H locs ls hR hS hL => va_alen C.1 C.2.1 C.2.2.2.2.2.1 (hR.one ha) 0 1 rfl (ty := .long) rfl rfl hd (k H locs ls hR hS hL)

theorem mx_alenc (C : mx_C p s m args meth c cc nL own G base) {a n : Nat} {f : Nat → Int32} (hd : decode cc pc = .ok (.arraylength, 1)) {pc' : Nat} (hp : pc + 1 = pc') (ha : h a = some (.inl (G.2 2, n, .inl f))) (k : mx_V p l e R s m args below meth c G base nL Q h kc ks pc' lo (.int (nI n) :: st)) : mx_V p l e R s m args below meth c G base nL Q h kc ks pc lo (.ref a :: st) := by
  subst hp
  exact fun H locs ls hR hS hL => va_alen C.1 C.2.1 C.2.2.2.2.2.1 (hR.one ha) 0 2 rfl (ty := .char) rfl rfl hd (k H locs ls hR hS hL)

/-- a method's contract over pictures -/
def mx_Pc (G : mx_G) (base : Nat) (as : List Value) (h : mx_H) : Array Value → State → Prop := va_Pc as (fun U => mx_R G base h U.heap ∧ va_K G.1 mxCl (mx_ts G) U ∧ base ≤ U.heap.size)
def mx_Qc (G : mx_G) (base : Nat) (post : Option Value → mx_H → Prop) : Array Value → State → Outcome → State → Prop := fun _ st oc t => ∃ (v : Option Value) (h' : mx_H), oc = .returned v ∧ post v h' ∧ mx_R G base h' t.heap ∧ va_F (mx_A base) st t
def mx_M (l : Launch) (G : mx_G) (base : Nat) (y : MethodName) (b : ByteArray) (nL : Nat) (ret : Option FieldType) (fr lc mc ms : Nat) (as : List Value) (h : mx_H) (post : Option Value → mx_H → Prop) : Prop :=
  Met l y (Cond.code y b nL ret :: mx_tb) { frames := fr, cells := mc, slots := ms, locals := lc } (mx_Pc G base as h) (mx_Qc G base post) mc ms (mx_A base)

end MX

section MX2
variable {p : Program} {l : Launch} {e : Env} {R : Room} {s : State} {m : MethodId} {args : Array Value} {below : List Frame} {meth : Method} {c : Code} {cc : ByteArray} {own : String} {G : mx_G} {base nL : Nat} {Q : State → Prop} {h : mx_H} {kc ks pc : Nat} {lo : List (Option Value)} {st : List Value}
def mx_of (n : Nat) (l : List (Nat × Value)) : List (Option Value) := (List.range n).map (fun i => l.lookup i)
theorem mx_lookup {l : List (Nat × Value)} {i : Nat} {v : Value} (h : l.lookup i = some v) : (i, v) ∈ l := by
  induction l with
  | nil => cases h
  | cons q l ih =>
    obtain ⟨j, w⟩ := q
    rw [List.lookup_cons] at h
    by_cases e : i = j
    · subst e
      rw [beq_self_eq_true] at h
      cases h
      exact List.mem_cons_self
    · have e1 : (i == j) = false := by
        rw [beq_eq_false_iff_ne]
        exact e
      rw [e1] at h
      exact List.mem_cons_of_mem _ (ih h)
theorem mx_of_L {ls : Array Slot} {n : Nat} {l : List (Nat × Value)} (h : lv_has ls n l) : mx_L ls n (mx_of n l) := by
  refine ⟨h.1, h.2.1, fun i v hi => h.2.2 (i, v) (mx_lookup ?_)⟩
  unfold mx_of at hi
  rw [List.getElem?_map] at hi
  cases hr : (List.range n)[i]? with
  | none => rw [hr] at hi; cases hi
  | some j =>
    rw [hr] at hi
    have hj : i = j := by
      have h2 := List.getElem?_eq_some_iff.mp hr
      obtain ⟨h3, h4⟩ := h2
      rw [List.getElem_range] at h4
      exact h4
    subst hj
    exact Option.some.inj hi
theorem mx_enter {y : MethodName} {b : ByteArray} {ret : Option FieldType} {fr lc mc ms : Nat} {as : List Value} {post : Option Value → mx_H → Prop} (hy : plainName y.cls = true) (hcode : Cond.code y b nL ret ∈ mx_tb) (hlen : (lg_sl as).length ≤ nL) {lo : List (Option Value)} (hlo : mx_of nL (lv_args 0 as) = lo)
    (body : ∀ (p : Program) (e : Env) (s : State) (m : MethodId) (args : Array Value) (below : List Frame) (meth : Method) (c : Code), mx_C p s m args meth c b nL y.cls G base → meth.sig.returnType = ret → meth.name = y.name → mx_V p l e { frames := fr, cells := mc, slots := ms, locals := lc } s m args below meth c G base nL (MQ below (mx_Qc G base post) args s mc ms (mx_A base)) h 0 0 0 lo []) : mx_M l G base y b nL ret fr lc mc ms as h post := by
  refine Met.ofW (cc := b) (maxL := nL) (ret := ret) hy rfl ?_
  intro p e s m args below meth c s₁ B hml hv
  obtain ⟨rfl, hR, hK, hbs⟩ := hv
  have hts := atoms_spec (ws := Cond.code y b nL ret :: mx_tb) B.pre
  have hown : s.vm.findClass y.cls = some m.cls := findClass_of_methodNamed B.named
  have hl := lv_entry as (n := nL) hlen
  rw [lg_entry_eq]
  refine body p e s m as.toArray below meth c ⟨B.exec, B.bytes, hml, hown, fun w hw => hts w (List.mem_cons_of_mem _ hw), hK, hbs, B.notSynchronized⟩ B.returns (name_of_methodNamed B.named B.method).1 s.heap [] _ hR va_S.rf ?_
  rw [← hlo]
  exact mx_of_L hl
theorem mx_Qof {post : Option Value → mx_H → Prop} {v : Option Value} {H : Heap} {locs : List Loc} {t : State} (hR : mx_R G base h H) (hS : va_S (mx_A base) s.heap H locs) (hpost : post v h) (ht : t.heap = H) : mx_Qc G base post args s (.returned v) t := ⟨v, h, rfl, hpost, by rw [ht]; exact hR, hS.F ht⟩
theorem mx_iret {post : Option Value → mx_H → Prop} {mc ms : Nat} {x : Int32} (C : mx_C p s m args meth c cc nL own G base) (hr : meth.sig.returnType = some .int) (hd : decode cc pc = .ok (.ireturn, 1)) (hc : kc ≤ mc) (hs : ks ≤ ms) (hpost : post (some (.int x)) h) : mx_V p l e R s m args below meth c G base nL (MQ below (mx_Qc G base post) args s mc ms (mx_A base)) h kc ks pc lo [.int x] :=
  fun H locs ls hR hS _ => W.widen hc hs (W.iret C.1 C.2.1 hr (fun t ht _ => mx_Qof hR hS hpost ht) hS.2.2 hd C.2.2.2.2.2.2.2)
theorem mx_zret {post : Option Value → mx_H → Prop} {mc ms : Nat} {x : Int32} {ty : FieldType} (C : mx_C p s m args meth c cc nL own G base) (hr : meth.sig.returnType = some ty) (hn : narrow ty (.int x) = .int x) (hd : decode cc pc = .ok (.ireturn, 1)) (hc : kc ≤ mc) (hs : ks ≤ ms) (hpost : post (some (.int x)) h) : mx_V p l e R s m args below meth c G base nL (MQ below (mx_Qc G base post) args s mc ms (mx_A base)) h kc ks pc lo [.int x] :=
  fun H locs ls hR hS _ => W.widen hc hs (W.zret C.1 C.2.1 hr hn (fun t ht _ => mx_Qof hR hS hpost ht) hS.2.2 hd C.2.2.2.2.2.2.2)
theorem mx_lret {post : Option Value → mx_H → Prop} {mc ms : Nat} {x : Int64} (C : mx_C p s m args meth c cc nL own G base) (hr : meth.sig.returnType = some .long) (hd : decode cc pc = .ok (.lreturn, 1)) (hc : kc ≤ mc) (hs : ks ≤ ms) (hpost : post (some (.long x)) h) : mx_V p l e R s m args below meth c G base nL (MQ below (mx_Qc G base post) args s mc ms (mx_A base)) h kc ks pc lo [.long x] :=
  fun H locs ls hR hS _ => W.widen hc hs (W.lret C.1 C.2.1 hr (fun t ht _ => mx_Qof hR hS hpost ht) hS.2.2 hd C.2.2.2.2.2.2.2)
theorem mx_vret {post : Option Value → mx_H → Prop} {mc ms : Nat} (C : mx_C p s m args meth c cc nL own G base) (hr : meth.sig.returnType = none) (hd : decode cc pc = .ok (.return_, 1)) (hc : kc ≤ mc) (hs : ks ≤ ms) (hpost : post none h) : mx_V p l e R s m args below meth c G base nL (MQ below (mx_Qc G base post) args s mc ms (mx_A base)) h kc ks pc lo [] :=
  fun H locs ls hR hS _ => W.widen hc hs (W.vret C.1 C.2.1 hr (fun t ht _ => mx_Qof hR hS hpost ht) hS.2.2 hd C.2.2.2.2.2.2.2)
theorem mx_aret {post : Option Value → mx_H → Prop} {mc ms : Nat} {x : Option Nat} {nm : String} (C : mx_C p s m args meth c cc nL own G base) (hr : meth.sig.returnType = some (.object nm)) (hd : decode cc pc = .ok (.areturn, 1)) (hc : kc ≤ mc) (hs : ks ≤ ms) (hpost : post (some (va_rf x)) h) : mx_V p l e R s m args below meth c G base nL (MQ below (mx_Qc G base post) args s mc ms (mx_A base)) h kc ks pc lo [va_rf x] :=
  fun H locs ls hR hS _ => W.widen hc hs (W.aret C.1 C.2.1 hr (Or.inl ⟨nm, rfl⟩) (by cases x with | none => exact Or.inl rfl | some a => exact Or.inr ⟨a, rfl⟩) (fun t ht _ => mx_Qof hR hS hpost ht) hS.2.2 hd C.2.2.2.2.2.2.2)
theorem mx_blind {as : List Value} : FrameBlind (mx_Pc G base as h) := fun a U g mk q => by
  obtain ⟨q1, q2, q3, q4⟩ := q
  exact ⟨q1, q2, va_K.moved (u := U) (U := U.calling g mk a) (Vm.Alike.refl U.vm) q3, q4⟩
theorem mx_preS (C : mx_C p s m args meth c cc nL own G base) {as : List Value} {H : Heap} {locs : List Loc} (hR : mx_R G base h H) (hS : va_S (mx_A base) s.heap H locs) : PreS s H (mx_Pc G base as h) as :=
  ⟨mx_blind, fun U hU hW => ⟨rfl, by rw [hU]; exact hR, va_K.moved hW.alike C.2.2.2.2.2.1, Nat.le_trans C.2.2.2.2.2.2.1 (by rw [hU]; exact hS.1)⟩⟩
theorem mx_cb (C : mx_C p s m args meth c cc nL own G base) {y : MethodName} {b : ByteArray} {nL' : Nat} {ret : Option FieldType} {fr lc mc ms n index : Nat} (hw : Cond.methodLink own index y ∈ mx_tb) (hini : Cond.initialized y.cls ∈ mx_tb) (hcode : Cond.code y b nL' ret ∈ mx_tb)
    (hd : y.cls ≠ "java/lang/invoke/MethodHandle" ∧ y.cls ≠ "java/lang/invoke/VarHandle" ∧ (parseMethodDescriptor y.desc).map (fun d => d.parameters.length) = some n) (hRm : fr + 1 ≤ R.frames ∧ 8 + (nL' + 11) + lc ≤ R.locals) : CallB R s args own index y b nL' ret (Cond.code y b nL' ret :: mx_tb) { frames := fr, cells := mc, slots := ms, locals := lc } mc ms n :=
  callB_of n (Ts := mx_tb) C.2.2.2.2.1 (mx_good (fun w h => (List.mem_cons.mp h).elim (fun z => by rw [z]; exact hcode) (fun z => z))) rfl rfl rfl (C.2.2.2.2.1 _ hini) (C.2.2.2.2.1 _ hw) hd hRm
theorem mx_go {post : Option Value → mx_H → Prop} {H : Heap} {locs : List Loc} {ls : Array Slot} {mc ms : Nat} {a : Array Value} {rest st0 : List Value} (hr : va_Run p l e R s m args below meth c H locs kc ks mc ms (F0 m pc ls st0) rest (mx_Qc G base post a) (mx_A base)) (hS : va_S (mx_A base) s.heap H locs) (hL : mx_L ls nL lo)
    (kk : ∀ (v : Option Value) (h' : mx_H), post v h' → mx_V p l e R s m args below meth c G base nL Q h' (kc + mc) (ks + ms) (pc + 3) lo (v.toList ++ rest)) : W p l e R s m args below meth c H locs kc ks Q (F0 m pc ls st0) := by
  intro T hT X
  obtain ⟨v, st₀, t, T', L, h0, X', hLc, e1, e2, ⟨v', h', hv, hp, hR', hF⟩, st⟩ := hr T hT X
  cases hv
  obtain ⟨hz, hk⟩ := hF
  rw [h0] at hz hk
  have hS' : va_S (mx_A base) s.heap T'.heap (locs ++ L) := ⟨Nat.le_trans hS.1 (by rw [e1]; exact hz), fun q h1 h2 => by rw [e1, hk q (Nat.lt_of_lt_of_le h1 hS.1) h2]; exact hS.2.1 q h1 h2, fun q hq => by
    rcases List.mem_append.mp hq with z | z
    · exact hS.2.2 q z
    · exact hLc q z⟩
  obtain ⟨t2, a1, b1⟩ := kk v h' hp T'.heap (locs ++ L) ls (by rw [e1]; exact hR') hS' hL T' rfl X'
  exact ⟨t2, st t2 a1, b1⟩

theorem mx_callV0 (C : mx_C p s m args meth c cc nL own G base) {y : MethodName} {b : ByteArray} {nL' fr lc mc ms index : Nat} {ret : Option FieldType} {a ci N : Nat} {cn : String} {T : u_T} {fs : List Value} {rest : List Value} {post : Option Value → mx_H → Prop} (hini : Cond.initialized y.cls ∈ mx_tb) (hcode : Cond.code y b nL' ret ∈ mx_tb) (hw : Cond.methodLink own index y ∈ mx_tb) (hi : Cond.instanceMethod y ∈ mx_tb) (hsel : Cond.selects cn y y ∈ mx_tb) (hcl : mxCl[ci]? = some (cn, T, N)) (hdd : y.cls ≠ "java/lang/invoke/MethodHandle" ∧ y.cls ≠ "java/lang/invoke/VarHandle" ∧ (parseMethodDescriptor y.desc).map (fun d => d.parameters.length) = some 0) (hd : decode cc pc = .ok (.invokevirtual index, 3)) {pc' : Nat} (hp : pc + 3 = pc') (ha : h a = some (.inr (ci, fs))) (hM : mx_M l G base y b nL' ret fr lc mc ms (.ref a :: []) h post) (hRm : fr + 1 ≤ R.frames ∧ 8 + (nL' + 11) + lc ≤ R.locals ∧ kc + mc ≤ R.cells ∧ ks + ms ≤ R.slots ∧ (rest.map fun v => v.category).sum ≤ 8) 
    (kk : ∀ (v : Option Value) (h' : mx_H), post v h' → mx_V p l e R s m args below meth c G base nL Q h' (kc + mc) (ks + ms) pc' lo (v.toList ++ rest)) : mx_V p l e R s m args below meth c G base nL Q h kc ks pc lo (.ref a :: rest) := by
  subst hp
  intro H locs ls hR hS hL
  have hX : CallFix p m c cc nL s args mx_tb own := ⟨C.1, C.2.1, C.2.2.1, C.2.2.2.1, C.2.2.2.2.1⟩
  obtain ⟨r, g1, cell, g2, g3, g4, -⟩ := hR.at ha
  have hr : r = (cn, T, N) := Option.some.inj (g1.symm.trans hcl)
  subst hr
  exact mx_go (va_runV (As := []) (rest := rest) hX hM ⟨mx_cb C hw hini hcode hdd ⟨hRm.1, hRm.2.1⟩, C.2.2.2.2.1 _ hi, C.2.2.2.2.1 _ hsel⟩ ⟨mx_blind, ⟨cell, g2, by rw [g4]; rfl, by rw [g3]; exact (C.2.2.2.2.2.1.1 ci _ hcl).2.1⟩, (mx_preS C hR hS).2⟩ rfl rfl hL.1 rfl (lv_room hRm.2.2.2.2) hd ⟨hRm.2.2.1, hRm.2.2.2.1⟩) hS hL kk

theorem mx_callV1 (C : mx_C p s m args meth c cc nL own G base) {y : MethodName} {b : ByteArray} {nL' fr lc mc ms index : Nat} {ret : Option FieldType} {a ci N : Nat} {cn : String} {T : u_T} {fs : List Value} {w1 : Value} {rest : List Value} {post : Option Value → mx_H → Prop} (hini : Cond.initialized y.cls ∈ mx_tb) (hcode : Cond.code y b nL' ret ∈ mx_tb) (hw : Cond.methodLink own index y ∈ mx_tb) (hi : Cond.instanceMethod y ∈ mx_tb) (hsel : Cond.selects cn y y ∈ mx_tb) (hcl : mxCl[ci]? = some (cn, T, N)) (hdd : y.cls ≠ "java/lang/invoke/MethodHandle" ∧ y.cls ≠ "java/lang/invoke/VarHandle" ∧ (parseMethodDescriptor y.desc).map (fun d => d.parameters.length) = some 1) (hd : decode cc pc = .ok (.invokevirtual index, 3)) {pc' : Nat} (hp : pc + 3 = pc') (ha : h a = some (.inr (ci, fs))) (hM : mx_M l G base y b nL' ret fr lc mc ms (.ref a :: [w1]) h post) (hRm : fr + 1 ≤ R.frames ∧ 8 + (nL' + 11) + lc ≤ R.locals ∧ kc + mc ≤ R.cells ∧ ks + ms ≤ R.slots ∧ (rest.map fun v => v.category).sum ≤ 8) 
    (kk : ∀ (v : Option Value) (h' : mx_H), post v h' → mx_V p l e R s m args below meth c G base nL Q h' (kc + mc) (ks + ms) pc' lo (v.toList ++ rest)) : mx_V p l e R s m args below meth c G base nL Q h kc ks pc lo (w1 :: .ref a :: rest) := by
  subst hp
  intro H locs ls hR hS hL
  have hX : CallFix p m c cc nL s args mx_tb own := ⟨C.1, C.2.1, C.2.2.1, C.2.2.2.1, C.2.2.2.2.1⟩
  obtain ⟨r, g1, cell, g2, g3, g4, -⟩ := hR.at ha
  have hr : r = (cn, T, N) := Option.some.inj (g1.symm.trans hcl)
  subst hr
  exact mx_go (va_runV (As := [w1]) (rest := rest) hX hM ⟨mx_cb C hw hini hcode hdd ⟨hRm.1, hRm.2.1⟩, C.2.2.2.2.1 _ hi, C.2.2.2.2.1 _ hsel⟩ ⟨mx_blind, ⟨cell, g2, by rw [g4]; rfl, by rw [g3]; exact (C.2.2.2.2.2.1.1 ci _ hcl).2.1⟩, (mx_preS C hR hS).2⟩ rfl rfl hL.1 rfl (lv_room hRm.2.2.2.2) hd ⟨hRm.2.2.1, hRm.2.2.2.1⟩) hS hL kk

theorem mx_callV2 (C : mx_C p s m args meth c cc nL own G base) {y : MethodName} {b : ByteArray} {nL' fr lc mc ms index : Nat} {ret : Option FieldType} {a ci N : Nat} {cn : String} {T : u_T} {fs : List Value} {w1 w2 : Value} {rest : List Value} {post : Option Value → mx_H → Prop} (hini : Cond.initialized y.cls ∈ mx_tb) (hcode : Cond.code y b nL' ret ∈ mx_tb) (hw : Cond.methodLink own index y ∈ mx_tb) (hi : Cond.instanceMethod y ∈ mx_tb) (hsel : Cond.selects cn y y ∈ mx_tb) (hcl : mxCl[ci]? = some (cn, T, N)) (hdd : y.cls ≠ "java/lang/invoke/MethodHandle" ∧ y.cls ≠ "java/lang/invoke/VarHandle" ∧ (parseMethodDescriptor y.desc).map (fun d => d.parameters.length) = some 2) (hd : decode cc pc = .ok (.invokevirtual index, 3)) {pc' : Nat} (hp : pc + 3 = pc') (ha : h a = some (.inr (ci, fs))) (hM : mx_M l G base y b nL' ret fr lc mc ms (.ref a :: [w1, w2]) h post) (hRm : fr + 1 ≤ R.frames ∧ 8 + (nL' + 11) + lc ≤ R.locals ∧ kc + mc ≤ R.cells ∧ ks + ms ≤ R.slots ∧ (rest.map fun v => v.category).sum ≤ 8) 
    (kk : ∀ (v : Option Value) (h' : mx_H), post v h' → mx_V p l e R s m args below meth c G base nL Q h' (kc + mc) (ks + ms) pc' lo (v.toList ++ rest)) : mx_V p l e R s m args below meth c G base nL Q h kc ks pc lo (w2 :: w1 :: .ref a :: rest) := by
  subst hp
  intro H locs ls hR hS hL
  have hX : CallFix p m c cc nL s args mx_tb own := ⟨C.1, C.2.1, C.2.2.1, C.2.2.2.1, C.2.2.2.2.1⟩
  obtain ⟨r, g1, cell, g2, g3, g4, -⟩ := hR.at ha
  have hr : r = (cn, T, N) := Option.some.inj (g1.symm.trans hcl)
  subst hr
  exact mx_go (va_runV (As := [w1, w2]) (rest := rest) hX hM ⟨mx_cb C hw hini hcode hdd ⟨hRm.1, hRm.2.1⟩, C.2.2.2.2.1 _ hi, C.2.2.2.2.1 _ hsel⟩ ⟨mx_blind, ⟨cell, g2, by rw [g4]; rfl, by rw [g3]; exact (C.2.2.2.2.2.1.1 ci _ hcl).2.1⟩, (mx_preS C hR hS).2⟩ rfl rfl hL.1 rfl (lv_room hRm.2.2.2.2) hd ⟨hRm.2.2.1, hRm.2.2.2.1⟩) hS hL kk

theorem mx_callV3 (C : mx_C p s m args meth c cc nL own G base) {y : MethodName} {b : ByteArray} {nL' fr lc mc ms index : Nat} {ret : Option FieldType} {a ci N : Nat} {cn : String} {T : u_T} {fs : List Value} {w1 w2 w3 : Value} {rest : List Value} {post : Option Value → mx_H → Prop} (hini : Cond.initialized y.cls ∈ mx_tb) (hcode : Cond.code y b nL' ret ∈ mx_tb) (hw : Cond.methodLink own index y ∈ mx_tb) (hi : Cond.instanceMethod y ∈ mx_tb) (hsel : Cond.selects cn y y ∈ mx_tb) (hcl : mxCl[ci]? = some (cn, T, N)) (hdd : y.cls ≠ "java/lang/invoke/MethodHandle" ∧ y.cls ≠ "java/lang/invoke/VarHandle" ∧ (parseMethodDescriptor y.desc).map (fun d => d.parameters.length) = some 3) (hd : decode cc pc = .ok (.invokevirtual index, 3)) {pc' : Nat} (hp : pc + 3 = pc') (ha : h a = some (.inr (ci, fs))) (hM : mx_M l G base y b nL' ret fr lc mc ms (.ref a :: [w1, w2, w3]) h post) (hRm : fr + 1 ≤ R.frames ∧ 8 + (nL' + 11) + lc ≤ R.locals ∧ kc + mc ≤ R.cells ∧ ks + ms ≤ R.slots ∧ (rest.map fun v => v.category).sum ≤ 8) 
    (kk : ∀ (v : Option Value) (h' : mx_H), post v h' → mx_V p l e R s m args below meth c G base nL Q h' (kc + mc) (ks + ms) pc' lo (v.toList ++ rest)) : mx_V p l e R s m args below meth c G base nL Q h kc ks pc lo (w3 :: w2 :: w1 :: .ref a :: rest) := by
  subst hp
  intro H locs ls hR hS hL
  have hX : CallFix p m c cc nL s args mx_tb own := ⟨C.1, C.2.1, C.2.2.1, C.2.2.2.1, C.2.2.2.2.1⟩
  obtain ⟨r, g1, cell, g2, g3, g4, -⟩ := hR.at ha
  have hr : r = (cn, T, N) := Option.some.inj (g1.symm.trans hcl)
  subst hr
  exact mx_go (va_runV (As := [w1, w2, w3]) (rest := rest) hX hM ⟨mx_cb C hw hini hcode hdd ⟨hRm.1, hRm.2.1⟩, C.2.2.2.2.1 _ hi, C.2.2.2.2.1 _ hsel⟩ ⟨mx_blind, ⟨cell, g2, by rw [g4]; rfl, by rw [g3]; exact (C.2.2.2.2.2.1.1 ci _ hcl).2.1⟩, (mx_preS C hR hS).2⟩ rfl rfl hL.1 rfl (lv_room hRm.2.2.2.2) hd ⟨hRm.2.2.1, hRm.2.2.2.1⟩) hS hL kk

theorem mx_callV6 (C : mx_C p s m args meth c cc nL own G base) {y : MethodName} {b : ByteArray} {nL' fr lc mc ms index : Nat} {ret : Option FieldType} {a ci N : Nat} {cn : String} {T : u_T} {fs : List Value} {w1 w2 w3 w4 w5 w6 : Value} {rest : List Value} {post : Option Value → mx_H → Prop} (hini : Cond.initialized y.cls ∈ mx_tb) (hcode : Cond.code y b nL' ret ∈ mx_tb) (hw : Cond.methodLink own index y ∈ mx_tb) (hi : Cond.instanceMethod y ∈ mx_tb) (hsel : Cond.selects cn y y ∈ mx_tb) (hcl : mxCl[ci]? = some (cn, T, N)) (hdd : y.cls ≠ "java/lang/invoke/MethodHandle" ∧ y.cls ≠ "java/lang/invoke/VarHandle" ∧ (parseMethodDescriptor y.desc).map (fun d => d.parameters.length) = some 6) (hd : decode cc pc = .ok (.invokevirtual index, 3)) {pc' : Nat} (hp : pc + 3 = pc') (ha : h a = some (.inr (ci, fs))) (hM : mx_M l G base y b nL' ret fr lc mc ms (.ref a :: [w1, w2, w3, w4, w5, w6]) h post) (hRm : fr + 1 ≤ R.frames ∧ 8 + (nL' + 11) + lc ≤ R.locals ∧ kc + mc ≤ R.cells ∧ ks + ms ≤ R.slots ∧ (rest.map fun v => v.category).sum ≤ 8) 
    (kk : ∀ (v : Option Value) (h' : mx_H), post v h' → mx_V p l e R s m args below meth c G base nL Q h' (kc + mc) (ks + ms) pc' lo (v.toList ++ rest)) : mx_V p l e R s m args below meth c G base nL Q h kc ks pc lo (w6 :: w5 :: w4 :: w3 :: w2 :: w1 :: .ref a :: rest) := by
  subst hp
  intro H locs ls hR hS hL
  have hX : CallFix p m c cc nL s args mx_tb own := ⟨C.1, C.2.1, C.2.2.1, C.2.2.2.1, C.2.2.2.2.1⟩
  obtain ⟨r, g1, cell, g2, g3, g4, -⟩ := hR.at ha
  have hr : r = (cn, T, N) := Option.some.inj (g1.symm.trans hcl)
  subst hr
  exact mx_go (va_runV (As := [w1, w2, w3, w4, w5, w6]) (rest := rest) hX hM ⟨mx_cb C hw hini hcode hdd ⟨hRm.1, hRm.2.1⟩, C.2.2.2.2.1 _ hi, C.2.2.2.2.1 _ hsel⟩ ⟨mx_blind, ⟨cell, g2, by rw [g4]; rfl, by rw [g3]; exact (C.2.2.2.2.2.1.1 ci _ hcl).2.1⟩, (mx_preS C hR hS).2⟩ rfl rfl hL.1 rfl (lv_room hRm.2.2.2.2) hd ⟨hRm.2.2.1, hRm.2.2.2.1⟩) hS hL kk

theorem mx_callS1 (C : mx_C p s m args meth c cc nL own G base) {y : MethodName} {b : ByteArray} {nL' fr lc mc ms index : Nat} {ret : Option FieldType} {w1 : Value} {rest : List Value} {post : Option Value → mx_H → Prop} (hini : Cond.initialized y.cls ∈ mx_tb) (hcode : Cond.code y b nL' ret ∈ mx_tb) (hw : Cond.methodLink own index y ∈ mx_tb) (hi : Cond.static y ∈ mx_tb) (hdd : y.cls ≠ "java/lang/invoke/MethodHandle" ∧ y.cls ≠ "java/lang/invoke/VarHandle" ∧ (parseMethodDescriptor y.desc).map (fun d => d.parameters.length) = some 1) (hd : decode cc pc = .ok (.invokestatic index, 3)) {pc' : Nat} (hp : pc + 3 = pc') (hM : mx_M l G base y b nL' ret fr lc mc ms ([w1]) h post) (hRm : fr + 1 ≤ R.frames ∧ 8 + (nL' + 11) + lc ≤ R.locals ∧ kc + mc ≤ R.cells ∧ ks + ms ≤ R.slots ∧ (rest.map fun v => v.category).sum ≤ 8) 
    (kk : ∀ (v : Option Value) (h' : mx_H), post v h' → mx_V p l e R s m args below meth c G base nL Q h' (kc + mc) (ks + ms) pc' lo (v.toList ++ rest)) : mx_V p l e R s m args below meth c G base nL Q h kc ks pc lo (w1 :: rest) := by
  subst hp
  intro H locs ls hR hS hL
  have hX : CallFix p m c cc nL s args mx_tb own := ⟨C.1, C.2.1, C.2.2.1, C.2.2.2.1, C.2.2.2.2.1⟩
  exact mx_go (va_runS (As := [w1]) (rest := rest) hX hM ⟨mx_cb C hw hini hcode hdd ⟨hRm.1, hRm.2.1⟩, C.2.2.2.2.1 _ hi⟩ (mx_preS C hR hS) rfl rfl hL.1 rfl (lv_room hRm.2.2.2.2) hd ⟨hRm.2.2.1, hRm.2.2.2.1⟩) hS hL kk

theorem mx_callS2 (C : mx_C p s m args meth c cc nL own G base) {y : MethodName} {b : ByteArray} {nL' fr lc mc ms index : Nat} {ret : Option FieldType} {w1 w2 : Value} {rest : List Value} {post : Option Value → mx_H → Prop} (hini : Cond.initialized y.cls ∈ mx_tb) (hcode : Cond.code y b nL' ret ∈ mx_tb) (hw : Cond.methodLink own index y ∈ mx_tb) (hi : Cond.static y ∈ mx_tb) (hdd : y.cls ≠ "java/lang/invoke/MethodHandle" ∧ y.cls ≠ "java/lang/invoke/VarHandle" ∧ (parseMethodDescriptor y.desc).map (fun d => d.parameters.length) = some 2) (hd : decode cc pc = .ok (.invokestatic index, 3)) {pc' : Nat} (hp : pc + 3 = pc') (hM : mx_M l G base y b nL' ret fr lc mc ms ([w1, w2]) h post) (hRm : fr + 1 ≤ R.frames ∧ 8 + (nL' + 11) + lc ≤ R.locals ∧ kc + mc ≤ R.cells ∧ ks + ms ≤ R.slots ∧ (rest.map fun v => v.category).sum ≤ 8) 
    (kk : ∀ (v : Option Value) (h' : mx_H), post v h' → mx_V p l e R s m args below meth c G base nL Q h' (kc + mc) (ks + ms) pc' lo (v.toList ++ rest)) : mx_V p l e R s m args below meth c G base nL Q h kc ks pc lo (w2 :: w1 :: rest) := by
  subst hp
  intro H locs ls hR hS hL
  have hX : CallFix p m c cc nL s args mx_tb own := ⟨C.1, C.2.1, C.2.2.1, C.2.2.2.1, C.2.2.2.2.1⟩
  exact mx_go (va_runS (As := [w1, w2]) (rest := rest) hX hM ⟨mx_cb C hw hini hcode hdd ⟨hRm.1, hRm.2.1⟩, C.2.2.2.2.1 _ hi⟩ (mx_preS C hR hS) rfl rfl hL.1 rfl (lv_room hRm.2.2.2.2) hd ⟨hRm.2.2.1, hRm.2.2.2.1⟩) hS hL kk

theorem mx_callS4 (C : mx_C p s m args meth c cc nL own G base) {y : MethodName} {b : ByteArray} {nL' fr lc mc ms index : Nat} {ret : Option FieldType} {w1 w2 w3 w4 : Value} {rest : List Value} {post : Option Value → mx_H → Prop} (hini : Cond.initialized y.cls ∈ mx_tb) (hcode : Cond.code y b nL' ret ∈ mx_tb) (hw : Cond.methodLink own index y ∈ mx_tb) (hi : Cond.static y ∈ mx_tb) (hdd : y.cls ≠ "java/lang/invoke/MethodHandle" ∧ y.cls ≠ "java/lang/invoke/VarHandle" ∧ (parseMethodDescriptor y.desc).map (fun d => d.parameters.length) = some 4) (hd : decode cc pc = .ok (.invokestatic index, 3)) {pc' : Nat} (hp : pc + 3 = pc') (hM : mx_M l G base y b nL' ret fr lc mc ms ([w1, w2, w3, w4]) h post) (hRm : fr + 1 ≤ R.frames ∧ 8 + (nL' + 11) + lc ≤ R.locals ∧ kc + mc ≤ R.cells ∧ ks + ms ≤ R.slots ∧ (rest.map fun v => v.category).sum ≤ 8) 
    (kk : ∀ (v : Option Value) (h' : mx_H), post v h' → mx_V p l e R s m args below meth c G base nL Q h' (kc + mc) (ks + ms) pc' lo (v.toList ++ rest)) : mx_V p l e R s m args below meth c G base nL Q h kc ks pc lo (w4 :: w3 :: w2 :: w1 :: rest) := by
  subst hp
  intro H locs ls hR hS hL
  have hX : CallFix p m c cc nL s args mx_tb own := ⟨C.1, C.2.1, C.2.2.1, C.2.2.2.1, C.2.2.2.2.1⟩
  exact mx_go (va_runS (As := [w1, w2, w3, w4]) (rest := rest) hX hM ⟨mx_cb C hw hini hcode hdd ⟨hRm.1, hRm.2.1⟩, C.2.2.2.2.1 _ hi⟩ (mx_preS C hR hS) rfl rfl hL.1 rfl (lv_room hRm.2.2.2.2) hd ⟨hRm.2.2.1, hRm.2.2.2.1⟩) hS hL kk

theorem mx_callS5 (C : mx_C p s m args meth c cc nL own G base) {y : MethodName} {b : ByteArray} {nL' fr lc mc ms index : Nat} {ret : Option FieldType} {w1 w2 w3 w4 w5 : Value} {rest : List Value} {post : Option Value → mx_H → Prop} (hini : Cond.initialized y.cls ∈ mx_tb) (hcode : Cond.code y b nL' ret ∈ mx_tb) (hw : Cond.methodLink own index y ∈ mx_tb) (hi : Cond.static y ∈ mx_tb) (hdd : y.cls ≠ "java/lang/invoke/MethodHandle" ∧ y.cls ≠ "java/lang/invoke/VarHandle" ∧ (parseMethodDescriptor y.desc).map (fun d => d.parameters.length) = some 5) (hd : decode cc pc = .ok (.invokestatic index, 3)) {pc' : Nat} (hp : pc + 3 = pc') (hM : mx_M l G base y b nL' ret fr lc mc ms ([w1, w2, w3, w4, w5]) h post) (hRm : fr + 1 ≤ R.frames ∧ 8 + (nL' + 11) + lc ≤ R.locals ∧ kc + mc ≤ R.cells ∧ ks + ms ≤ R.slots ∧ (rest.map fun v => v.category).sum ≤ 8) 
    (kk : ∀ (v : Option Value) (h' : mx_H), post v h' → mx_V p l e R s m args below meth c G base nL Q h' (kc + mc) (ks + ms) pc' lo (v.toList ++ rest)) : mx_V p l e R s m args below meth c G base nL Q h kc ks pc lo (w5 :: w4 :: w3 :: w2 :: w1 :: rest) := by
  subst hp
  intro H locs ls hR hS hL
  have hX : CallFix p m c cc nL s args mx_tb own := ⟨C.1, C.2.1, C.2.2.1, C.2.2.2.1, C.2.2.2.2.1⟩
  exact mx_go (va_runS (As := [w1, w2, w3, w4, w5]) (rest := rest) hX hM ⟨mx_cb C hw hini hcode hdd ⟨hRm.1, hRm.2.1⟩, C.2.2.2.2.1 _ hi⟩ (mx_preS C hR hS) rfl rfl hL.1 rfl (lv_room hRm.2.2.2.2) hd ⟨hRm.2.2.1, hRm.2.2.2.1⟩) hS hL kk

theorem mx_callI0 (C : mx_C p s m args meth c cc nL own G base) {y : MethodName} {b : ByteArray} {nL' fr lc mc ms index : Nat} {a : Nat} {rest : List Value} {post : Option Value → mx_H → Prop} (hini : Cond.initialized y.cls ∈ mx_tb) (hcode : Cond.code y b nL' none ∈ mx_tb) (hw : Cond.methodLink own index y ∈ mx_tb) (hi : Cond.instanceMethod y ∈ mx_tb) (hnm : y.name = "<init>") (hdd : y.cls ≠ "java/lang/invoke/MethodHandle" ∧ y.cls ≠ "java/lang/invoke/VarHandle" ∧ (parseMethodDescriptor y.desc).map (fun d => d.parameters.length) = some 0) (hd : decode cc pc = .ok (.invokespecial index, 3)) {pc' : Nat} (hp : pc + 3 = pc') (hM : mx_M l G base y b nL' none fr lc mc ms (.ref a :: []) h post) (hRm : fr + 1 ≤ R.frames ∧ 8 + (nL' + 11) + lc ≤ R.locals ∧ kc + mc ≤ R.cells ∧ ks + ms ≤ R.slots ∧ (rest.map fun v => v.category).sum ≤ 8) 
    (kk : ∀ (v : Option Value) (h' : mx_H), post v h' → mx_V p l e R s m args below meth c G base nL Q h' (kc + mc) (ks + ms) pc' lo (v.toList ++ rest)) : mx_V p l e R s m args below meth c G base nL Q h kc ks pc lo (.ref a :: rest) := by
  subst hp
  intro H locs ls hR hS hL
  have hX : CallFix p m c cc nL s args mx_tb own := ⟨C.1, C.2.1, C.2.2.1, C.2.2.2.1, C.2.2.2.2.1⟩
  exact mx_go (va_runI (As := []) (rest := rest) hX hM ⟨mx_cb C hw hini hcode hdd ⟨hRm.1, hRm.2.1⟩, hnm, C.2.2.2.2.1 _ hi⟩ (mx_preS C hR hS) rfl rfl hL.1 rfl (lv_room hRm.2.2.2.2) hd ⟨hRm.2.2.1, hRm.2.2.2.1⟩) hS hL kk

theorem mx_callI2 (C : mx_C p s m args meth c cc nL own G base) {y : MethodName} {b : ByteArray} {nL' fr lc mc ms index : Nat} {a : Nat} {w1 w2 : Value} {rest : List Value} {post : Option Value → mx_H → Prop} (hini : Cond.initialized y.cls ∈ mx_tb) (hcode : Cond.code y b nL' none ∈ mx_tb) (hw : Cond.methodLink own index y ∈ mx_tb) (hi : Cond.instanceMethod y ∈ mx_tb) (hnm : y.name = "<init>") (hdd : y.cls ≠ "java/lang/invoke/MethodHandle" ∧ y.cls ≠ "java/lang/invoke/VarHandle" ∧ (parseMethodDescriptor y.desc).map (fun d => d.parameters.length) = some 2) (hd : decode cc pc = .ok (.invokespecial index, 3)) {pc' : Nat} (hp : pc + 3 = pc') (hM : mx_M l G base y b nL' none fr lc mc ms (.ref a :: [w1, w2]) h post) (hRm : fr + 1 ≤ R.frames ∧ 8 + (nL' + 11) + lc ≤ R.locals ∧ kc + mc ≤ R.cells ∧ ks + ms ≤ R.slots ∧ (rest.map fun v => v.category).sum ≤ 8) 
    (kk : ∀ (v : Option Value) (h' : mx_H), post v h' → mx_V p l e R s m args below meth c G base nL Q h' (kc + mc) (ks + ms) pc' lo (v.toList ++ rest)) : mx_V p l e R s m args below meth c G base nL Q h kc ks pc lo (w2 :: w1 :: .ref a :: rest) := by
  subst hp
  intro H locs ls hR hS hL
  have hX : CallFix p m c cc nL s args mx_tb own := ⟨C.1, C.2.1, C.2.2.1, C.2.2.2.1, C.2.2.2.2.1⟩
  exact mx_go (va_runI (As := [w1, w2]) (rest := rest) hX hM ⟨mx_cb C hw hini hcode hdd ⟨hRm.1, hRm.2.1⟩, hnm, C.2.2.2.2.1 _ hi⟩ (mx_preS C hR hS) rfl rfl hL.1 rfl (lv_room hRm.2.2.2.2) hd ⟨hRm.2.2.1, hRm.2.2.2.1⟩) hS hL kk

theorem mx_callI3 (C : mx_C p s m args meth c cc nL own G base) {y : MethodName} {b : ByteArray} {nL' fr lc mc ms index : Nat} {a : Nat} {w1 w2 w3 : Value} {rest : List Value} {post : Option Value → mx_H → Prop} (hini : Cond.initialized y.cls ∈ mx_tb) (hcode : Cond.code y b nL' none ∈ mx_tb) (hw : Cond.methodLink own index y ∈ mx_tb) (hi : Cond.instanceMethod y ∈ mx_tb) (hnm : y.name = "<init>") (hdd : y.cls ≠ "java/lang/invoke/MethodHandle" ∧ y.cls ≠ "java/lang/invoke/VarHandle" ∧ (parseMethodDescriptor y.desc).map (fun d => d.parameters.length) = some 3) (hd : decode cc pc = .ok (.invokespecial index, 3)) {pc' : Nat} (hp : pc + 3 = pc') (hM : mx_M l G base y b nL' none fr lc mc ms (.ref a :: [w1, w2, w3]) h post) (hRm : fr + 1 ≤ R.frames ∧ 8 + (nL' + 11) + lc ≤ R.locals ∧ kc + mc ≤ R.cells ∧ ks + ms ≤ R.slots ∧ (rest.map fun v => v.category).sum ≤ 8) 
    (kk : ∀ (v : Option Value) (h' : mx_H), post v h' → mx_V p l e R s m args below meth c G base nL Q h' (kc + mc) (ks + ms) pc' lo (v.toList ++ rest)) : mx_V p l e R s m args below meth c G base nL Q h kc ks pc lo (w3 :: w2 :: w1 :: .ref a :: rest) := by
  subst hp
  intro H locs ls hR hS hL
  have hX : CallFix p m c cc nL s args mx_tb own := ⟨C.1, C.2.1, C.2.2.1, C.2.2.2.1, C.2.2.2.2.1⟩
  exact mx_go (va_runI (As := [w1, w2, w3]) (rest := rest) hX hM ⟨mx_cb C hw hini hcode hdd ⟨hRm.1, hRm.2.1⟩, hnm, C.2.2.2.2.1 _ hi⟩ (mx_preS C hR hS) rfl rfl hL.1 rfl (lv_room hRm.2.2.2.2) hd ⟨hRm.2.2.1, hRm.2.2.2.1⟩) hS hL kk

theorem mx_objInit (C : mx_C p s m args meth c cc nL own G base) {idx a : Nat} {rest : List Value} (hw : Cond.methodLink own idx Lib.objectInit ∈ mx_tb) (hi : Cond.instanceMethod Lib.objectInit ∈ mx_tb) (hc : Cond.code Lib.objectInit ⟨#[0xb1]⟩ 1 none ∈ mx_tb) (hd : decode cc pc = .ok (.invokespecial idx, 3)) {pc' : Nat} (hp : pc + 3 = pc') (hRm : 1 ≤ R.frames ∧ (rest.map fun v => v.category).sum + 12 ≤ R.locals) (k : mx_V p l e R s m args below meth c G base nL Q h kc ks pc' lo rest) : mx_V p l e R s m args below meth c G base nL Q h kc ks pc lo (.ref a :: rest) := by
  subst hp
  intro H locs ls hR hS hL
  exact W.objInit C.1 C.2.1 C.2.2.2.1 (C.2.2.2.2.1 _ hw) (C.2.2.2.2.1 _ hi) (C.2.2.2.2.1 _ hc) rfl (by rw [C.2.2.1]; exact hL.1) rfl hd hRm.1 (by show 2 * 0 + _ + 12 ≤ _; omega) (k H locs ls hR hS hL)
end MX2
