/-! heaps as functions, and a walk over them: an own layer over the kit's W -/
/-- a heap: its size, the slots used since the law's entry, what the cells hold -/
abbrev ho_H : Type := Nat × Nat × (Nat → Option va_E)
/-- ghosts: base (addresses below it are never written), limit of cells, limit of slots, classes, array types, tables of ints that are only read, addresses of statics -/
abbrev ho_G : Type := Nat × Nat × Nat × va_G × List (ClassId × FieldType) × (Nat → Option (Nat × (Nat → Int32))) × (Nat → Nat)
abbrev gB (G : ho_G) : Nat := G.1
abbrev gC (G : ho_G) : Nat := G.2.1
abbrev gS (G : ho_G) : Nat := G.2.2.1
abbrev gD (G : ho_G) : va_G := G.2.2.2.1
abbrev gT (G : ho_G) : List (ClassId × FieldType) := G.2.2.2.2.1
abbrev gR (G : ho_G) : Nat → Option (Nat × (Nat → Int32)) := G.2.2.2.2.2.1
abbrev gA (G : ho_G) : Nat → Nat := G.2.2.2.2.2.2
abbrev gW (G : ho_G) : Nat → Prop := fun q => G.1 ≤ q
/-- the class of the arrays of kind i -/
def gc (G : ho_G) (i : Nat) : ClassId := ((gT G)[i]?.getD (0, .int)).1
/-- the heap holds what the function says -/
def hs_R (G : ho_G) (σ : ho_H) (H : Heap) : Prop := H.size = σ.1 ∧ σ.1 ≤ gC G ∧ σ.2.1 ≤ gS G ∧ ∀ (a : Nat) (e : va_E), σ.2.2 a = some e → gB G ≤ a ∧ va_at (gD G) vwCl (a, e) H
/-- what is known of tables and statics -/
def gs_ok (G : ho_G) (U : State) (H : Heap) : Prop :=
  gB G ≤ H.size ∧ va_K (gD G) vwCl (gT G) U ∧ (∀ (i : Nat) (ty : FieldType), hv_tys[i]? = some ty → (gT G)[i]? = some (gc G i, ty)) ∧
  (∀ (t n : Nat) (f : Nat → Int32), gR G t = some (n, f) → va_T .int t n (fun j => .int (f j)) (gW G) U H) ∧
  (∀ (i : Nat) (q : String × String × String), hv_stat[i]? = some q → va_Z q.1 q.2.1 q.2.2 (.ref (gA G i)) (gW G) U H) ∧
  (∀ q ∈ hv_nwF, va_Nw (.fieldLinkNest q.1 q.2.1 q.2.2.1 q.2.2.2.1 q.2.2.2.2.1 q.2.2.2.2.2) U) ∧
  (∀ q ∈ hv_nwM, va_Nw (.methodLinkNest q.1 q.2.1 q.2.2.1 q.2.2.2) U) ∧
  va_T (.object "java/lang/Object") (gA G 4) 0 (fun _ => .null) (gW G) U H ∧
  (∀ q ∈ hv_cast, va_Nw (.castable q.1 q.2) U) ∧ (∀ q ∈ hv_decl, va_Nw (.declares q) U) ∧ (∀ q ∈ hv_ncast, va_Nc q.1 q.2 U) ∧
  vx_Zq Bundle.tN "UNASSIGNED_STACK" Bundle.steD (gW G) U H ∧ vx_Zq Bundle.tN "SUPPRESSED_SENTINEL" Bundle.listD (gW G) U H ∧
  va_Mi "[Ljava/lang/Object;" (gA G 5) U ∧ (∀ q ∈ hv_ao, va_AO q U)
theorem gs_ok.move {G : ho_G} {s U : State} {H H1 : Heap} (h : gs_ok G s H) (hW : s.WarmedH U.vm) (hz : H.size ≤ H1.size) (hq : ∀ a : Nat, a < H.size → ¬ gW G a → H1[a]? = H[a]?) : gs_ok G U H1 := by
  obtain ⟨h1, h2, h3, h4, h5, h6, h7, h8, h9, h10, h11, h12, h13, h14, h15⟩ := h
  refine ⟨Nat.le_trans h1 hz, va_K.moved hW.alike h2, h3, fun t n f ht => ?_, fun i q hi => ?_, fun q hq => ?_, fun q hq => ?_, ?_, fun q hq => ?_, fun q hq => ?_, fun q hq => ?_, ?_, ?_, ?_, fun q hq => va_AO.moved hW.alike (h15 q hq)⟩
  · exact va_T.moved hW.alike ((h4 t n f ht).kept hq)
  · exact va_Z.moved hW.alike ((h5 i q hi).kept hq)
  · exact va_Nw.warmF hW (h6 q hq)
  · exact va_Nw.warmM hW (h7 q hq)
  · exact va_T.moved hW.alike (h8.kept hq)
  · exact va_Nw.warmC hW (h9 q hq)
  · exact va_Nw.warmD hW (h10 q hq)
  · exact va_Nc.moved hW.alike (h11 q hq)
  · exact vx_Zq.moved hW.alike (h12.kept hq)
  · exact vx_Zq.moved hW.alike (h13.kept hq)
  · exact va_Mi.moved hW.alike h14
theorem gs_ok.self {G : ho_G} {s U : State} {H : Heap} (h : gs_ok G s H) (hv : s.vm = U.vm) : gs_ok G U H := by
  obtain ⟨h1, h2, h3, h4, h5, h6, h7, h8, h9, h10, h11, h12, h13, h14, h15⟩ := h
  have ha : s.vm.Alike U.vm := by rw [hv]; exact Vm.Alike.refl _
  refine ⟨h1, va_K.moved ha h2, h3, fun t n f ht => ?_, fun i q hi => ?_, fun q hq => ?_, fun q hq => ?_, va_T.moved ha h8, fun q hq => ?_, fun q hq => ?_, fun q hq => ?_, vx_Zq.moved ha h12, vx_Zq.moved ha h13, va_Mi.moved ha h14, fun q hq => va_AO.moved ha (h15 q hq)⟩
  · exact va_T.moved ha (h4 t n f ht)
  · exact va_Z.moved ha (h5 i q hi)
  · exact va_Nw.same rfl hv (h6 q hq)
  · exact va_Nw.same rfl hv (h7 q hq)
  · exact va_Nw.same rfl hv (h9 q hq)
  · exact va_Nw.same rfl hv (h10 q hq)
  · exact va_Nc.moved ha (h11 q hq)
/-- locals by their places: all of one slot -/
def lo_has (ls : Array Slot) (nL : Nat) (lo : List (Option Value)) : Prop := ls.size = nL ∧ lv_wf ls ∧ ∀ (i : Nat) (v : Value), lo[i]? = some (some v) → v.category = 1 ∧ ls[i]? = some (.val v)
theorem lo_has.set {ls : Array Slot} {nL : Nat} {lo : List (Option Value)} (h : lo_has ls nL lo) {i : Nat} (hi : i < nL) {v : Value} (hc : v.category = 1) : ∃ ls', storeLocals ls i v = some ls' ∧ lo_has ls' nL (lo.set i (some v)) ∧ ∀ l : List (Nat × Value), lv_has ls nL l → lv_has ls' nL ((i, v) :: l.filter (fun q => !(q.1 == i) && !(q.1 + 1 == i && q.2.category == 2))) := by
  obtain ⟨h1, h2, h3⟩ := h
  obtain ⟨ls', e1, e2⟩ := lv_store1 (l := []) (v := v) ⟨h1, h2, fun q hq => by cases hq⟩ hi hc
  have key : ∀ l : List (Nat × Value), lv_has ls nL l → lv_has ls' nL ((i, v) :: l.filter (fun q => !(q.1 == i) && !(q.1 + 1 == i && q.2.category == 2))) := by
    intro l hl
    obtain ⟨ls2, g1, g2⟩ := lv_store1 (l := l) (v := v) hl hi hc
    cases e1.symm.trans g1
    exact g2
  refine ⟨ls', e1, ⟨e2.1, e2.2.1, fun j w hj => ?_⟩, key⟩
  by_cases hji : j = i
  · subst hji
    have hw : w = v := by
      rw [List.getElem?_set] at hj
      simp at hj
      exact hj.2.symm
    subst hw
    exact ⟨hc, e2.2.2 (j, w) List.mem_cons_self⟩
  · rw [List.getElem?_set_ne (Ne.symm hji)] at hj
    obtain ⟨g1, g2⟩ := h3 j w hj
    refine ⟨g1, ?_⟩
    have hl : lv_has ls nL [(j, w)] := ⟨h1, h2, fun q hq => by rw [List.mem_singleton.mp hq]; exact g2⟩
    refine (key _ hl).2.2 (j, w) ?_
    simp [hji, g1]
theorem lo_has.of {ls : Array Slot} {nL : Nat} {vs : List Value} (h : lv_has ls nL (lv_args 0 vs)) (hc : ∀ v ∈ vs, v.category = 1) : lo_has ls nL (vs.map some) := by
  have key : ∀ (vs : List Value) (k : Nat), (∀ v ∈ vs, v.category = 1) → ∀ (i : Nat) (v : Value), vs[i]? = some v → (k + i, v) ∈ lv_args k vs := by
    intro vs
    induction vs with
    | nil => intro k _ i v hv; simp at hv
    | cons w l ih =>
      intro k hc i v hv
      have hw : w.category = 1 := hc w List.mem_cons_self
      cases i with
      | zero =>
        simp at hv
        subst hv
        simp [lv_args]
      | succ i =>
        have := ih (k + 1) (fun v hv => hc v (List.mem_cons_of_mem _ hv)) i v (by simpa using hv)
        simp only [lv_args, hw]
        refine List.mem_cons_of_mem _ ?_
        rw [show k + (i + 1) = k + 1 + i by omega]
        simpa using this
  refine ⟨h.1, h.2.1, fun i v hv => ?_⟩
  rw [List.getElem?_map] at hv
  cases hi : vs[i]? with
  | none => rw [hi] at hv; cases hv
  | some w =>
    rw [hi] at hv
    have hwv : w = v := by simpa using hv
    subst hwv
    exact ⟨hc w (List.mem_of_getElem? hi), by have := h.2.2 _ (key vs 0 hc i w hi); simpa using this⟩
/-- a method under way: the machine's fixed parts; ghosts; the heap at its entry; the goal; its locals' number -/
abbrev mk_T := (Program × Launch × Env × Room × State × MethodId × Array Value × List Frame × Method × Code) × ho_G × ho_H × (State → Prop) × Nat
/-- the walk: from this heap, pc, locals and stack the goal is reached -/
def hv_V (k : mk_T) (σ : ho_H) (pc : Nat) (lo : List (Option Value)) (st : List Value) : Prop :=
  ∀ (H : Heap) (locs : List Loc) (ls : Array Slot), hs_R k.2.1 σ H → va_S (gW k.2.1) k.1.2.2.2.2.1.heap H locs → k.2.2.1.1 ≤ σ.1 → k.2.2.1.2.1 ≤ σ.2.1 → lo_has ls k.2.2.2.2 lo →
    W k.1.1 k.1.2.1 k.1.2.2.1 k.1.2.2.2.1 k.1.2.2.2.2.1 k.1.2.2.2.2.2.1 k.1.2.2.2.2.2.2.1 k.1.2.2.2.2.2.2.2.1 k.1.2.2.2.2.2.2.2.2.1 k.1.2.2.2.2.2.2.2.2.2 H locs (σ.1 - k.2.2.1.1) (σ.2.1 - k.2.2.1.2.1) k.2.2.2.1 (F0 k.1.2.2.2.2.2.1 pc ls st)
/-- what is known of the method under way: its code, class, words, frames and locals of room, return type -/
def hv_X (k : mk_T) (cc : ByteArray) (own : String) (nL fr lw : Nat) (ret : Option FieldType) (nm : String) : Prop :=
  k.1.1.tables.exec = Jvm.exec ∧ k.1.2.2.2.2.2.2.2.2.2.code = cc ∧ k.1.2.2.2.2.2.2.2.2.2.maxLocals = k.2.2.2.2 ∧ k.1.2.2.2.2.1.vm.findClass own = some k.1.2.2.2.2.2.1.cls ∧
  (∀ w ∈ hv_ws, w.before k.1.2.2.2.2.2.2.1 k.1.2.2.2.2.1 = true) ∧ gs_ok k.2.1 k.1.2.2.2.2.1 k.1.2.2.2.2.1.heap ∧ k.1.2.2.2.2.1.heap.size = k.2.2.1.1 ∧
  k.1.2.2.2.1.cells = gC k.2.1 - k.2.2.1.1 ∧ k.1.2.2.2.1.slots = gS k.2.1 - k.2.2.1.2.1 ∧ fr ≤ k.1.2.2.2.1.frames ∧ lw ≤ k.1.2.2.2.1.locals ∧
  k.1.2.2.2.2.2.2.2.2.1.sig.returnType = ret ∧ k.1.2.2.2.2.2.2.2.2.1.locks = false ∧ k.2.2.2.2 = nL ∧ k.1.2.2.2.2.2.2.2.2.1.name = nm
def ho_sl (x y : Int32) : Int32 := x <<< (y &&& 31)
def ho_sr (x y : Int32) : Int32 := x >>> (y &&& 31)
def ho_ur (x y : Int32) : Int32 := (x.toUInt32 >>> (y.toUInt32 &&& Int32.toUInt32 31)).toInt32
def ho_rm (x y : Int32) : Int32 := x - x / y * y
section HV
variable {k : mk_T} {cc : ByteArray} {own : String} {nL fr lw : Nat} {ret : Option FieldType} {nm : String} {σ : ho_H} {pc pn : Nat} {lo lo' : List (Option Value)} {st : List Value}
theorem hv_iconst (X : hv_X k cc own nL fr lw ret nm) {n : Int} {v : Int32} (d : decode cc pc = .ok (.iconst n, 1)) (kk : hv_V k σ pn lo (.int v :: st)) (hv : Int32.ofInt n = v := by decide) (hp : pn = pc + 1 := by rfl) : hv_V k σ pc lo st := by
  subst hp
  intro H locs ls hR hS g1 g2 hl
  exact lv_iconst X.1 X.2.1 d hv (kk H locs ls hR hS g1 g2 hl)
theorem hv_bipush (X : hv_X k cc own nL fr lw ret nm) {n : Int} {v : Int32} (d : decode cc pc = .ok (.bipush n, 2)) (kk : hv_V k σ pn lo (.int v :: st)) (hv : (Int8.ofInt n).toInt32 = v := by decide) (hp : pn = pc + 2 := by rfl) : hv_V k σ pc lo st := by
  subst hp
  intro H locs ls hR hS g1 g2 hl
  exact lv_bipush X.1 X.2.1 d hv (kk H locs ls hR hS g1 g2 hl)
theorem hv_sipush (X : hv_X k cc own nL fr lw ret nm) {n : Int} {v : Int32} (d : decode cc pc = .ok (.sipush n, 3)) (kk : hv_V k σ pn lo (.int v :: st)) (hv : (Int16.ofInt n).toInt32 = v := by decide) (hp : pn = pc + 3 := by rfl) : hv_V k σ pc lo st := by
  subst hp
  intro H locs ls hR hS g1 g2 hl
  exact lv_sipush X.1 X.2.1 d hv (kk H locs ls hR hS g1 g2 hl)
theorem hv_iload_n (X : hv_X k cc own nL fr lw ret nm) {n : Fin 4} {i : Nat} {x : Int32} (d : decode cc pc = .ok (.iload_n n, 1)) (kk : hv_V k σ pn lo (.int x :: st)) (hi : (n : Nat) = i := by rfl) (hx : lo[i]? = some (some (.int x)) := by rfl) (hp : pn = pc + 1 := by rfl) : hv_V k σ pc lo st := by
  subst hp
  intro H locs ls hR hS g1 g2 hl
  exact lv_iload_n X.1 X.2.1 d hi (hl.2.2 i _ hx).2 (kk H locs ls hR hS g1 g2 hl)
theorem hv_iload (X : hv_X k cc own nL fr lw ret nm) {i : Nat} {x : Int32} (d : decode cc pc = .ok (.iload i, 2)) (kk : hv_V k σ pn lo (.int x :: st)) (hx : lo[i]? = some (some (.int x)) := by rfl) (hp : pn = pc + 2 := by rfl) : hv_V k σ pc lo st := by
  subst hp
  intro H locs ls hR hS g1 g2 hl
  exact lv_iload X.1 X.2.1 d (hl.2.2 i _ hx).2 (kk H locs ls hR hS g1 g2 hl)
theorem hv_aload_n (X : hv_X k cc own nL fr lw ret nm) {n : Fin 4} {i : Nat} {x : Nat} (d : decode cc pc = .ok (.aload_n n, 1)) (kk : hv_V k σ pn lo (.ref x :: st)) (hi : (n : Nat) = i := by rfl) (hx : lo[i]? = some (some (.ref x)) := by rfl) (hp : pn = pc + 1 := by rfl) : hv_V k σ pc lo st := by
  subst hp
  intro H locs ls hR hS g1 g2 hl
  exact lv_aload_n X.1 X.2.1 d hi (hl.2.2 i _ hx).2 (kk H locs ls hR hS g1 g2 hl)
theorem hv_aload (X : hv_X k cc own nL fr lw ret nm) {i : Nat} {x : Nat} (d : decode cc pc = .ok (.aload i, 2)) (kk : hv_V k σ pn lo (.ref x :: st)) (hx : lo[i]? = some (some (.ref x)) := by rfl) (hp : pn = pc + 2 := by rfl) : hv_V k σ pc lo st := by
  subst hp
  intro H locs ls hR hS g1 g2 hl
  exact lv_aload X.1 X.2.1 d (hl.2.2 i _ hx).2 (kk H locs ls hR hS g1 g2 hl)
theorem lo_all {ls : Array Slot} {nL : Nat} {lo : List (Option Value)} (h : lo_has ls nL lo) : lv_has ls nL ((List.range lo.length).filterMap fun i => (lo[i]?.join).map fun v => (i, v)) := by
  refine ⟨h.1, h.2.1, fun q hq => ?_⟩
  obtain ⟨i, -, hi⟩ := List.mem_filterMap.mp hq
  cases hv : lo[i]? with
  | none => rw [hv] at hi; cases hi
  | some o =>
    cases o with
    | none => rw [hv] at hi; cases hi
    | some v =>
      rw [hv] at hi
      simp at hi
      subst hi
      exact (h.2.2 i v hv).2
theorem lo_from {ls : Array Slot} {nL : Nat} {lo : List (Option Value)} {i : Nat} {v : Value} {l : List (Nat × Value)} (hc : v.category = 1) (hlo : ∀ (j : Nat) (w : Value), lo[j]? = some (some w) → w.category = 1) (h : lv_has ls nL ((i, v) :: ((List.range lo.length).filterMap fun i => (lo[i]?.join).map fun v => (i, v)).filter (fun q => !(q.1 == i) && !(q.1 + 1 == i && q.2.category == 2)))) : lo_has ls nL (lo.set i (some v)) := by
  refine ⟨h.1, h.2.1, fun j w hj => ?_⟩
  by_cases hji : j = i
  · subst hji
    have hw : w = v := by
      rw [List.getElem?_set] at hj
      simp at hj
      exact hj.2.symm
    subst hw
    exact ⟨hc, h.2.2 (j, w) List.mem_cons_self⟩
  · rw [List.getElem?_set_ne (Ne.symm hji)] at hj
    have hw := hlo j w hj
    refine ⟨hw, h.2.2 (j, w) (List.mem_cons_of_mem _ (List.mem_filter.mpr ⟨List.mem_filterMap.mpr ⟨j, List.mem_range.mpr (List.getElem?_eq_some_iff.mp hj).1, by rw [hj]; rfl⟩, ?_⟩))⟩
    simp [hji, hw]
theorem hv_istore_n (X : hv_X k cc own nL fr lw ret nm) {n : Fin 4} {i : Nat} {x : Int32} (d : decode cc pc = .ok (.istore_n n, 1)) (kk : hv_V k σ pn lo' st) (hi : (n : Nat) = i := by rfl) (hn : i < nL := by decide) (hx : lo.set i (some (.int x)) = lo' := by rfl) (hp : pn = pc + 1 := by rfl) : hv_V k σ pc lo (.int x :: st) := by
  subst hp
  subst hx
  intro H locs ls hR hS g1 g2 hl
  exact lv_istore_n X.1 X.2.1 d hi (lo_all hl) (by rw [X.2.2.2.2.2.2.2.2.2.2.2.2.2.1]; exact hn) rfl (fun ls' h' => kk H locs ls' hR hS g1 g2 (lo_from (l := []) rfl (fun j w h => (hl.2.2 j w h).1) h'))
theorem hv_istore (X : hv_X k cc own nL fr lw ret nm) {i : Nat} {x : Int32} (d : decode cc pc = .ok (.istore i, 2)) (kk : hv_V k σ pn lo' st) (hn : i < nL := by decide) (hx : lo.set i (some (.int x)) = lo' := by rfl) (hp : pn = pc + 2 := by rfl) : hv_V k σ pc lo (.int x :: st) := by
  subst hp
  subst hx
  intro H locs ls hR hS g1 g2 hl
  exact lv_istore X.1 X.2.1 d (lo_all hl) (by rw [X.2.2.2.2.2.2.2.2.2.2.2.2.2.1]; exact hn) rfl (fun ls' h' => kk H locs ls' hR hS g1 g2 (lo_from (l := []) rfl (fun j w h => (hl.2.2 j w h).1) h'))
theorem hv_astore_n (X : hv_X k cc own nL fr lw ret nm) {n : Fin 4} {i : Nat} {x : Nat} (d : decode cc pc = .ok (.astore_n n, 1)) (kk : hv_V k σ pn lo' st) (hi : (n : Nat) = i := by rfl) (hn : i < nL := by decide) (hx : lo.set i (some (.ref x)) = lo' := by rfl) (hp : pn = pc + 1 := by rfl) : hv_V k σ pc lo (.ref x :: st) := by
  subst hp
  subst hx
  intro H locs ls hR hS g1 g2 hl
  exact lv_astore_n X.1 X.2.1 d hi (lo_all hl) (by rw [X.2.2.2.2.2.2.2.2.2.2.2.2.2.1]; exact hn) rfl (fun ls' h' => kk H locs ls' hR hS g1 g2 (lo_from (l := []) rfl (fun j w h => (hl.2.2 j w h).1) h'))
theorem hv_astore (X : hv_X k cc own nL fr lw ret nm) {i : Nat} {x : Nat} (d : decode cc pc = .ok (.astore i, 2)) (kk : hv_V k σ pn lo' st) (hn : i < nL := by decide) (hx : lo.set i (some (.ref x)) = lo' := by rfl) (hp : pn = pc + 2 := by rfl) : hv_V k σ pc lo (.ref x :: st) := by
  subst hp
  subst hx
  intro H locs ls hR hS g1 g2 hl
  exact lv_astore X.1 X.2.1 d (lo_all hl) (by rw [X.2.2.2.2.2.2.2.2.2.2.2.2.2.1]; exact hn) rfl (fun ls' h' => kk H locs ls' hR hS g1 g2 (lo_from (l := []) rfl (fun j w h => (hl.2.2 j w h).1) h'))
theorem hv_drop {i : Nat} (kk : hv_V k σ pc lo' st) (hx : lo.set i none = lo' := by rfl) : hv_V k σ pc lo st := by
  subst hx
  intro H locs ls hR hS g1 g2 hl
  refine kk H locs ls hR hS g1 g2 ⟨hl.1, hl.2.1, fun j w hj => ?_⟩
  by_cases hji : j = i
  · subst hji
    rw [List.getElem?_set] at hj
    simp at hj
  · rw [List.getElem?_set_ne (Ne.symm hji)] at hj
    exact hl.2.2 j w hj
theorem hv_iinc (X : hv_X k cc own nL fr lw ret nm) {i : Nat} {n : Int} {x v : Int32} (d : decode cc pc = .ok (.iinc i n, 3)) (kk : hv_V k σ pn lo' st) (hn : i < nL := by decide) (hx : lo[i]? = some (some (.int x)) := by rfl) (hv : x + Int32.ofInt n = v := by rfl) (hs : lo.set i (some (.int v)) = lo' := by rfl) (hp : pn = pc + 3 := by rfl) : hv_V k σ pc lo st := by
  subst hp
  subst hs
  intro H locs ls hR hS g1 g2 hl
  have hall := lo_all hl
  refine lv_iinc (k := 0) (lv := (i, .int x) :: ((List.range lo.length).filterMap fun i => (lo[i]?.join).map fun v => (i, v))) X.1 X.2.1 d ⟨hall.1, hall.2.1, fun q hq => ?_⟩ rfl hv (by rw [X.2.2.2.2.2.2.2.2.2.2.2.2.2.1]; exact hn) rfl (fun ls' h' => kk H locs ls' hR hS g1 g2 (lo_from (l := []) rfl (fun j w h => (hl.2.2 j w h).1) ⟨h'.1, h'.2.1, fun q hq => h'.2.2 q ?_⟩))
  · rcases List.mem_cons.mp hq with rfl | hq
    · exact (hl.2.2 i _ hx).2
    · exact hall.2.2 q hq
  · rcases List.mem_cons.mp hq with rfl | hq
    · exact List.mem_cons_self
    · refine List.mem_cons_of_mem _ ?_
      rw [List.filter_cons]
      simp only [beq_self_eq_true, Bool.not_true, Bool.false_and]
      exact hq
theorem hv_iadd (X : hv_X k cc own nL fr lw ret nm) {x y : Int32} (d : decode cc pc = .ok (.iadd, 1))  (kk : hv_V k σ pn lo (.int (x + y) :: st)) (hp : pn = pc + 1 := by rfl) : hv_V k σ pc lo (.int y :: .int x :: st) := by
  subst hp
  intro H locs ls hR hS g1 g2 hl
  exact lv_iadd X.1 X.2.1 d  (kk H locs ls hR hS g1 g2 hl)
theorem hv_isub (X : hv_X k cc own nL fr lw ret nm) {x y : Int32} (d : decode cc pc = .ok (.isub, 1))  (kk : hv_V k σ pn lo (.int (x - y) :: st)) (hp : pn = pc + 1 := by rfl) : hv_V k σ pc lo (.int y :: .int x :: st) := by
  subst hp
  intro H locs ls hR hS g1 g2 hl
  exact lv_isub X.1 X.2.1 d  (kk H locs ls hR hS g1 g2 hl)
theorem hv_imul (X : hv_X k cc own nL fr lw ret nm) {x y : Int32} (d : decode cc pc = .ok (.imul, 1))  (kk : hv_V k σ pn lo (.int (x * y) :: st)) (hp : pn = pc + 1 := by rfl) : hv_V k σ pc lo (.int y :: .int x :: st) := by
  subst hp
  intro H locs ls hR hS g1 g2 hl
  exact lv_imul X.1 X.2.1 d  (kk H locs ls hR hS g1 g2 hl)
theorem hv_iand (X : hv_X k cc own nL fr lw ret nm) {x y : Int32} (d : decode cc pc = .ok (.iand, 1))  (kk : hv_V k σ pn lo (.int (x &&& y) :: st)) (hp : pn = pc + 1 := by rfl) : hv_V k σ pc lo (.int y :: .int x :: st) := by
  subst hp
  intro H locs ls hR hS g1 g2 hl
  exact lv_iand X.1 X.2.1 d  (kk H locs ls hR hS g1 g2 hl)
theorem hv_ior (X : hv_X k cc own nL fr lw ret nm) {x y : Int32} (d : decode cc pc = .ok (.ior, 1))  (kk : hv_V k σ pn lo (.int (x ||| y) :: st)) (hp : pn = pc + 1 := by rfl) : hv_V k σ pc lo (.int y :: .int x :: st) := by
  subst hp
  intro H locs ls hR hS g1 g2 hl
  exact lv_ior X.1 X.2.1 d  (kk H locs ls hR hS g1 g2 hl)
theorem hv_ixor (X : hv_X k cc own nL fr lw ret nm) {x y : Int32} (d : decode cc pc = .ok (.ixor, 1))  (kk : hv_V k σ pn lo (.int (x ^^^ y) :: st)) (hp : pn = pc + 1 := by rfl) : hv_V k σ pc lo (.int y :: .int x :: st) := by
  subst hp
  intro H locs ls hR hS g1 g2 hl
  exact lv_ixor X.1 X.2.1 d  (kk H locs ls hR hS g1 g2 hl)
theorem hv_ishl (X : hv_X k cc own nL fr lw ret nm) {x y : Int32} (d : decode cc pc = .ok (.ishl, 1))  (kk : hv_V k σ pn lo (.int (ho_sl x y) :: st)) (hp : pn = pc + 1 := by rfl) : hv_V k σ pc lo (.int y :: .int x :: st) := by
  subst hp
  intro H locs ls hR hS g1 g2 hl
  exact lv_ishl X.1 X.2.1 d  (kk H locs ls hR hS g1 g2 hl)
theorem hv_ishr (X : hv_X k cc own nL fr lw ret nm) {x y : Int32} (d : decode cc pc = .ok (.ishr, 1))  (kk : hv_V k σ pn lo (.int (ho_sr x y) :: st)) (hp : pn = pc + 1 := by rfl) : hv_V k σ pc lo (.int y :: .int x :: st) := by
  subst hp
  intro H locs ls hR hS g1 g2 hl
  exact lv_ishr X.1 X.2.1 d  (kk H locs ls hR hS g1 g2 hl)
theorem hv_idiv (X : hv_X k cc own nL fr lw ret nm) {x y : Int32} (d : decode cc pc = .ok (.idiv, 1)) (hne : ¬ y = 0) (kk : hv_V k σ pn lo (.int (x / y) :: st)) (hp : pn = pc + 1 := by rfl) : hv_V k σ pc lo (.int y :: .int x :: st) := by
  subst hp
  intro H locs ls hR hS g1 g2 hl
  exact lv_idiv X.1 X.2.1 d hne (kk H locs ls hR hS g1 g2 hl)
theorem hv_irem (X : hv_X k cc own nL fr lw ret nm) {x y : Int32} (d : decode cc pc = .ok (.irem, 1)) (hne : ¬ y = 0) (kk : hv_V k σ pn lo (.int (ho_rm x y) :: st)) (hp : pn = pc + 1 := by rfl) : hv_V k σ pc lo (.int y :: .int x :: st) := by
  subst hp
  intro H locs ls hR hS g1 g2 hl
  exact lv_irem X.1 X.2.1 d hne (kk H locs ls hR hS g1 g2 hl)
theorem hv_ineg (X : hv_X k cc own nL fr lw ret nm) {x : Int32} (d : decode cc pc = .ok (.ineg, 1))  (kk : hv_V k σ pn lo (.int (-x) :: st)) (hp : pn = pc + 1 := by rfl) : hv_V k σ pc lo (.int x :: st) := by
  subst hp
  intro H locs ls hR hS g1 g2 hl
  exact lv_ineg X.1 X.2.1 d  (kk H locs ls hR hS g1 g2 hl)
theorem hv_iushr (X : hv_X k cc own nL fr lw ret nm) {x y : Int32} (d : decode cc pc = .ok (.iushr, 1))  (kk : hv_V k σ pn lo (.int (ho_ur x y) :: st)) (hp : pn = pc + 1 := by rfl) : hv_V k σ pc lo (.int y :: .int x :: st) := by
  subst hp
  intro H locs ls hR hS g1 g2 hl
  exact lv_iushr X.1 X.2.1 d rfl (kk H locs ls hR hS g1 g2 hl)
theorem hv_i2l (X : hv_X k cc own nL fr lw ret nm) {x : Int32} (d : decode cc pc = .ok (.i2l, 1))  (kk : hv_V k σ pn lo (.long x.toInt64 :: st)) (hp : pn = pc + 1 := by rfl) : hv_V k σ pc lo (.int x :: st) := by
  subst hp
  intro H locs ls hR hS g1 g2 hl
  exact lv_i2l X.1 X.2.1 d rfl (kk H locs ls hR hS g1 g2 hl)
theorem hv_dup (X : hv_X k cc own nL fr lw ret nm) {v : Value} (d : decode cc pc = .ok (.dup, 1)) (hv : v.category = 1) (kk : hv_V k σ pn lo (v :: v :: st)) (hp : pn = pc + 1 := by rfl) : hv_V k σ pc lo (v :: st) := by
  subst hp
  intro H locs ls hR hS g1 g2 hl
  exact lv_dup X.1 X.2.1 d hv (kk H locs ls hR hS g1 g2 hl)
theorem hv_pop (X : hv_X k cc own nL fr lw ret nm) {v : Value} (d : decode cc pc = .ok (.pop, 1)) (hv : v.category = 1) (kk : hv_V k σ pn lo (st)) (hp : pn = pc + 1 := by rfl) : hv_V k σ pc lo (v :: st) := by
  subst hp
  intro H locs ls hR hS g1 g2 hl
  exact lv_pop X.1 X.2.1 d hv (kk H locs ls hR hS g1 g2 hl)
theorem hv_dup_x1 (X : hv_X k cc own nL fr lw ret nm) {v w : Value} (d : decode cc pc = .ok (.dup_x1, 1)) (hv : v.category = 1) (hw : w.category = 1) (kk : hv_V k σ pn lo (v :: w :: v :: st)) (hp : pn = pc + 1 := by rfl) : hv_V k σ pc lo (v :: w :: st) := by
  subst hp
  intro H locs ls hR hS g1 g2 hl
  exact lv_dup_x1 X.1 X.2.1 d hv hw (kk H locs ls hR hS g1 g2 hl)
theorem hv_dup_x2 (X : hv_X k cc own nL fr lw ret nm) {v w u : Value} (d : decode cc pc = .ok (.dup_x2, 1)) (hv : v.category = 1) (hw : w.category = 1) (hu : u.category = 1) (kk : hv_V k σ pn lo (v :: w :: u :: v :: st)) (hp : pn = pc + 1 := by rfl) : hv_V k σ pc lo (v :: w :: u :: st) := by
  subst hp
  intro H locs ls hR hS g1 g2 hl
  exact lv_dup_x2 X.1 X.2.1 d hv hw hu (kk H locs ls hR hS g1 g2 hl)
theorem hv_dup2 (X : hv_X k cc own nL fr lw ret nm) {v w : Value} (d : decode cc pc = .ok (.dup2, 1)) (hv : v.category = 1) (hw : w.category = 1) (kk : hv_V k σ pn lo (v :: w :: v :: w :: st)) (hp : pn = pc + 1 := by rfl) : hv_V k σ pc lo (v :: w :: st) := by
  subst hp
  intro H locs ls hR hS g1 g2 hl
  exact lv_dup2_11 X.1 X.2.1 d hv hw (kk H locs ls hR hS g1 g2 hl)
theorem hv_null (X : hv_X k cc own nL fr lw ret nm)  (d : decode cc pc = .ok (.aconst_null, 1))  (kk : hv_V k σ pn lo (.null :: st)) (hp : pn = pc + 1 := by rfl) : hv_V k σ pc lo (st) := by
  subst hp
  intro H locs ls hR hS g1 g2 hl
  exact lv_null X.1 X.2.1 d  (kk H locs ls hR hS g1 g2 hl)
theorem hv_if_eq (X : hv_X k cc own nL fr lw ret nm) {x : Int32} {off : Int} {tgt : Nat} (d : decode cc pc = .ok (.ifCond .eq off, 3)) (ht : (pc : Int) + off = (tgt : Int)) (kt : (x = 0) → hv_V k σ tgt lo st) (kf : ¬ (x = 0) → hv_V k σ pn lo st) (hp : pn = pc + 3 := by rfl) : hv_V k σ pc lo (.int x :: st) := by
  subst hp
  intro H locs ls hR hS g1 g2 hl
  exact lv_if_eq X.1 X.2.1 d ht (fun h => kt h H locs ls hR hS g1 g2 hl) (fun h => kf h H locs ls hR hS g1 g2 hl)
theorem hv_icmp_eq (X : hv_X k cc own nL fr lw ret nm) {x y : Int32} {off : Int} {tgt : Nat} (d : decode cc pc = .ok (.if_icmp .eq off, 3)) (ht : (pc : Int) + off = (tgt : Int)) (kt : (x = y) → hv_V k σ tgt lo st) (kf : ¬ (x = y) → hv_V k σ pn lo st) (hp : pn = pc + 3 := by rfl) : hv_V k σ pc lo (.int y :: .int x :: st) := by
  subst hp
  intro H locs ls hR hS g1 g2 hl
  exact lv_icmp_eq X.1 X.2.1 d ht (fun h => kt h H locs ls hR hS g1 g2 hl) (fun h => kf h H locs ls hR hS g1 g2 hl)
theorem hv_if_ne (X : hv_X k cc own nL fr lw ret nm) {x : Int32} {off : Int} {tgt : Nat} (d : decode cc pc = .ok (.ifCond .ne off, 3)) (ht : (pc : Int) + off = (tgt : Int)) (kt : (¬ x = 0) → hv_V k σ tgt lo st) (kf : ¬ (¬ x = 0) → hv_V k σ pn lo st) (hp : pn = pc + 3 := by rfl) : hv_V k σ pc lo (.int x :: st) := by
  subst hp
  intro H locs ls hR hS g1 g2 hl
  exact lv_if_ne X.1 X.2.1 d ht (fun h => kt h H locs ls hR hS g1 g2 hl) (fun h => kf (fun q => q h) H locs ls hR hS g1 g2 hl)
theorem hv_icmp_ne (X : hv_X k cc own nL fr lw ret nm) {x y : Int32} {off : Int} {tgt : Nat} (d : decode cc pc = .ok (.if_icmp .ne off, 3)) (ht : (pc : Int) + off = (tgt : Int)) (kt : (¬ x = y) → hv_V k σ tgt lo st) (kf : ¬ (¬ x = y) → hv_V k σ pn lo st) (hp : pn = pc + 3 := by rfl) : hv_V k σ pc lo (.int y :: .int x :: st) := by
  subst hp
  intro H locs ls hR hS g1 g2 hl
  exact lv_icmp_ne X.1 X.2.1 d ht (fun h => kt h H locs ls hR hS g1 g2 hl) (fun h => kf (fun q => q h) H locs ls hR hS g1 g2 hl)
theorem hv_if_lt (X : hv_X k cc own nL fr lw ret nm) {x : Int32} {off : Int} {tgt : Nat} (d : decode cc pc = .ok (.ifCond .lt off, 3)) (ht : (pc : Int) + off = (tgt : Int)) (kt : (x < 0) → hv_V k σ tgt lo st) (kf : ¬ (x < 0) → hv_V k σ pn lo st) (hp : pn = pc + 3 := by rfl) : hv_V k σ pc lo (.int x :: st) := by
  subst hp
  intro H locs ls hR hS g1 g2 hl
  exact lv_if_lt X.1 X.2.1 d ht (fun h => kt h H locs ls hR hS g1 g2 hl) (fun h => kf h H locs ls hR hS g1 g2 hl)
theorem hv_icmp_lt (X : hv_X k cc own nL fr lw ret nm) {x y : Int32} {off : Int} {tgt : Nat} (d : decode cc pc = .ok (.if_icmp .lt off, 3)) (ht : (pc : Int) + off = (tgt : Int)) (kt : (x < y) → hv_V k σ tgt lo st) (kf : ¬ (x < y) → hv_V k σ pn lo st) (hp : pn = pc + 3 := by rfl) : hv_V k σ pc lo (.int y :: .int x :: st) := by
  subst hp
  intro H locs ls hR hS g1 g2 hl
  exact lv_icmp_lt X.1 X.2.1 d ht (fun h => kt h H locs ls hR hS g1 g2 hl) (fun h => kf h H locs ls hR hS g1 g2 hl)
theorem hv_if_ge (X : hv_X k cc own nL fr lw ret nm) {x : Int32} {off : Int} {tgt : Nat} (d : decode cc pc = .ok (.ifCond .ge off, 3)) (ht : (pc : Int) + off = (tgt : Int)) (kt : (0 ≤ x) → hv_V k σ tgt lo st) (kf : ¬ (0 ≤ x) → hv_V k σ pn lo st) (hp : pn = pc + 3 := by rfl) : hv_V k σ pc lo (.int x :: st) := by
  subst hp
  intro H locs ls hR hS g1 g2 hl
  exact lv_if_ge X.1 X.2.1 d ht (fun h => kt h H locs ls hR hS g1 g2 hl) (fun h => kf h H locs ls hR hS g1 g2 hl)
theorem hv_icmp_ge (X : hv_X k cc own nL fr lw ret nm) {x y : Int32} {off : Int} {tgt : Nat} (d : decode cc pc = .ok (.if_icmp .ge off, 3)) (ht : (pc : Int) + off = (tgt : Int)) (kt : (y ≤ x) → hv_V k σ tgt lo st) (kf : ¬ (y ≤ x) → hv_V k σ pn lo st) (hp : pn = pc + 3 := by rfl) : hv_V k σ pc lo (.int y :: .int x :: st) := by
  subst hp
  intro H locs ls hR hS g1 g2 hl
  exact lv_icmp_ge X.1 X.2.1 d ht (fun h => kt h H locs ls hR hS g1 g2 hl) (fun h => kf h H locs ls hR hS g1 g2 hl)
theorem hv_if_gt (X : hv_X k cc own nL fr lw ret nm) {x : Int32} {off : Int} {tgt : Nat} (d : decode cc pc = .ok (.ifCond .gt off, 3)) (ht : (pc : Int) + off = (tgt : Int)) (kt : (0 < x) → hv_V k σ tgt lo st) (kf : ¬ (0 < x) → hv_V k σ pn lo st) (hp : pn = pc + 3 := by rfl) : hv_V k σ pc lo (.int x :: st) := by
  subst hp
  intro H locs ls hR hS g1 g2 hl
  exact lv_if_gt X.1 X.2.1 d ht (fun h => kt h H locs ls hR hS g1 g2 hl) (fun h => kf h H locs ls hR hS g1 g2 hl)
theorem hv_icmp_gt (X : hv_X k cc own nL fr lw ret nm) {x y : Int32} {off : Int} {tgt : Nat} (d : decode cc pc = .ok (.if_icmp .gt off, 3)) (ht : (pc : Int) + off = (tgt : Int)) (kt : (y < x) → hv_V k σ tgt lo st) (kf : ¬ (y < x) → hv_V k σ pn lo st) (hp : pn = pc + 3 := by rfl) : hv_V k σ pc lo (.int y :: .int x :: st) := by
  subst hp
  intro H locs ls hR hS g1 g2 hl
  exact lv_icmp_gt X.1 X.2.1 d ht (fun h => kt h H locs ls hR hS g1 g2 hl) (fun h => kf h H locs ls hR hS g1 g2 hl)
theorem hv_if_le (X : hv_X k cc own nL fr lw ret nm) {x : Int32} {off : Int} {tgt : Nat} (d : decode cc pc = .ok (.ifCond .le off, 3)) (ht : (pc : Int) + off = (tgt : Int)) (kt : (x ≤ 0) → hv_V k σ tgt lo st) (kf : ¬ (x ≤ 0) → hv_V k σ pn lo st) (hp : pn = pc + 3 := by rfl) : hv_V k σ pc lo (.int x :: st) := by
  subst hp
  intro H locs ls hR hS g1 g2 hl
  exact lv_if_le X.1 X.2.1 d ht (fun h => kt h H locs ls hR hS g1 g2 hl) (fun h => kf h H locs ls hR hS g1 g2 hl)
theorem hv_icmp_le (X : hv_X k cc own nL fr lw ret nm) {x y : Int32} {off : Int} {tgt : Nat} (d : decode cc pc = .ok (.if_icmp .le off, 3)) (ht : (pc : Int) + off = (tgt : Int)) (kt : (x ≤ y) → hv_V k σ tgt lo st) (kf : ¬ (x ≤ y) → hv_V k σ pn lo st) (hp : pn = pc + 3 := by rfl) : hv_V k σ pc lo (.int y :: .int x :: st) := by
  subst hp
  intro H locs ls hR hS g1 g2 hl
  exact lv_icmp_le X.1 X.2.1 d ht (fun h => kt h H locs ls hR hS g1 g2 hl) (fun h => kf h H locs ls hR hS g1 g2 hl)
theorem hv_goto (X : hv_X k cc own nL fr lw ret nm) {off : Int} {tgt : Nat} (d : decode cc pc = .ok (.goto off, 3)) (ht : (pc : Int) + off = (tgt : Int)) (kk : hv_V k σ tgt lo st) : hv_V k σ pc lo st := by
  intro H locs ls hR hS g1 g2 hl
  exact lv_goto X.1 X.2.1 d ht (kk H locs ls hR hS g1 g2 hl)
end HV
/-! the operations of the heap, as functions -/
def ho_set (σ : ho_H) (a : Nat) (e : va_E) : ho_H := (σ.1, σ.2.1, fun q => if q = a then some e else σ.2.2 q)
def ho_f (σ : ho_H) (a ci : Nat) : Option (List Value) := match σ.2.2 a with
  | some (.inr (c, fs)) => if c = ci then some fs else none
  | _ => none
def ho_vI (v : Option Value) : Option Int32 := match v with
  | some (.int x) => some x
  | _ => none
def ho_vR (v : Option Value) : Option Nat := match v with
  | some (.ref x) => some x
  | _ => none
def ho_gI (σ : ho_H) (a ci j : Nat) : Option Int32 := (ho_f σ a ci).bind fun fs => ho_vI fs[j]?
def ho_gR (σ : ho_H) (a ci j : Nat) : Option Nat := (ho_f σ a ci).bind fun fs => ho_vR fs[j]?
def ho_p (σ : ho_H) (a ci j : Nat) (v : Value) : Option ho_H := (ho_f σ a ci).bind fun fs => if j < fs.length then some (ho_set σ a (.inr (ci, fs.set j v))) else none
def ho_ix (i : Int32) (n : Nat) : Option Nat := if i < 0 ∨ n ≤ i.toNatClampNeg then none else some i.toNatClampNeg
/-- arrays of ints (kind 0) and of booleans (kind 1) -/
def ho_aI (G : ho_G) (σ : ho_H) (a kd : Nat) : Option (Nat × (Nat → Int32)) := match σ.2.2 a with
  | some (.inl (c, n, .inl f)) => if c = gc G kd then some (n, f) else none
  | _ => none
def ho_aL (G : ho_G) (σ : ho_H) (a kd : Nat) : Option (Nat × (Nat → Int64)) := match σ.2.2 a with
  | some (.inl (c, n, .inr (.inl f))) => if c = gc G kd then some (n, f) else none
  | _ => none
def ho_aR (G : ho_G) (σ : ho_H) (a kd : Nat) : Option (Nat × (Nat → Option Nat)) := match σ.2.2 a with
  | some (.inl (c, n, .inr (.inr (.inr (.inr f))))) => if c = gc G kd then some (n, f) else none
  | _ => none
/-- ints to read: an array of the heap, or a table -/
def ho_rI (G : ho_G) (σ : ho_H) (a : Nat) : Option (Nat × (Nat → Int32)) := match σ.2.2 a with
  | some (.inl (c, n, .inl f)) => if c = gc G 0 then some (n, f) else none
  | some _ => none
  | none => gR G a
def ho_ldI (G : ho_G) (σ : ho_H) (a : Nat) (i : Int32) : Option Int32 := (ho_rI G σ a).bind fun q => (ho_ix i q.1).map q.2
def ho_ldZ (G : ho_G) (σ : ho_H) (a : Nat) (i : Int32) : Option Int32 := (ho_aI G σ a 1).bind fun q => (ho_ix i q.1).map q.2
def ho_ldL (G : ho_G) (σ : ho_H) (a kd : Nat) (i : Int32) : Option Int64 := (ho_aL G σ a kd).bind fun q => (ho_ix i q.1).map q.2
def ho_ldR (G : ho_G) (σ : ho_H) (a kd : Nat) (i : Int32) : Option Nat := (ho_aR G σ a kd).bind fun q => (ho_ix i q.1).bind q.2
def ho_stI (G : ho_G) (σ : ho_H) (a : Nat) (i x : Int32) : Option ho_H := (ho_aI G σ a 0).bind fun q => (ho_ix i q.1).map fun j => ho_set σ a (.inl (gc G 0, q.1, .inl (upd q.2 j x)))
def ho_stZ (G : ho_G) (σ : ho_H) (a : Nat) (i x : Int32) : Option ho_H := (ho_aI G σ a 1).bind fun q => (ho_ix i q.1).map fun j => ho_set σ a (.inl (gc G 1, q.1, .inl (upd q.2 j (vp_nar .boolean x))))
def ho_stL (G : ho_G) (σ : ho_H) (a kd : Nat) (i : Int32) (x : Int64) : Option ho_H := (ho_aL G σ a kd).bind fun q => (ho_ix i q.1).map fun j => ho_set σ a (.inl (gc G kd, q.1, .inr (.inl (vp_updL q.2 j x))))
def ho_stR (G : ho_G) (σ : ho_H) (a kd : Nat) (i : Int32) (x : Option Nat) : Option ho_H := (ho_aR G σ a kd).bind fun q => (ho_ix i q.1).map fun j => ho_set σ a (.inl (gc G kd, q.1, .inr (.inr (.inr (.inr (va_up q.2 j x))))))
def ho_lnI (G : ho_G) (σ : ho_H) (a : Nat) : Option Int32 := (ho_rI G σ a).map fun q => Int32.ofNat q.1
def ho_lnR (G : ho_G) (σ : ho_H) (a kd : Nat) : Option Int32 := (ho_aR G σ a kd).map fun q => Int32.ofNat q.1
def ho_al (G : ho_G) (σ : ho_H) (N : Nat) (e : va_E) : Option (ho_H × Nat) := if σ.1 + 1 ≤ gC G ∧ σ.2.1 + N ≤ gS G then some ((σ.1 + 1, σ.2.1 + N, fun q => if q = σ.1 then some e else σ.2.2 q), σ.1) else none
def ho_n (n : Int32) : Option Nat := if n < 0 ∨ 60000000 < n.toNatClampNeg then none else some n.toNatClampNeg
def ho_nwI (G : ho_G) (σ : ho_H) (n : Int32) : Option (ho_H × Nat) := (ho_n n).bind fun N => ho_al G σ N (.inl (gc G 0, N, .inl fun _ => 0))
def ho_nwZ (G : ho_G) (σ : ho_H) (n : Int32) : Option (ho_H × Nat) := (ho_n n).bind fun N => ho_al G σ N (.inl (gc G 1, N, .inl fun _ => 0))
def ho_nwL (G : ho_G) (σ : ho_H) (kd : Nat) (n : Int32) : Option (ho_H × Nat) := (ho_n n).bind fun N => ho_al G σ N (.inl (gc G kd, N, .inr (.inl fun _ => 0)))
def ho_nwR (G : ho_G) (σ : ho_H) (kd : Nat) (n : Int32) : Option (ho_H × Nat) := (ho_n n).bind fun N => ho_al G σ N (.inl (gc G kd, N, .inr (.inr (.inr (.inr fun _ => none)))))
/-- a call came back: heaps only grow -/
def ho_ck {α : Type} (σ : ho_H) (x : Option (ho_H × α)) : Option (ho_H × α) := x.bind fun r => if σ.1 ≤ r.1.1 ∧ σ.2.1 ≤ r.1.2.1 then some r else none
/-- a loop, with fuel -/
def ho_it {S E : Type} (f : S → Option (S ⊕ E)) : Nat → S → Option E
  | 0, _ => none
  | n + 1, s => match f s with
    | none => none
    | some (.inl s') => ho_it f n s'
    | some (.inr e) => some e
theorem bd_E {α β : Type} {x : Option α} {f : α → Option β} {r : β} (h : x.bind f = some r) : ∃ v, x = some v ∧ f v = some r := Option.bind_eq_some_iff.mp h
theorem mp_E {α β : Type} {x : Option α} {f : α → β} {r : β} (h : x.map f = some r) : ∃ v, x = some v ∧ f v = r := Option.map_eq_some_iff.mp h
theorem ho_ix_E {i : Int32} {n j : Nat} (h : ho_ix i n = some j) : vp_in i n ∧ j = i.toNatClampNeg := by
  unfold ho_ix at h
  split at h
  · cases h
  · next hn => exact ⟨hn, (Option.some.inj h).symm⟩
theorem ho_f_E {σ : ho_H} {a ci : Nat} {fs : List Value} (h : ho_f σ a ci = some fs) : σ.2.2 a = some (.inr (ci, fs)) := by
  unfold ho_f at h
  split at h
  · next c fs' e =>
    split at h
    · next hc => subst hc; rw [e, Option.some.inj h]
    · cases h
  · cases h
theorem ho_vI_E {v : Option Value} {x : Int32} (h : ho_vI v = some x) : v = some (.int x) := by
  unfold ho_vI at h
  split at h
  · rw [Option.some.inj h]
  · cases h
theorem ho_vR_E {v : Option Value} {x : Nat} (h : ho_vR v = some x) : v = some (.ref x) := by
  unfold ho_vR at h
  split at h
  · rw [Option.some.inj h]
  · cases h
theorem ho_aI_E {G : ho_G} {σ : ho_H} {a kd : Nat} {q : Nat × (Nat → Int32)} (h : ho_aI G σ a kd = some q) : σ.2.2 a = some (.inl (gc G kd, q.1, .inl q.2)) := by
  unfold ho_aI at h
  split at h
  · next c n f e =>
    split at h
    · next hc => subst hc; rw [e, ← Option.some.inj h]
    · cases h
  · cases h
theorem ho_aL_E {G : ho_G} {σ : ho_H} {a kd : Nat} {q : Nat × (Nat → Int64)} (h : ho_aL G σ a kd = some q) : σ.2.2 a = some (.inl (gc G kd, q.1, .inr (.inl q.2))) := by
  unfold ho_aL at h
  split at h
  · next c n f e =>
    split at h
    · next hc => subst hc; rw [e, ← Option.some.inj h]
    · cases h
  · cases h
theorem ho_aR_E {G : ho_G} {σ : ho_H} {a kd : Nat} {q : Nat × (Nat → Option Nat)} (h : ho_aR G σ a kd = some q) : σ.2.2 a = some (.inl (gc G kd, q.1, .inr (.inr (.inr (.inr q.2))))) := by
  unfold ho_aR at h
  split at h
  · next c n f e =>
    split at h
    · next hc => subst hc; rw [e, ← Option.some.inj h]
    · cases h
  · cases h
theorem ho_rI_E {G : ho_G} {σ : ho_H} {a : Nat} {q : Nat × (Nat → Int32)} (h : ho_rI G σ a = some q) : σ.2.2 a = some (.inl (gc G 0, q.1, .inl q.2)) ∨ gR G a = some q := by
  unfold ho_rI at h
  split at h
  · next c n f e =>
    split at h
    · next hc => subst hc; rw [e, ← Option.some.inj h]; exact Or.inl rfl
    · cases h
  · cases h
  · exact Or.inr h
theorem va_P1 {D : va_G} {cl : List vw_C} {q : Nat × va_E} {H : Heap} (h : va_at D cl q H) : va_P D cl [q] H := by
  intro k x hk
  cases k with
  | zero => simp at hk; subst hk; exact h
  | succ k => simp at hk
theorem hs_R.set {G : ho_G} {σ : ho_H} {H H1 : Heap} {a : Nat} {e0 e : va_E} (h : hs_R G σ H) (he : σ.2.2 a = some e0) (z : H1.size = H.size) (oq : ∀ q : Nat, q ≠ a → H1[q]? = H[q]?) (hat : va_at (gD G) vwCl (a, e) H1) : hs_R G (ho_set σ a e) H1 := by
  refine ⟨z.trans h.1, h.2.1, h.2.2.1, fun b x hb => ?_⟩
  unfold ho_set at hb
  dsimp only at hb
  by_cases hba : b = a
  · rw [if_pos hba] at hb
    cases hb
    subst hba
    exact ⟨(h.2.2.2 b e0 he).1, hat⟩
  · rw [if_neg hba] at hb
    exact ⟨(h.2.2.2 b x hb).1, (h.2.2.2 b x hb).2.kept (oq b hba)⟩
theorem hs_R.push {G : ho_G} {σ σ' : ho_H} {H H1 : Heap} {N a : Nat} {e : va_E} (h : hs_R G σ H) (hal : ho_al G σ N e = some (σ', a)) (hB : gB G ≤ H.size) (z : H1.size = H.size + 1) (oq : ∀ q : Nat, q < H.size → H1[q]? = H[q]?) (hat : va_at (gD G) vwCl (H.size, e) H1) : hs_R G σ' H1 ∧ a = H.size ∧ σ'.1 = σ.1 + 1 ∧ σ'.2.1 = σ.2.1 + N ∧ σ.1 + 1 ≤ gC G ∧ σ.2.1 + N ≤ gS G := by
  unfold ho_al at hal
  split at hal
  · next hc =>
    cases hal
    refine ⟨⟨by rw [z, h.1], hc.1, hc.2, fun b x hb => ?_⟩, h.1.symm, rfl, rfl, hc.1, hc.2⟩
    dsimp only at hb
    by_cases hba : b = σ.1
    · rw [if_pos hba] at hb
      cases hb
      subst hba
      rw [← h.1]
      exact ⟨hB, hat⟩
    · rw [if_neg hba] at hb
      have hx := h.2.2.2 b x hb
      exact ⟨hx.1, hx.2.kept (oq b hx.2.lt)⟩
  · cases hal
theorem ho_al_E {G : ho_G} {σ σ' : ho_H} {N a : Nat} {e : va_E} (hal : ho_al G σ N e = some (σ', a)) : σ.1 + 1 ≤ gC G ∧ σ.2.1 + N ≤ gS G ∧ σ'.1 = σ.1 + 1 ∧ σ'.2.1 = σ.2.1 + N ∧ a = σ.1 := by
  unfold ho_al at hal
  split at hal
  · next hc =>
    cases hal
    exact ⟨hc.1, hc.2, rfl, rfl, rfl⟩
  · cases hal
theorem va_S.grow {A : Nat → Prop} {H0 H H1 : Heap} {locs : List Loc} (h : va_S A H0 H locs) (z : H.size ≤ H1.size) (oq : ∀ q : Nat, q < H.size → H1[q]? = H[q]?) : va_S A H0 H1 locs :=
  ⟨Nat.le_trans h.1 z, fun q h1 h2 => (oq q (Nat.lt_of_lt_of_le h1 h.1)).trans (h.2.1 q h1 h2), h.2.2⟩
def ho_nz (y : Int32) : Option Unit := if y = 0 then none else some ()
theorem ho_nz_E {y : Int32} {u : Unit} (h : ho_nz y = some u) : ¬ y = 0 := by
  unfold ho_nz at h
  split at h
  · cases h
  · assumption
def ho_bz (y : Int32) : Option Unit := if y = 0 ∨ y = 1 then some () else none
theorem ho_bz_E {y : Int32} {u : Unit} (h : ho_bz y = some u) : narrow .boolean (.int y) = .int y := by
  unfold ho_bz at h
  split at h
  · next hc => rcases hc with rfl | rfl <;> decide
  · cases h
theorem nm_E {α β : Type} {x : α} {f : α → Option β} {r : β} (h : (some x).bind f = some r) : ∃ v, x = v ∧ f v = some r := ⟨x, rfl, h⟩
def ho_cv (σ : ho_H) (x : Option ho_H) : Option ho_H := x.bind fun r => if σ.1 ≤ r.1 ∧ σ.2.1 ≤ r.2.1 then some r else none
theorem ho_cv_E {σ : ho_H} {x : Option ho_H} {z : ho_H} (h : ho_cv σ x = some z) : x = some z ∧ σ.1 ≤ z.1 ∧ σ.2.1 ≤ z.2.1 := by
  obtain ⟨v, h1, h2⟩ := bd_E h
  split at h2
  · next hc => cases h2; exact ⟨h1, hc⟩
  · cases h2
def sm {A B : Type} (P : A → Prop) (Z : B → Prop) (r : A ⊕ B) : Prop := match r with
  | .inl a => P a
  | .inr b => Z b
