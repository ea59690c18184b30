/-! facts of pool entries -/
def hv_lk (own : String) (index : Nat) (ref n d : String) : Prop := Cond.fieldLink own index ref n d ∈ hv_ws ∨ ∃ host, (own, index, ref, n, d, host) ∈ hv_nwF
def hv_fa (own : String) (index ci j : Nat) : Prop := ∃ (C : String) (T : u_T) (N : Nat) (ref : String), vwCl[ci]? = some (C, T, N) ∧ (∀ w ∈ u_ws C T N, w ∈ hv_ws) ∧ j < N ∧ hv_lk own index ref (T j).2.1 (T j).2.2.1 ∧ (ref = (T j).1 ∨ Cond.sameField ref (T j).1 (T j).2.1 (T j).2.2.1 ∈ hv_ws)
def hv_fp (own : String) (index ci j : Nat) (ty : FieldType) (fin : Bool) : Prop := ∃ (C : String) (T : u_T) (N : Nat) (ref : String) (ty0 : Nat → FieldType), vwCl[ci]? = some (C, T, N) ∧ (∀ w ∈ u_ws C T N, w ∈ hv_ws) ∧ j < N ∧ hv_lk own index ref (T j).2.1 (T j).2.2.1 ∧ (ref = (T j).1 ∨ Cond.sameField ref (T j).1 (T j).2.1 (T j).2.2.1 ∈ hv_ws) ∧
  (∀ i, i < N → parseFieldDescriptor (T i).2.2.1 = some (ty0 i)) ∧ (∀ a, a < N → ∀ b, b < N → a ≠ b → (T a).2.1 ≠ (T b).2.1) ∧ (T j).2.2.2 = fin ∧ (fin = true → (T j).1 = own) ∧ parseFieldDescriptor (T j).2.2.1 = some ty
def hv_nw (own : String) (index ci N : Nat) (fs : List Value) : Prop := ∃ (C : String) (T : u_T) (ty : Nat → FieldType), vwCl[ci]? = some (C, T, N) ∧ (∀ w ∈ u_ws C T N, w ∈ hv_ws) ∧ (∀ i, i < N → parseFieldDescriptor (T i).2.2.1 = some (ty i)) ∧ Cond.classLink own index C ∈ hv_ws ∧ Cond.instantiable C N ∈ hv_ws ∧ Cond.initialized C ∈ hv_ws ∧ (∀ j, j < N → defaultValue (ty j) = vp_V fs j)
/-- a callee: its code and its link -/
def hv_cs (own : String) (index : Nat) (y : MethodName) (bytes : ByteArray) (maxL : Nat) (rt : Option FieldType) (n : Nat) : Prop := Cond.code y bytes maxL rt ∈ hv_ws ∧ Cond.initialized y.cls ∈ hv_ws ∧ (y.cls ≠ "java/lang/invoke/MethodHandle" ∧ y.cls ≠ "java/lang/invoke/VarHandle") ∧ (parseMethodDescriptor y.desc).map (fun d => d.parameters.length) = some n ∧ (Cond.methodLink own index y ∈ hv_ws ∨ ∃ host, (own, index, y, host) ∈ hv_nwM)
theorem hv_X.ts {k : mk_T} {cc : ByteArray} {own : String} {nL fr lw : Nat} {ret : Option FieldType} {nm : String} (X : hv_X k cc own nL fr lw ret nm) : ∀ w ∈ hv_ws, w.before k.1.2.2.2.2.2.2.1 k.1.2.2.2.2.1 = true := X.2.2.2.2.1
theorem hv_X.ow {k : mk_T} {cc : ByteArray} {own : String} {nL fr lw : Nat} {ret : Option FieldType} {nm : String} (X : hv_X k cc own nL fr lw ret nm) : k.1.2.2.2.2.1.vm.findClass own = some k.1.2.2.2.2.2.1.cls := X.2.2.2.1
theorem hv_X.gs {k : mk_T} {cc : ByteArray} {own : String} {nL fr lw : Nat} {ret : Option FieldType} {nm : String} (X : hv_X k cc own nL fr lw ret nm) : gs_ok k.2.1 k.1.2.2.2.2.1 k.1.2.2.2.2.1.heap := X.2.2.2.2.2.1
theorem hv_X.sz {k : mk_T} {cc : ByteArray} {own : String} {nL fr lw : Nat} {ret : Option FieldType} {nm : String} (X : hv_X k cc own nL fr lw ret nm) : k.1.2.2.2.2.1.heap.size = k.2.2.1.1 := X.2.2.2.2.2.2.1
theorem hv_X.rc {k : mk_T} {cc : ByteArray} {own : String} {nL fr lw : Nat} {ret : Option FieldType} {nm : String} (X : hv_X k cc own nL fr lw ret nm) : k.1.2.2.2.1.cells = gC k.2.1 - k.2.2.1.1 := X.2.2.2.2.2.2.2.1
theorem hv_X.rs {k : mk_T} {cc : ByteArray} {own : String} {nL fr lw : Nat} {ret : Option FieldType} {nm : String} (X : hv_X k cc own nL fr lw ret nm) : k.1.2.2.2.1.slots = gS k.2.1 - k.2.2.1.2.1 := X.2.2.2.2.2.2.2.2.1
theorem hv_X.fr {k : mk_T} {cc : ByteArray} {own : String} {nL fr lw : Nat} {ret : Option FieldType} {nm : String} (X : hv_X k cc own nL fr lw ret nm) : fr ≤ k.1.2.2.2.1.frames := X.2.2.2.2.2.2.2.2.2.1
theorem hv_X.lw {k : mk_T} {cc : ByteArray} {own : String} {nL fr lw : Nat} {ret : Option FieldType} {nm : String} (X : hv_X k cc own nL fr lw ret nm) : lw ≤ k.1.2.2.2.1.locals := X.2.2.2.2.2.2.2.2.2.2.1
theorem hv_X.rt {k : mk_T} {cc : ByteArray} {own : String} {nL fr lw : Nat} {ret : Option FieldType} {nm : String} (X : hv_X k cc own nL fr lw ret nm) : k.1.2.2.2.2.2.2.2.2.1.sig.returnType = ret := X.2.2.2.2.2.2.2.2.2.2.2.1
theorem hv_X.lk {k : mk_T} {cc : ByteArray} {own : String} {nL fr lw : Nat} {ret : Option FieldType} {nm : String} (X : hv_X k cc own nL fr lw ret nm) : k.1.2.2.2.2.2.2.2.2.1.locks = false := X.2.2.2.2.2.2.2.2.2.2.2.2.1
section HV2
variable {k : mk_T} {cc : ByteArray} {own : String} {nL fr lw : Nat} {ret : Option FieldType} {nm : String} {σ σ' : ho_H} {pc pn : Nat} {lo lo' : List (Option Value)} {st : List Value}
theorem hv_ldc (X : hv_X k cc own nL fr lw ret nm) {index : Nat} {v : Int32} (d : decode cc pc = .ok (.ldc index, 2)) (hw : Cond.constant own index v ∈ hv_ws) (kk : hv_V k σ pn lo (.int v :: st)) (hp : pn = pc + 2 := by rfl) : hv_V k σ pc lo st := by
  subst hp
  intro H locs ls hR hS g1 g2 hl
  exact lv_ldc X.1 X.2.1 X.ow (X.ts _ hw) d (kk H locs ls hR hS g1 g2 hl)
theorem hv_lcmp (X : hv_X k cc own nL fr lw ret nm) {x y : Int64} (d : decode cc pc = .ok (.lcmp, 1)) (kk : hv_V k σ pn lo (.int (lg_cmp x y) :: st)) (hp : pn = pc + 1 := by rfl) : hv_V k σ pc lo (.long y :: .long x :: st) := by
  subst hp
  intro H locs ls hR hS g1 g2 hl
  exact W.lcmp X.1 X.2.1 d (kk H locs ls hR hS g1 g2 hl)
theorem hv_topi {x y : Int32} (e : x = y) (kk : hv_V k σ pc lo (.int y :: st)) : hv_V k σ pc lo (.int x :: st) := by rw [e]; exact kk
theorem hv_same (X : hv_X k cc own nL fr lw ret nm) {T : u_T} {j : Nat} {ref : String} (h : ref = (T j).1 ∨ Cond.sameField ref (T j).1 (T j).2.1 (T j).2.2.1 ∈ hv_ws) : ∀ x, k.1.2.2.2.2.1.fieldFound? (T j).1 (T j).2.1 (T j).2.2.1 = some x → k.1.2.2.2.2.1.fieldFound? ref (T j).2.1 (T j).2.2.1 = some x := by
  rcases h with rfl | h
  · exact fun _ h => h
  · exact fun x hx => u_same (X.ts _ h) x hx
theorem hv_get (X : hv_X k cc own nL fr lw ret nm) {index ci j a : Nat} {v : Value} {fs : List Value} (d : decode cc pc = .ok (.getfield index, 3)) (hF : hv_fa own index ci j) (hf : ho_f σ a ci = some fs) (hv : fs[j]? = some v) (kk : hv_V k σ pn lo (v :: st)) (hp : pn = pc + 3 := by rfl) : hv_V k σ pc lo (.ref a :: st) := by
  subst hp
  intro H locs ls hR hS g1 g2 hl
  obtain ⟨C, T, N, ref, hc, hin, hj, hlink, hsame⟩ := hF
  have hat := (hR.2.2.2 a _ (ho_f_E hf)).2
  have hsm := hv_same X hsame
  rcases hlink with hlink | ⟨host, hlink⟩
  · exact va_get X.1 X.2.1 X.ts hin X.ow X.gs.2.1 (va_P1 hat) 0 rfl hc j hj (X.ts _ hlink) hsm hv d (kk H locs ls hR hS g1 g2 hl)
  · exact va_getN X.1 X.2.1 X.ts hin X.ow X.gs.2.1 (va_P1 hat) 0 rfl hc j hj (va_Nw.use rfl (X.gs.2.2.2.2.2.1 _ hlink)) hsm hv d (kk H locs ls hR hS g1 g2 hl)
theorem hv_getI (X : hv_X k cc own nL fr lw ret nm) {index ci j a : Nat} {x : Int32} (d : decode cc pc = .ok (.getfield index, 3)) (hF : hv_fa own index ci j) (e : ho_gI σ a ci j = some x) (kk : hv_V k σ pn lo (.int x :: st)) (hp : pn = pc + 3 := by rfl) : hv_V k σ pc lo (.ref a :: st) := by
  obtain ⟨fs, h1, h2⟩ := bd_E e
  exact hv_get X d hF h1 (ho_vI_E h2) kk hp
theorem hv_getR (X : hv_X k cc own nL fr lw ret nm) {index ci j a x : Nat} (d : decode cc pc = .ok (.getfield index, 3)) (hF : hv_fa own index ci j) (e : ho_gR σ a ci j = some x) (kk : hv_V k σ pn lo (.ref x :: st)) (hp : pn = pc + 3 := by rfl) : hv_V k σ pc lo (.ref a :: st) := by
  obtain ⟨fs, h1, h2⟩ := bd_E e
  exact hv_get X d hF h1 (ho_vR_E h2) kk hp
theorem hv_put (X : hv_X k cc own nL fr lw ret nm) {index ci j a : Nat} {v : Value} {ty : FieldType} (d : decode cc pc = .ok (.putfield index, 3)) (hF : hv_fp own index ci j ty false) (e : ho_p σ a ci j v = some σ') (kk : hv_V k σ' pn lo st) (hn : narrow ty v = v := by rfl) (hfit : fits ty v = true := by rfl) (hp : pn = pc + 3 := by rfl) : hv_V k σ pc lo (v :: .ref a :: st) := by
  subst hp
  intro H locs ls hR hS g1 g2 hl
  obtain ⟨C, T, N, ref, ty0, hc, hin, hj, hlink, hsame, hty, hnm, hfin, -, hd⟩ := hF
  obtain ⟨fs, hf, h2⟩ := bd_E e
  split at h2
  · next hlt =>
    cases h2
    have hat := hR.2.2.2 a _ (ho_f_E hf)
    obtain ⟨r, h1, cell, q1, q2, q3, q4⟩ := hat.2
    have hr : r = (C, T, N) := Option.some.inj (h1.symm.trans hc)
    subst hr
    have hK := X.gs.2.1
    have hap := va_apart (own := own) X.ts hin ty0 hty hnm hK hc
    obtain ⟨hSl, hfc, kC, hkC, hkind⟩ := hK.1 ci _ hc
    obtain ⟨cf, kf, fi, f, hi, hsl⟩ := hSl j hj
    have hlay := X.ts _ (hin _ (u_in_lay hj))
    unfold u_lay at hlay
    rw [if_neg (by rw [hfin]; decide)] at hlay
    have hst := (u_facts hfc hkC (u_lays X.ts hin hj) hi).1
    have h6 := u_store hfc hkC hkind hlay hi hd hn hfit
    have hsm := hv_same X hsame
    rcases hlink with hlink | ⟨host, hlink⟩
    · refine W.putK X.1 X.2.1 (f := f) ⟨X.ow, X.ts _ hlink, ⟨_, _, _, hsm _ hi⟩, hst⟩ (by rw [q2]; exact h6) q1 q3 (by rw [hsl]; exact k2_hasslot (q4 j hj)) rfl rfl d fun H' e1 e2 e3 => ?_
      rw [hsl] at e1 ⊢
      exact kk H' _ ls (hR.set (ho_f_E hf) e2 e3 ⟨_, hc, t_OB.to (V := updV (vp_V fs) j v) ⟨_, e1, q2, q3, t_set q4 hap hj v⟩ (fun i _ => vp_updV_set hlt v i)⟩) (hS.put e2 e3 hat.1) g1 g2 hl
    · refine va_WputK X.1 X.2.1 (f := f) X.ow (va_Nw.use rfl (X.gs.2.2.2.2.2.1 _ hlink)) (hsm _ hi) hst (by rw [q2]; exact h6) q1 q3 (by rw [hsl]; exact k2_hasslot (q4 j hj)) rfl rfl d fun H' e1 e2 e3 => ?_
      rw [hsl] at e1 ⊢
      exact kk H' _ ls (hR.set (ho_f_E hf) e2 e3 ⟨_, hc, t_OB.to (V := updV (vp_V fs) j v) ⟨_, e1, q2, q3, t_set q4 hap hj v⟩ (fun i _ => vp_updV_set hlt v i)⟩) (hS.put e2 e3 hat.1) g1 g2 hl
  · cases h2
theorem hv_putF (X : hv_X k cc own nL fr lw ret "<init>") {index ci j a : Nat} {v : Value} {ty : FieldType} (d : decode cc pc = .ok (.putfield index, 3)) (hF : hv_fp own index ci j ty true) (e : ho_p σ a ci j v = some σ') (kk : hv_V k σ' pn lo st) (hn : narrow ty v = v := by rfl) (hfit : fits ty v = true := by rfl) (hp : pn = pc + 3 := by rfl) : hv_V k σ pc lo (v :: .ref a :: st) := by
  subst hp
  intro H locs ls hR hS g1 g2 hl
  obtain ⟨C, T, N, ref, ty0, hc, hin, hj, hlink, hsame, hty, hnm, hfin, hdecl, hd⟩ := hF
  have hM := X.2.2.2.2.2.2.2.2.2.2.2.2.2.2
  obtain ⟨fs, hf, h2⟩ := bd_E e
  split at h2
  · next hlt =>
    cases h2
    have hat := hR.2.2.2 a _ (ho_f_E hf)
    obtain ⟨r, h1, cell, q1, q2, q3, q4⟩ := hat.2
    have hr : r = (C, T, N) := Option.some.inj (h1.symm.trans hc)
    subst hr
    have hK := X.gs.2.1
    have hap := va_apart (own := own) X.ts hin ty0 hty hnm hK hc
    obtain ⟨hSl, hfc, kC, hkC, hkind⟩ := hK.1 ci _ hc
    obtain ⟨cf, kf, fi, f, hi, hsl⟩ := hSl j hj
    have hlay := X.ts _ (hin _ (u_in_lay hj))
    unfold u_lay at hlay
    rw [if_pos hfin] at hlay
    have hst := (u_facts hfc hkC (u_lays X.ts hin hj) hi).1
    have hcf : k.1.2.2.2.2.2.1.cls = cf := by
      obtain ⟨_, _, c', _, _, _, -, -, hf', -, -, -, hown2, -⟩ := Cond.laysFinal_spec hlay
      have e1 : c' = cf := by have := hi.symm.trans hf'; simp at this; exact this.1.symm
      rw [hdecl rfl] at hown2
      rw [← e1]; exact Option.some.inj (X.ow.symm.trans hown2)
    have h6 := u_fits hfc hkC hkind (Or.inr hlay) hi hd hn hfit
    have hsm := hv_same X hsame
    rcases hlink with hlink | ⟨host, hlink⟩
    · refine W.putFinK X.1 X.2.1 X.ow (X.ts _ hlink) (hsm _ hi) hst hcf hM (by rw [q2]; exact h6) q1 q3 (by rw [hsl]; exact k2_hasslot (q4 j hj)) rfl rfl d fun H' e1 e2 e3 => ?_
      rw [hsl] at e1 ⊢
      exact kk H' _ ls (hR.set (ho_f_E hf) e2 e3 ⟨_, hc, t_OB.to (V := updV (vp_V fs) j v) ⟨_, e1, q2, q3, t_set q4 hap hj v⟩ (fun i _ => vp_updV_set hlt v i)⟩) (hS.put e2 e3 hat.1) g1 g2 hl
    · have ha : a < H.size := (Array.getElem?_eq_some_iff.mp q1).1
      refine va_Wputf X.1 X.2.1 X.ow (va_Nw.use rfl (X.gs.2.2.2.2.2.1 _ hlink)) (hsm _ hi) hst (Or.inr ⟨hcf, hM⟩) q1 (by rw [q3]; exact fun h => by cases h) (by rw [hsl]; exact k2_hasslot (q4 j hj)) h6.1 (by rw [q3, q2]; exact h6.2) rfl rfl d ?_
      rw [hsl]
      have e1 : (H.setIfInBounds a (cell.setSlot ((gD k.2.1).2 ci j) v))[a]? = some (cell.setSlot ((gD k.2.1).2 ci j) v) := by simp [Array.getElem?_setIfInBounds, ha]
      have e2 : (H.setIfInBounds a (cell.setSlot ((gD k.2.1).2 ci j) v)).size = H.size := by simp
      have e3 : ∀ q : Nat, q ≠ a → (H.setIfInBounds a (cell.setSlot ((gD k.2.1).2 ci j) v))[q]? = H[q]? := fun q hq => by simp [Array.getElem?_setIfInBounds, Ne.symm hq]
      exact kk _ _ ls (hR.set (ho_f_E hf) e2 e3 ⟨_, hc, t_OB.to (V := updV (vp_V fs) j v) ⟨_, e1, q2, q3, t_set q4 hap hj v⟩ (fun i _ => vp_updV_set hlt v i)⟩) (hS.put e2 e3 hat.1) g1 g2 hl
  · cases h2
theorem hv_ki (X : hv_X k cc own nL fr lw ret nm) {i : Nat} {ty : FieldType} (h : hv_tys[i]? = some ty) : ArrOfT k.1.2.2.2.2.1 (gc k.2.1 i) ty ∧ va_RA k.1.2.2.2.2.1 (gc k.2.1 i) ty := X.gs.2.1.2 i _ (X.gs.2.2.1 i ty h)
theorem hv_kt (X : hv_X k cc own nL fr lw ret nm) {i : Nat} {ty : FieldType} (h : hv_tys[i]? = some ty) : (gT k.2.1)[i]? = some (gc k.2.1 i, ty) := X.gs.2.2.1 i ty h
theorem hv_iald (X : hv_X k cc own nL fr lw ret nm) {a : Nat} {i x : Int32} (d : decode cc pc = .ok (.iaload, 1)) (e : ho_ldI k.2.1 σ a i = some x) (kk : hv_V k σ pn lo (.int x :: st)) (hp : pn = pc + 1 := by rfl) : hv_V k σ pc lo (.int i :: .ref a :: st) := by
  subst hp
  intro H locs ls hR hS g1 g2 hl
  obtain ⟨q, h1, h2⟩ := bd_E e
  obtain ⟨j, hj, h3⟩ := mp_E h2
  obtain ⟨hin, rfl⟩ := ho_ix_E hj
  subst h3
  rcases ho_rI_E h1 with h | h
  · exact va_iald X.1 X.2.1 X.gs.2.1 (va_P1 (hR.2.2.2 a _ h).2) 0 0 rfl (hv_kt X rfl) hin d (kk H locs ls hR hS g1 g2 hl)
  · exact va_ti X.1 X.2.1 (X.gs.2.2.2.1 a _ _ h) hS hin rfl d (kk H locs ls hR hS g1 g2 hl)
theorem hv_zald (X : hv_X k cc own nL fr lw ret nm) {a : Nat} {i x : Int32} (d : decode cc pc = .ok (.baload, 1)) (e : ho_ldZ k.2.1 σ a i = some x) (kk : hv_V k σ pn lo (.int x :: st)) (hp : pn = pc + 1 := by rfl) : hv_V k σ pc lo (.int i :: .ref a :: st) := by
  subst hp
  intro H locs ls hR hS g1 g2 hl
  obtain ⟨q, h1, h2⟩ := bd_E e
  obtain ⟨j, hj, h3⟩ := mp_E h2
  obtain ⟨hin, rfl⟩ := ho_ix_E hj
  subst h3
  exact va_zald X.1 X.2.1 X.gs.2.1 (va_P1 (hR.2.2.2 a _ (ho_aI_E h1)).2) 0 1 rfl (hv_kt X rfl) hin d (kk H locs ls hR hS g1 g2 hl)
theorem hv_lald (X : hv_X k cc own nL fr lw ret nm) {a : Nat} {i : Int32} {x : Int64} (d : decode cc pc = .ok (.laload, 1)) (e : ho_ldL k.2.1 σ a 2 i = some x) (kk : hv_V k σ pn lo (.long x :: st)) (hp : pn = pc + 1 := by rfl) : hv_V k σ pc lo (.int i :: .ref a :: st) := by
  subst hp
  intro H locs ls hR hS g1 g2 hl
  obtain ⟨q, h1, h2⟩ := bd_E e
  obtain ⟨j, hj, h3⟩ := mp_E h2
  obtain ⟨hin, rfl⟩ := ho_ix_E hj
  subst h3
  exact va_lald X.1 X.2.1 X.gs.2.1 (va_P1 (hR.2.2.2 a _ (ho_aL_E h1)).2) 0 2 rfl (hv_kt X rfl) hin d (kk H locs ls hR hS g1 g2 hl)
theorem hv_aald (X : hv_X k cc own nL fr lw ret nm) {a kd : Nat} {C : String} {i : Int32} {x : Nat} (d : decode cc pc = .ok (.aaload, 1)) (ht : hv_tys[kd]? = some (.object C)) (e : ho_ldR k.2.1 σ a kd i = some x) (kk : hv_V k σ pn lo (.ref x :: st)) (hp : pn = pc + 1 := by rfl) : hv_V k σ pc lo (.int i :: .ref a :: st) := by
  subst hp
  intro H locs ls hR hS g1 g2 hl
  obtain ⟨q, h1, h2⟩ := bd_E e
  obtain ⟨j, hj, h3⟩ := bd_E h2
  obtain ⟨hin, rfl⟩ := ho_ix_E hj
  refine va_aldq X.1 X.2.1 X.gs.2.1 (va_P1 (hR.2.2.2 a _ (ho_aR_E h1)).2) 0 kd rfl (hv_kt X ht) hin d ?_
  rw [h3]
  exact kk H locs ls hR hS g1 g2 hl
theorem hv_iast (X : hv_X k cc own nL fr lw ret nm) {a : Nat} {i x : Int32} (d : decode cc pc = .ok (.iastore, 1)) (e : ho_stI k.2.1 σ a i x = some σ') (kk : hv_V k σ' pn lo st) (hp : pn = pc + 1 := by rfl) : hv_V k σ pc lo (.int x :: .int i :: .ref a :: st) := by
  subst hp
  intro H locs ls hR hS g1 g2 hl
  obtain ⟨q, h1, h2⟩ := bd_E e
  obtain ⟨j, hj, h3⟩ := mp_E h2
  obtain ⟨hin, rfl⟩ := ho_ix_E hj
  subst h3
  have hc := hR.2.2.2 a _ (ho_aI_E h1)
  refine W.iast X.1 X.2.1 hc.2 ((hv_ki X (i := 0) rfl).1 q.1 (fun j => .int (q.2 j))) (fun q => by cases q) (by show ¬ (i < 0 ∨ (arrV _ _ _).slots.size ≤ _); rw [arrV_size]; exact hin) rfl rfl d fun H1 e z oq => ?_
  refine kk H1 _ ls (hR.set (ho_aI_E h1) z oq ?_) (hS.put z oq hc.1) g1 g2 hl
  show H1[a]? = some (vp_cell _ _)
  rw [e]
  rw [vp_cell_i, vp_cell_i, arrV_store]
  congr 2
  funext z
  by_cases hz : z = i.toNatClampNeg
  · subst hz
    simp [updV, upd]
  · simp [updV, upd, hz]
theorem hv_zast (X : hv_X k cc own nL fr lw ret nm) {a : Nat} {i x : Int32} (d : decode cc pc = .ok (.bastore, 1)) (e : ho_stZ k.2.1 σ a i x = some σ') (kk : hv_V k σ' pn lo st) (hp : pn = pc + 1 := by rfl) : hv_V k σ pc lo (.int x :: .int i :: .ref a :: st) := by
  subst hp
  intro H locs ls hR hS g1 g2 hl
  obtain ⟨q, h1, h2⟩ := bd_E e
  obtain ⟨j, hj, h3⟩ := mp_E h2
  obtain ⟨hin, rfl⟩ := ho_ix_E hj
  subst h3
  have hc := hR.2.2.2 a _ (ho_aI_E h1)
  refine W.zast X.1 X.2.1 hc.2 ((hv_ki X (i := 1) rfl).1 q.1 (fun j => .int (q.2 j))) (fun q => by cases q) (by show ¬ (i < 0 ∨ (arrV _ _ _).slots.size ≤ _); rw [arrV_size]; exact hin) rfl rfl d fun H1 e z oq => ?_
  refine kk H1 _ ls (hR.set (ho_aI_E h1) z oq ?_) (hS.put z oq hc.1) g1 g2 hl
  show H1[a]? = some (vp_cell _ _)
  rw [e]
  rw [vp_cell_i, vp_cell_i, arrV_store]
  congr 2
  funext q
  by_cases hq : q = i.toNatClampNeg
  · subst hq
    simp [updV, upd, vp_nar]
    try rfl
  · simp [updV, upd, hq]
theorem hv_last (X : hv_X k cc own nL fr lw ret nm) {a : Nat} {i : Int32} {x : Int64} (d : decode cc pc = .ok (.lastore, 1)) (e : ho_stL k.2.1 σ a 2 i x = some σ') (kk : hv_V k σ' pn lo st) (hp : pn = pc + 1 := by rfl) : hv_V k σ pc lo (.long x :: .int i :: .ref a :: st) := by
  subst hp
  intro H locs ls hR hS g1 g2 hl
  obtain ⟨q, h1, h2⟩ := bd_E e
  obtain ⟨j, hj, h3⟩ := mp_E h2
  obtain ⟨hin, rfl⟩ := ho_ix_E hj
  subst h3
  have hc := hR.2.2.2 a _ (ho_aL_E h1)
  refine W.last X.1 X.2.1 hc.2 ((hv_ki X (i := 2) rfl).1 q.1 (fun j => .long (q.2 j))) (fun q => by cases q) (by show ¬ (i < 0 ∨ (arrV _ _ _).slots.size ≤ _); rw [arrV_size]; exact hin) rfl rfl d fun H1 e z oq => ?_
  refine kk H1 _ ls (hR.set (ho_aL_E h1) z oq ?_) (hS.put z oq hc.1) g1 g2 hl
  show H1[a]? = some (vp_cell _ _)
  rw [e]
  rw [vp_cell_l, vp_cell_l, arrV_store]
  congr 2
  funext q
  by_cases hq : q = i.toNatClampNeg
  · subst hq
    simp [updV, vp_updL]
  · simp [updV, vp_updL, hq]
theorem hv_alenI (X : hv_X k cc own nL fr lw ret nm) {a : Nat} {x : Int32} (d : decode cc pc = .ok (.arraylength, 1)) (e : ho_lnI k.2.1 σ a = some x) (kk : hv_V k σ pn lo (.int x :: st)) (hp : pn = pc + 1 := by rfl) : hv_V k σ pc lo (.ref a :: st) := by
  subst hp
  intro H locs ls hR hS g1 g2 hl
  obtain ⟨q, h1, h2⟩ := mp_E e
  rcases ho_rI_E h1 with h | h
  · exact va_alen X.1 X.2.1 X.gs.2.1 (va_P1 (hR.2.2.2 a _ h).2) 0 0 rfl (hv_kt X rfl) h2 d (kk H locs ls hR hS g1 g2 hl)
  · obtain ⟨cell, t1, t2, t3, t4, t5, t6, t7⟩ := X.gs.2.2.2.1 a _ _ h
    exact W.alen X.1 X.2.1 (by rw [hS.2.1 a (Array.getElem?_eq_some_iff.mp t1).1 t7]; exact t1) t2 (t5.trans h2) rfl rfl d (kk H locs ls hR hS g1 g2 hl)
theorem hv_alenR (X : hv_X k cc own nL fr lw ret nm) {a kd : Nat} {C : String} {x : Int32} (d : decode cc pc = .ok (.arraylength, 1)) (ht : hv_tys[kd]? = some (.object C)) (e : ho_lnR k.2.1 σ a kd = some x) (kk : hv_V k σ pn lo (.int x :: st)) (hp : pn = pc + 1 := by rfl) : hv_V k σ pc lo (.ref a :: st) := by
  subst hp
  intro H locs ls hR hS g1 g2 hl
  obtain ⟨q, h1, h2⟩ := mp_E e
  exact va_alen X.1 X.2.1 X.gs.2.1 (va_P1 (hR.2.2.2 a _ (ho_aR_E h1)).2) 0 kd rfl (hv_kt X ht) h2 d (kk H locs ls hR hS g1 g2 hl)
theorem hv_new (X : hv_X k cc own nL fr lw ret nm) {index ci N a : Nat} {fs : List Value} (d : decode cc pc = .ok (.new index, 3)) (hN : hv_nw own index ci N fs) (e : ho_al k.2.1 σ N (.inr (ci, fs)) = some (σ', a)) (kk : hv_V k σ' pn lo (.ref a :: st)) (hp : pn = pc + 3 := by rfl) : hv_V k σ pc lo st := by
  subst hp
  intro H locs ls hR hS g1 g2 hl
  obtain ⟨C, T, ty, hc, hin, hty, hcl, hinst, hini, hfs⟩ := hN
  have hKn := X.gs.2.1.1 ci _ hc
  obtain ⟨a1, a2, a3, a4, a5⟩ := ho_al_E e
  refine W.newcK X.1 X.2.1 X.ow (X.ts _ hcl) (X.ts _ hinst) (X.ts _ hini) rfl d (by rw [X.rc]; omega) (by rw [X.rs]; omega) hKn.2.1 rfl fun H1 kC hkC e1 z1 o1 => ?_
  obtain ⟨b1, b2, -⟩ := hR.push e (Nat.le_trans X.gs.1 hS.1) z1 o1 ⟨_, hc, (u_born ty X.ts hin hKn hkC e1 hty).to hfs⟩
  have w := kk H1 locs ls b1 (hS.grow (by omega) o1) (by omega) (by omega) hl
  rw [a3, a4, show σ.1 + 1 - k.2.2.1.1 = σ.1 - k.2.2.1.1 + 1 by omega, show σ.2.1 + N - k.2.2.1.2.1 = σ.2.1 - k.2.2.1.2.1 + N by omega, b2] at w
  exact w
theorem ho_n_E {n : Int32} {N : Nat} (h : ho_n n = some N) : ¬ n < 0 ∧ n.toNatClampNeg = N ∧ N ≤ 60000000 := by
  unfold ho_n at h
  split at h
  · cases h
  · next hc =>
    have e := Option.some.inj h
    exact ⟨fun q => hc (Or.inl q), e, by omega⟩
theorem hv_newa (X : hv_X k cc own nL fr lw ret nm) {n : Int32} {a N kd : Nat} {atype : ArrayType} {a0 : vp_A} (d : decode cc pc = .ok (.newarray atype, 2)) (hw : Cond.arrayClass (newarray.typeOf atype) ∈ hv_ws) (hk : hv_tys[kd]? = some (newarray.typeOf atype)) (hobj : ∀ C, newarray.typeOf atype ≠ .object C) (hb : componentBytes (newarray.typeOf atype) ≤ 8) (h0 : ∀ cA : ClassId, vp_cell cA a0 = arrV cA N (fun _ => defaultValue (newarray.typeOf atype))) (hn : ho_n n = some N) (e : ho_al k.2.1 σ N (.inl (gc k.2.1 kd, a0)) = some (σ', a)) (kk : hv_V k σ' pn lo (.ref a :: st)) (hp : pn = pc + 2 := by rfl) : hv_V k σ pc lo (.int n :: st) := by
  subst hp
  intro H locs ls hR hS g1 g2 hl
  obtain ⟨n1, n2, n3⟩ := ho_n_E hn
  obtain ⟨a1, a2, a3, a4, a5⟩ := ho_al_E e
  refine va_newaK X.1 X.2.1 (X.ts _ hw) rfl d rfl n1 n2 (by have := Nat.mul_le_mul n3 hb; omega) (by rw [X.rc]; omega) (by rw [X.rs]; omega) rfl fun H1 cA e1 z1 o1 hAr hNm => ?_
  have hcA : cA = gc k.2.1 kd := by
    have h2 := (hv_ki X hk).2
    unfold va_RA at h2
    split at h2
    · next C hC => exact absurd hC (hobj C)
    · exact Option.some.inj (hNm.symm.trans h2)
  subst hcA
  obtain ⟨b1, b2, -⟩ := hR.push e (Nat.le_trans X.gs.1 hS.1) z1 o1 (by show H1[H.size]? = some (vp_cell _ _); rw [h0]; exact e1)
  have w := kk H1 locs ls b1 (hS.grow (by omega) o1) (by omega) (by omega) hl
  rw [a3, a4, show σ.1 + 1 - k.2.2.1.1 = σ.1 - k.2.2.1.1 + 1 by omega, show σ.2.1 + N - k.2.2.1.2.1 = σ.2.1 - k.2.2.1.2.1 + N by omega, b2] at w
  exact w
theorem hv_nwI (X : hv_X k cc own nL fr lw ret nm) {n : Int32} {a : Nat} (d : decode cc pc = .ok (.newarray .int, 2)) (hw : Cond.arrayClass .int ∈ hv_ws) (e : ho_nwI k.2.1 σ n = some (σ', a)) (kk : hv_V k σ' pn lo (.ref a :: st)) (hp : pn = pc + 2 := by rfl) : hv_V k σ pc lo (.int n :: st) := by
  obtain ⟨N, h1, h2⟩ := bd_E e
  exact hv_newa X (kd := 0) d hw rfl (fun C h => by cases h) (by decide) (fun cA => rfl) h1 h2 kk hp
theorem hv_nwZ (X : hv_X k cc own nL fr lw ret nm) {n : Int32} {a : Nat} (d : decode cc pc = .ok (.newarray .boolean, 2)) (hw : Cond.arrayClass .boolean ∈ hv_ws) (e : ho_nwZ k.2.1 σ n = some (σ', a)) (kk : hv_V k σ' pn lo (.ref a :: st)) (hp : pn = pc + 2 := by rfl) : hv_V k σ pc lo (.int n :: st) := by
  obtain ⟨N, h1, h2⟩ := bd_E e
  exact hv_newa X (kd := 1) d hw rfl (fun C h => by cases h) (by decide) (fun cA => rfl) h1 h2 kk hp
theorem hv_nwL (X : hv_X k cc own nL fr lw ret nm) {n : Int32} {a : Nat} (d : decode cc pc = .ok (.newarray .long, 2)) (hw : Cond.arrayClass .long ∈ hv_ws) (e : ho_nwL k.2.1 σ 2 n = some (σ', a)) (kk : hv_V k σ' pn lo (.ref a :: st)) (hp : pn = pc + 2 := by rfl) : hv_V k σ pc lo (.int n :: st) := by
  obtain ⟨N, h1, h2⟩ := bd_E e
  exact hv_newa X (kd := 2) d hw rfl (fun C h => by cases h) (by decide) (fun cA => rfl) h1 h2 kk hp
theorem hv_gets (X : hv_X k cc own nL fr lw ret nm) {index i : Nat} {C n ds ref : String} (d : decode cc pc = .ok (.getstatic index, 3)) (hi : hv_stat[i]? = some (C, n, ds)) (hlink : Cond.fieldLink own index ref n ds ∈ hv_ws) (hsame : ref = C ∨ Cond.sameField ref C n ds ∈ hv_ws) (kk : hv_V k σ pn lo (.ref (gA k.2.1 i) :: st)) (hp : pn = pc + 3 := by rfl) : hv_V k σ pc lo st := by
  subst hp
  intro H locs ls hR hS g1 g2 hl
  have hsm : ∀ x, k.1.2.2.2.2.1.fieldFound? C n ds = some x → k.1.2.2.2.2.1.fieldFound? ref n ds = some x := by
    rcases hsame with rfl | h
    · exact fun _ h => h
    · exact fun x hx => u_same (X.ts _ h) x hx
  exact va_gets X.1 X.2.1 (X.gs.2.2.2.2.1 i _ hi) hS X.ow (X.ts _ hlink) hsm d (kk H locs ls hR hS g1 g2 hl)
theorem hv_oinit (X : hv_X k cc own nL fr lw ret nm) {index a : Nat} (d : decode cc pc = .ok (.invokespecial index, 3)) (hlink : Cond.methodLink own index objectInit ∈ hv_ws) (hinst : Cond.instanceMethod objectInit ∈ hv_ws) (hcode : Cond.code objectInit ⟨#[0xb1]⟩ 1 none ∈ hv_ws) (hfr : 1 ≤ fr) (hlw : 20 ≤ lw) (hs : (st.map fun v => v.category).sum ≤ 8) (kk : hv_V k σ pn lo st) (hp : pn = pc + 3 := by rfl) : hv_V k σ pc lo (.ref a :: st) := by
  subst hp
  intro H locs ls hR hS g1 g2 hl
  have h1 := X.fr
  have h2 := X.lw
  exact W.objInit X.1 X.2.1 X.ow (X.ts _ hlink) (X.ts _ hinst) (X.ts _ hcode) rfl (by rw [X.2.2.1]; exact hl.1) rfl d (by omega) (by show 2 * 0 + _ + 12 ≤ _; omega) (kk H locs ls hR hS g1 g2 hl)
/-! the end of a method -/
def hv_Qc (G : ho_G) (σ' : ho_H) (r : Option Value) : Array Value → State → Outcome → State → Prop := fun _ st oc t => oc = .returned r ∧ hs_R G σ' t.heap ∧ va_F (gW G) st t
def hv_end (k : mk_T) (σ' : ho_H) (r : Option Value) : Prop := k.2.2.2.1 = MQ k.1.2.2.2.2.2.2.2.1 (hv_Qc k.2.1 σ' r) k.1.2.2.2.2.2.2.1 k.1.2.2.2.2.1 (σ'.1 - k.2.2.1.1) (σ'.2.1 - k.2.2.1.2.1) (gW k.2.1)
theorem hv_iret (X : hv_X k cc own nL fr lw (some .int) nm) {x : Int32} (d : decode cc pc = .ok (.ireturn, 1)) (E : hv_end k σ (some (.int x))) : hv_V k σ pc lo [.int x] := by
  intro H locs ls hR hS g1 g2 hl
  rw [show k.2.2.2.1 = _ from E]
  exact W.iret X.1 X.2.1 X.rt (fun t ht hW => ⟨rfl, by rw [ht]; exact hR, hS.F ht⟩) hS.2.2 d X.lk
theorem hv_zret (X : hv_X k cc own nL fr lw (some .boolean) nm) {x : Int32} (d : decode cc pc = .ok (.ireturn, 1)) (hx : narrow .boolean (.int x) = .int x) (E : hv_end k σ (some (.int x))) : hv_V k σ pc lo [.int x] := by
  intro H locs ls hR hS g1 g2 hl
  rw [show k.2.2.2.1 = _ from E]
  exact W.zret X.1 X.2.1 X.rt hx (fun t ht hW => ⟨rfl, by rw [ht]; exact hR, hS.F ht⟩) hS.2.2 d X.lk
theorem hv_vret (X : hv_X k cc own nL fr lw none nm) (d : decode cc pc = .ok (.return_, 1)) (E : hv_end k σ none) : hv_V k σ pc lo [] := by
  intro H locs ls hR hS g1 g2 hl
  rw [show k.2.2.2.1 = _ from E]
  exact W.vret X.1 X.2.1 X.rt (fun t ht hW => ⟨rfl, by rw [ht]; exact hR, hS.F ht⟩) hS.2.2 d X.lk
theorem hv_aret (X : hv_X k cc own nL fr lw ret nm) {a : Nat} {rt : FieldType} (hrt : ret = some rt) (ho : (∃ n, rt = .object n) ∨ ∃ t, rt = .array t) (d : decode cc pc = .ok (.areturn, 1)) (E : hv_end k σ (some (.ref a))) : hv_V k σ pc lo [.ref a] := by
  intro H locs ls hR hS g1 g2 hl
  rw [show k.2.2.2.1 = _ from E]
  exact W.aret X.1 X.2.1 (X.rt.trans hrt) ho (Or.inr ⟨a, rfl⟩) (fun t ht hW => ⟨rfl, by rw [ht]; exact hR, hS.F ht⟩) hS.2.2 d X.lk
end HV2
