/-! arrays of references, casts, class objects, clone, the switch -/
def ho_rR (G : ho_G) (σ : ho_H) (a kd : Nat) : Option (Nat × (Nat → Option Nat)) := match σ.2.2 a with
  | some (.inl (c, n, .inr (.inr (.inr (.inr f))))) => if c = gc G kd then some (n, f) else none
  | some _ => none
  | none => if a = gA G 4 ∧ kd = 5 then some (0, fun _ => none) else none
theorem ho_rR_E {G : ho_G} {σ : ho_H} {a kd : Nat} {q : Nat × (Nat → Option Nat)} (h : ho_rR G σ a kd = some q) : σ.2.2 a = some (.inl (gc G kd, q.1, .inr (.inr (.inr (.inr q.2))))) ∨ (a = gA G 4 ∧ kd = 5 ∧ q.1 = 0) := by
  unfold ho_rR at h
  split at h
  · next c n f e =>
    split at h
    · next hc => subst hc; rw [e, ← Option.some.inj h]; exact Or.inl rfl
    · cases h
  · cases h
  · split at h
    · next hc => cases h; exact Or.inr ⟨hc.1, hc.2, rfl⟩
    · cases h
def ho_lnQ (G : ho_G) (σ : ho_H) (a kd : Nat) : Option Int32 := (ho_rR G σ a kd).map fun q => Int32.ofNat q.1
def ho_cpR (G : ho_G) (σ : ho_H) (src : Nat) (sp : Int32) (dst : Nat) (dp n : Int32) : Option ho_H := (ho_aR G σ src 5).bind fun q => (ho_aR G σ dst 5).bind fun w => if sp < 0 ∨ dp < 0 ∨ n < 0 ∨ q.1 < sp.toNatClampNeg + n.toNatClampNeg ∨ w.1 < dp.toNatClampNeg + n.toNatClampNeg ∨ ¬ (∀ i, i < n.toNatClampNeg → ((q.2 (sp.toNatClampNeg + i)).all fun y => (ho_f σ y 3).isSome) = true) then none else some (ho_set σ dst (.inl (gc G 5, w.1, .inr (.inr (.inr (.inr (va_cpy q.2 w.2 sp.toNatClampNeg dp.toNatClampNeg n.toNatClampNeg)))))))
def ho_clI (G : ho_G) (σ : ho_H) (a : Nat) : Option (ho_H × Nat) := (ho_aI G σ a 0).bind fun q => ho_al G σ q.1 (.inl (gc G 0, q.1, .inl q.2))
def ho_mx (x y : Int32) : Int32 := if x < y then y else x
def ho_mn (x y : Int32) : Int32 := if y < x then y else x
section HV5
variable {k : mk_T} {cc : ByteArray} {own : String} {nL fr lw : Nat} {ret : Option FieldType} {nm : String} {σ σ' : ho_H} {pc pn : Nat} {lo lo' : List (Option Value)} {st : List Value}
theorem hv_alenQ (X : hv_X k cc own nL fr lw ret nm) {a kd : Nat} {C : String} {x : Int32} (d : decode cc pc = .ok (.arraylength, 1)) (ht : hv_tys[kd]? = some (.object C)) (e : ho_lnQ k.2.1 σ a kd = some x) (kk : hv_V k σ pn lo (.int x :: st)) (hp : pn = pc + 1 := by rfl) : hv_V k σ pc lo (.ref a :: st) := by
  subst hp
  intro H locs ls hR hS g1 g2 hl
  obtain ⟨q, h1, h2⟩ := mp_E e
  rcases ho_rR_E h1 with h | ⟨rfl, h3, h4⟩
  · exact va_alen X.1 X.2.1 X.gs.2.1 (va_P1 (hR.2.2.2 a _ h).2) 0 kd rfl (hv_kt X ht) h2 d (kk H locs ls hR hS g1 g2 hl)
  · obtain ⟨cell, t1, t2, t3, t4, t5, t6, t7⟩ := X.gs.2.2.2.2.2.2.2.1
    rw [h4] at h2
    exact W.alen X.1 X.2.1 (by rw [hS.2.1 _ (Array.getElem?_eq_some_iff.mp t1).1 t7]; exact t1) t2 (t5.trans h2) rfl rfl d (kk H locs ls hR hS g1 g2 hl)
theorem hv_acmp_eq (X : hv_X k cc own nL fr lw ret nm) {x y : Nat} {off : Int} {tgt : Nat} (d : decode cc pc = .ok (.if_acmp .eq off, 3)) (ht : (pc : Int) + off = (tgt : Int)) (kt : (x = y) → hv_V k σ tgt lo st) (kf : ¬ (x = y) → hv_V k σ pn lo st) (hp : pn = pc + 3 := by rfl) : hv_V k σ pc lo (.ref y :: .ref x :: st) := by
  subst hp
  intro H locs ls hR hS g1 g2 hl
  exact lv_acmp_eq (rx := some x) (ry := some y) X.1 X.2.1 d ht (fun h => kt (Option.some.inj h) H locs ls hR hS g1 g2 hl) (fun h => kf (fun q => h (congrArg some q)) H locs ls hR hS g1 g2 hl)
theorem hv_acmp_ne (X : hv_X k cc own nL fr lw ret nm) {x y : Nat} {off : Int} {tgt : Nat} (d : decode cc pc = .ok (.if_acmp .ne off, 3)) (ht : (pc : Int) + off = (tgt : Int)) (kt : (¬ x = y) → hv_V k σ tgt lo st) (kf : ¬ (¬ x = y) → hv_V k σ pn lo st) (hp : pn = pc + 3 := by rfl) : hv_V k σ pc lo (.ref y :: .ref x :: st) := by
  subst hp
  intro H locs ls hR hS g1 g2 hl
  exact lv_acmp_ne (rx := some x) (ry := some y) X.1 X.2.1 d ht (fun h => kt (fun q => h (congrArg some q)) H locs ls hR hS g1 g2 hl) (fun h => kf (fun q => q (Option.some.inj h)) H locs ls hR hS g1 g2 hl)
theorem hv_anew (X : hv_X k cc own nL fr lw ret nm) {n : Int32} {a index kd : Nat} {C : String} (d : decode cc pc = .ok (.anewarray index, 3)) (hw : Cond.classLink own index C ∈ hv_ws) (hov : C ∈ hv_ao) (ht : hv_tys[kd]? = some (.object C)) (e : ho_nwR k.2.1 σ kd n = some (σ', a)) (kk : hv_V k σ' pn lo (.ref a :: st)) (hp : pn = pc + 3 := by rfl) : hv_V k σ pc lo (.int n :: st) := by
  subst hp
  intro H locs ls hR hS g1 g2 hl
  obtain ⟨N, hn, e⟩ := bd_E e
  obtain ⟨n1, n2, n3⟩ := ho_n_E hn
  obtain ⟨a1, a2, a3, a4, a5⟩ := ho_al_E e
  refine W.anew X.1 X.2.1 X.ow (X.ts _ hw) (va_AO.use (X.gs.2.2.2.2.2.2.2.2.2.2.2.2.2.2 _ hov)) rfl d rfl n1 (by omega) (by rw [X.rc]; omega) (by rw [X.rs]; omega) fun cA kA comp h1 h2 h3 h4 => ?_
  have hcA : cA = gc k.2.1 kd := by
    obtain ⟨kA', comp', r1, r2, r3, r4⟩ := (hv_ki X ht).2
    exact Option.some.inj (h1.symm.trans r4)
  subst hcA
  rw [n2]
  have z1 : (H.push { cls := gc k.2.1 kd, slots := Array.replicate N .null, vm := .none }).size = H.size + 1 := Array.size_push _
  have o1 : ∀ q : Nat, q < H.size → (H.push { cls := gc k.2.1 kd, slots := Array.replicate N .null, vm := .none })[q]? = H[q]? := fun q hq => by rw [Array.getElem?_push, if_neg (Nat.ne_of_lt hq)]
  have e1 : (H.push { cls := gc k.2.1 kd, slots := Array.replicate N .null, vm := .none })[H.size]? = some (vp_cell (gc k.2.1 kd) (N, .inr (.inr (.inr (.inr fun _ => none))))) := by
    rw [Array.getElem?_push_size, vp_cell_q]
    exact congrArg some (arrV_new _ _ _)
  obtain ⟨b1, b2, -⟩ := hR.push e (Nat.le_trans X.gs.1 hS.1) z1 o1 e1
  have w := kk _ locs ls b1 (hS.grow (by omega) o1) (by omega) (by omega) hl
  rw [a3, a4, show σ.1 + 1 - k.2.2.1.1 = σ.1 - k.2.2.1.1 + 1 by omega, show σ.2.1 + N - k.2.2.1.2.1 = σ.2.1 - k.2.2.1.2.1 + N by omega, b2] at w
  exact w
theorem hv_any (X : hv_X k cc own nL fr lw ret nm) {v ci : Nat} {fs : List Value} {q : vw_C} {E : String} (hq : vwCl[ci]? = some q) (hca : q.1 = E ∨ (q.1, E) ∈ hv_cast) (hf : ho_f σ v ci = some fs) {H : Heap} (hR : hs_R k.2.1 σ H) : va_Any E k.1.2.2.2.2.1 H v := by
  refine va_rAny X.gs.2.1 (va_P1 (hR.2.2.2 v _ (ho_f_E hf)).2) (q0 := 0) rfl hq ?_
  rcases hca with rfl | hca
  · intro comp c0 h1 h2
    have hK := X.gs.2.1.1 ci q hq
    have e1 : comp = (gD k.2.1).1 ci := Option.some.inj (h1.symm.trans hK.2.1)
    have e2 : c0 = (gD k.2.1).1 ci := Option.some.inj (h2.symm.trans hK.2.1)
    rw [e1, e2]
    exact va_assign hK.2
  · exact vb_asgC (X.gs.2.2.2.2.2.2.2.2.1 _ hca)
theorem hv_aast (X : hv_X k cc own nL fr lw ret nm) {a v kd ci : Nat} {i : Int32} {fs : List Value} {q : vw_C} {E : String} (d : decode cc pc = .ok (.aastore, 1)) (ht : hv_tys[kd]? = some (.object E)) (hq : vwCl[ci]? = some q) (hca : q.1 = E ∨ (q.1, E) ∈ hv_cast) (hf : ho_f σ v ci = some fs) (e : ho_stR k.2.1 σ a kd i (some v) = some σ') (kk : hv_V k σ' pn lo st) (hp : pn = pc + 1 := by rfl) : hv_V k σ pc lo (.ref v :: .int i :: .ref a :: st) := by
  subst hp
  intro H locs ls hR hS g1 g2 hl
  obtain ⟨w, h1, h2⟩ := bd_E e
  obtain ⟨j, hj, h3⟩ := mp_E h2
  obtain ⟨hin, rfl⟩ := ho_ix_E hj
  subst h3
  have hc := hR.2.2.2 a _ (ho_aR_E h1)
  have hlt : i.toNatClampNeg < w.1 := Nat.not_le.mp fun q => hin (Or.inr q)
  have h0 : ¬ i < 0 := fun q => hin (Or.inl q)
  obtain ⟨cellV, g3, g4, ⟨kC, hkC⟩, hasg⟩ := hv_any X hq hca hf hR
  obtain ⟨kA, comp, k1, k2, k3, -⟩ := (hv_ki X ht).2
  obtain ⟨kE, hkE, -⟩ := Vm.findClass_spec k3
  refine W.aast X.1 X.2.1 hc.2 (fun q h => by cases h) (fun h => by cases h) k1 k2 rfl hkE ⟨h0, by show _ < (arrV _ _ _).slots.size; rw [arrV_size]; exact hlt⟩ g3 (fun q h => by rw [h] at g4; cases g4) hkC (hasg _ k3) rfl rfl d fun H1 e z oq => ?_
  refine kk H1 _ ls (hR.set (ho_aR_E h1) z oq ?_) (hS.put z oq hc.1) g1 g2 hl
  show H1[a]? = some (vp_cell _ _)
  rw [e]
  rw [vp_cell_q, vp_cell_q, arrV_store]
  congr 2
  funext q
  by_cases hq : q = i.toNatClampNeg
  · subst hq
    simp [updV, va_up, va_rf]
  · simp [updV, va_up, hq]
theorem hv_aastN (X : hv_X k cc own nL fr lw ret nm) {a kd : Nat} {i : Int32} {E : String} (d : decode cc pc = .ok (.aastore, 1)) (ht : hv_tys[kd]? = some (.object E)) (e : ho_stR k.2.1 σ a kd i none = some σ') (kk : hv_V k σ' pn lo st) (hp : pn = pc + 1 := by rfl) : hv_V k σ pc lo (.null :: .int i :: .ref a :: st) := by
  subst hp
  intro H locs ls hR hS g1 g2 hl
  obtain ⟨w, h1, h2⟩ := bd_E e
  obtain ⟨j, hj, h3⟩ := mp_E h2
  obtain ⟨hin, rfl⟩ := ho_ix_E hj
  subst h3
  have hc := hR.2.2.2 a _ (ho_aR_E h1)
  refine va_WaastN (C := E) X.1 X.2.1 hc.2 ((hv_ki X ht).1 w.1 (fun j => va_rf (w.2 j))) (fun h => by cases h) (by show ¬ (i < 0 ∨ (arrV _ _ _).slots.size ≤ _); rw [arrV_size]; exact hin) rfl rfl d fun H1 e z oq => ?_
  refine kk H1 _ ls (hR.set (ho_aR_E h1) z oq ?_) (hS.put z oq hc.1) g1 g2 hl
  show H1[a]? = some (vp_cell _ _)
  rw [e]
  rw [vp_cell_q, vp_cell_q, arrV_store]
  congr 2
  funext q
  by_cases hq : q = i.toNatClampNeg
  · subst hq
    simp [updV, va_up, va_rf]
  · simp [updV, va_up, hq]
theorem hv_cast_o (X : hv_X k cc own nL fr lw ret nm) {a ci index : Nat} {fs : List Value} {q : vw_C} {E : String} (d : decode cc pc = .ok (.checkcast index, 3)) (hw : Cond.classLink own index E ∈ hv_ws) (hq : vwCl[ci]? = some q) (hca : (q.1, E) ∈ hv_cast) (hf : ho_f σ a ci = some fs) (kk : hv_V k σ pn lo (.ref a :: st)) (hp : pn = pc + 3 := by rfl) : hv_V k σ pc lo (.ref a :: st) := by
  subst hp
  intro H locs ls hR hS g1 g2 hl
  exact va_castY X.1 X.2.1 X.ow (X.ts _ hw) (X.gs.2.2.2.2.2.2.2.2.1 _ hca) (hv_recv X hq hf hR) d (kk H locs ls hR hS g1 g2 hl)
theorem hv_cast_i (X : hv_X k cc own nL fr lw ret nm) {a index : Nat} {q : Nat × (Nat → Int32)} (d : decode cc pc = .ok (.checkcast index, 3)) (hw : Cond.classLink own index "[I" ∈ hv_ws) (hf : ho_aI k.2.1 σ a 0 = some q) (kk : hv_V k σ pn lo (.ref a :: st)) (hp : pn = pc + 3 := by rfl) : hv_V k σ pc lo (.ref a :: st) := by
  subst hp
  intro H locs ls hR hS g1 g2 hl
  exact va_castA X.1 X.2.1 X.ow (X.ts _ hw) (va_P1 (hR.2.2.2 a _ (ho_aI_E hf)).2) 0 rfl (hv_ki X (i := 0) (ty := .int) rfl).2 d (kk H locs ls hR hS g1 g2 hl)
theorem hv_max (X : hv_X k cc own nL fr lw ret nm) {x y : Int32} {index : Nat} (d : decode cc pc = .ok (.invokestatic index, 3)) (hw1 : Cond.methodLink own index Lib.Math.max.name ∈ hv_ws) (hw2 : Cond.static Lib.Math.max.name ∈ hv_ws) (hw3 : Cond.initialized "java/lang/Math" ∈ hv_ws) (hw4 : Cond.code Lib.Math.max.name Lib.Math.max.code 2 (some .int) ∈ hv_ws) (hfr : 1 ≤ fr) (hlw : 21 ≤ lw) (hs : (st.map fun v => v.category).sum ≤ 8) (kk : hv_V k σ pn lo (.int (ho_mx x y) :: st)) (hp : pn = pc + 3 := by rfl) : hv_V k σ pc lo (.int y :: .int x :: st) := by
  subst hp
  intro H locs ls hR hS g1 g2 hl
  have h1 := X.fr
  have h2 := X.lw
  have h3 := hR.2.1
  have h4 := hR.2.2.1
  exact va_mmax X.1 X.2.1 (by rw [X.2.2.1]; exact hl.1.symm) X.ow (X.ts _ hw1) (X.ts _ hw2) (X.ts _ hw3) (X.ts _ hw4) (by omega) (by omega) (by rw [X.rc]; omega) (by rw [X.rs]; omega) d (kk H locs ls hR hS g1 g2 hl)
theorem hv_min (X : hv_X k cc own nL fr lw ret nm) {x y : Int32} {index : Nat} (d : decode cc pc = .ok (.invokestatic index, 3)) (hw1 : Cond.methodLink own index Lib.Math.min.name ∈ hv_ws) (hw2 : Cond.static Lib.Math.min.name ∈ hv_ws) (hw3 : Cond.initialized "java/lang/Math" ∈ hv_ws) (hw4 : Cond.code Lib.Math.min.name Lib.Math.min.code 2 (some .int) ∈ hv_ws) (hfr : 1 ≤ fr) (hlw : 21 ≤ lw) (hs : (st.map fun v => v.category).sum ≤ 8) (kk : hv_V k σ pn lo (.int (ho_mn x y) :: st)) (hp : pn = pc + 3 := by rfl) : hv_V k σ pc lo (.int y :: .int x :: st) := by
  subst hp
  intro H locs ls hR hS g1 g2 hl
  have h1 := X.fr
  have h2 := X.lw
  have h3 := hR.2.1
  have h4 := hR.2.2.1
  exact va_mmin X.1 X.2.1 (by rw [X.2.2.1]; exact hl.1.symm) X.ow (X.ts _ hw1) (X.ts _ hw2) (X.ts _ hw3) (X.ts _ hw4) (by omega) (by omega) (by rw [X.rc]; omega) (by rw [X.rs]; omega) d (kk H locs ls hR hS g1 g2 hl)
theorem hv_ldcM (X : hv_X k cc own nL fr lw ret nm) {index : Nat} (d : decode cc pc = .ok (.ldc index, 2)) (hw : Cond.classLink own index "[Ljava/lang/Object;" ∈ hv_ws) (kk : hv_V k σ pn lo (.ref (gA k.2.1 5) :: st)) (hp : pn = pc + 2 := by rfl) : hv_V k σ pc lo st := by
  subst hp
  intro H locs ls hR hS g1 g2 hl
  exact va_ldcM X.1 X.2.1 X.ow (X.ts _ hw) X.gs.2.2.2.2.2.2.2.2.2.2.2.2.2.1 d (kk H locs ls hR hS g1 g2 hl)
theorem hv_getC (X : hv_X k cc own nL fr lw ret nm) {a index : Nat} {q : Nat × (Nat → Option Nat)} (d : decode cc pc = .ok (.invokevirtual index, 3)) (hw1 : Cond.methodLink own index ⟨"java/lang/Object", "getClass", "()Ljava/lang/Class;"⟩ ∈ hv_ws) (hd : (⟨"java/lang/Object", "getClass", "()Ljava/lang/Class;"⟩ : MethodName) ∈ hv_decl) (hw2 : Cond.selects "[Ljava/lang/Object;" ⟨"java/lang/Object", "getClass", "()Ljava/lang/Class;"⟩ ⟨"java/lang/Object", "getClass", "()Ljava/lang/Class;"⟩ ∈ hv_ws) (hw3 : Cond.instanceMethod ⟨"java/lang/Object", "getClass", "()Ljava/lang/Class;"⟩ ∈ hv_ws) (hw4 : Cond.native ⟨"java/lang/Object", "getClass", "()Ljava/lang/Class;"⟩ ∈ hv_ws) (hf : ho_aR k.2.1 σ a 5 = some q) (hfr : 1 ≤ fr) (hlw : 22 ≤ lw) (hs : (st.map fun v => v.category).sum ≤ 8) (kk : hv_V k σ pn lo (.ref (gA k.2.1 5) :: st)) (hp : pn = pc + 3 := by rfl) : hv_V k σ pc lo (.ref a :: st) := by
  subst hp
  intro H locs ls hR hS g1 g2 hl
  have h1 := X.fr
  have h2 := X.lw
  exact va_getC X.1 X.2.1 (by rw [X.2.2.1]; exact hl.1.symm) X.ow (X.ts _ hw1) (va_Nw.use rfl (X.gs.2.2.2.2.2.2.2.2.2.1 _ hd)) (X.ts _ hw2) (X.ts _ hw3) (X.ts _ hw4) X.gs.2.2.2.2.2.2.2.2.2.2.2.2.2.1 ⟨_, (hR.2.2.2 a _ (ho_aR_E hf)).2, rfl, va_nmO (hv_ki X (i := 5) (ty := .object "java/lang/Object") rfl).2 (by decide)⟩ (by omega) (by omega) d (kk H locs ls hR hS g1 g2 hl)
theorem hv_tsw_in (X : hv_X k cc own nL fr lw ret nm) {x : Int32} {dflt a b n off : Int} {offs : Array Int} {len tgt : Nat} (d : decode cc pc = .ok (.tableswitch dflt a b offs, len)) (hx : x.toInt = n) (h1 : ¬ n < a) (h2 : ¬ b < n) (ho : offs[(n - a).toNat]? = some off) (ht : (pc : Int) + off = (tgt : Int)) (kk : hv_V k σ tgt lo st) : hv_V k σ pc lo (.int x :: st) := by
  subst hx
  intro H locs ls hR hS g1 g2 hl
  exact lv_tableIn X.1 X.2.1 d h1 h2 ho ht (kk H locs ls hR hS g1 g2 hl)
theorem hv_tsw_out (X : hv_X k cc own nL fr lw ret nm) {x : Int32} {dflt a b : Int} {offs : Array Int} {len tgt : Nat} (d : decode cc pc = .ok (.tableswitch dflt a b offs, len)) (h : x.toInt < a ∨ b < x.toInt) (ht : (pc : Int) + dflt = (tgt : Int)) (kk : hv_V k σ tgt lo st) : hv_V k σ pc lo (.int x :: st) := by
  intro H locs ls hR hS g1 g2 hl
  exact lv_tableOut X.1 X.2.1 d h ht (kk H locs ls hR hS g1 g2 hl)
theorem hv_lsw (X : hv_X k cc own nL fr lw ret nm) {x : Int32} {dflt off : Int} {ps : Array (Int × Int)} {len tgt : Nat} (d : decode cc pc = .ok (.lookupswitch dflt ps, len)) (hp : (ps.toList.zip (ps.toList.drop 1)).all (fun (a, next) => a.1 < next.1) = true) (ho : Op.lookupswitch.offset ps.toList dflt x.toInt = off) (ht : (pc : Int) + off = (tgt : Int)) (kk : hv_V k σ tgt lo st) : hv_V k σ pc lo (.int x :: st) := by
  intro H locs ls hR hS g1 g2 hl
  exact lv_lookup X.1 X.2.1 d hp ho ht (kk H locs ls hR hS g1 g2 hl)
theorem sw_out {x : Int32} {n : Nat} (hn : n < 2 ^ 31) (h : ∀ j : Nat, j < n → ¬ x = nI j) : x.toInt < 0 ∨ ((n : Int) - 1) < x.toInt := by
  by_cases h0 : x.toInt < 0
  · exact Or.inl h0
  · refine Or.inr ?_
    by_cases h1 : (n : Int) - 1 < x.toInt
    · exact h1
    · exfalso
      have hj : x.toInt.toNat < n := by omega
      refine h _ hj (Int32.toInt_inj.mp ?_)
      rw [nI_toInt (by omega)]
      omega
end HV5
theorem sw_out2 {x : Int32} {a n : Nat} (hn : a + n < 2 ^ 31) (h : ∀ j : Nat, j < n → ¬ x = nI (a + j)) : x.toInt < (a : Int) ∨ (((a + n : Nat) : Int) - 1) < x.toInt := by
  by_cases h0 : x.toInt < (a : Int)
  · exact Or.inl h0
  · refine Or.inr ?_
    by_cases h1 : ((a + n : Nat) : Int) - 1 < x.toInt
    · exact h1
    · exfalso
      have hj : x.toInt.toNat - a < n := by omega
      refine h _ hj (Int32.toInt_inj.mp ?_)
      rw [nI_toInt (by omega)]
      omega
