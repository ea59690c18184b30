/-! methods with handlers -/
theorem hw_met {l : Launch} {G : ho_G} {y : MethodName} {cc : ByteArray} {maxL : Nat} {ret : Option FieldType} {hh : List (Nat × Nat × Nat × Nat)} {fr lw : Nat} {av : List Value} {σ σ' : ho_H} {r : Option Value} (lo : List (Option Value)) (hy : plainName y.cls = true) (hcat : ∀ v ∈ av, v.category = 1) (hlen : (lg_sl av).length ≤ maxL) (hlo : lo = av.map some ++ List.replicate (maxL - av.length) none)
    (body : ∀ k : mk_T, hv_X k cc y.cls maxL fr lw ret y.name → k.1.2.2.2.2.2.2.2.2.2.exceptionTable.toList = tableOf hh → k.1.2.1 = l → k.2.1 = G → hv_end k σ' r → hv_V k σ 0 lo []) : hv_C l G y (Cond.codeWith y cc maxL ret hh :: hv_ws) fr lw av σ σ' r := by
  refine va_MetW (cc := cc) (maxL := maxL) (ret := ret) (hh := hh) hy rfl ?_
  intro p e s m args below meth c s₁ B hml hv
  obtain ⟨rfl, hR, hG⟩ := hv
  have hts := atoms_spec (ws := Cond.codeWith y cc maxL ret hh :: hv_ws) B.pre
  have htab := vx_table (x := y) B (hts _ List.mem_cons_self)
  have hown : s.vm.findClass y.cls = some m.cls := findClass_of_methodNamed B.named
  have hl := lv_entry av (n := maxL) hlen
  rw [lg_entry_eq]
  subst hlo
  have w := body ((p, l, e, (headSpec (Cond.codeWith y cc maxL ret hh :: hv_ws) { frames := fr, cells := gC G - σ.1, slots := gS G - σ.2.1, locals := lw }).room, s, m, av.toArray, below, meth, c), G, σ, MQ below (hv_Qc G σ' r) av.toArray s (σ'.1 - σ.1) (σ'.2.1 - σ.2.1) (gW G), maxL)
    ⟨B.exec, B.bytes, hml, hown, fun w h => hts w (List.mem_cons_of_mem _ h), hG, hR.1, rfl, rfl, Nat.le_refl _, Nat.le_refl _, B.returns, B.notSynchronized, rfl, (name_of_methodNamed B.named B.method).1⟩ htab rfl rfl rfl
    s.heap [] _ hR va_S.rf (Nat.le_refl _) (Nat.le_refl _) (lo_has.pad (lo_has.of hl hcat))
  simp only [Nat.sub_self] at w
  exact w
/-- who takes exception i at pc -/
def hw_h (own : String) (hh : List (Nat × Nat × Nat × Nat)) (pc i hp : Nat) : Prop := ∃ (E : String) (pre : List ExceptionTableEntry) (x : ExceptionTableEntry) (suf : List ExceptionTableEntry) (name : String), hv_exc[i]? = some E ∧ tableOf hh = pre ++ x :: suf ∧ (∀ z ∈ pre, z.catchType ≠ 0 ∧ ∃ nm : String, Cond.classLink own z.catchType nm ∈ hv_ws ∧ (E, nm) ∈ hv_ncast) ∧ covers x pc = true ∧ x.catchType ≠ 0 ∧ Cond.classLink own x.catchType name ∈ hv_ws ∧ (E, name) ∈ hv_cast ∧ x.handlerPc = hp
section HW
variable {k : mk_T} {cc : ByteArray} {own : String} {nL fr lw : Nat} {ret : Option FieldType} {nm : String} {σ σ' : ho_H} {pc pn : Nat} {lo lo' : List (Option Value)} {st sti : List Value} {index maxL fr' lw' : Nat} {y : MethodName} {bytes : ByteArray} {rt : Option FieldType} {av : List Value} {r : Option Value}
theorem hw_call (X : hv_X k cc own nL fr lw ret nm) {hh : List (Nat × Nat × Nat × Nat)} (HT : k.1.2.2.2.2.2.2.2.2.2.exceptionTable.toList = tableOf hh) {b ci : Nat} {as fs : List Value} {q : vw_C} {o : Nat ⊕ Option Value} (d : decode cc pc = .ok (.invokevirtual index, 3)) (hc : hx_C k.1.2.1 k.2.1 y (Cond.code y bytes maxL rt :: hv_ws) fr' lw' (.ref b :: as) σ σ' o) (hy : hv_cs own index y bytes maxL rt as.length) (hinst : Cond.instanceMethod y ∈ hv_ws) (hq : vwCl[ci]? = some q) (hsel : Cond.selects q.1 y y ∈ hv_ws) (hlk : Cond.methodLink own index y ∈ hv_ws) (hf : ho_f σ b ci = some fs) (hfr : fr' + 1 ≤ fr) (hlw : 8 + (maxL + 11) + lw' ≤ lw) (hm : σ.1 ≤ σ'.1 ∧ σ.2.1 ≤ σ'.2.1) (hs : (st.map fun v => v.category).sum ≤ 8)
    (kr : ∀ r, o = .inr r → hv_V k σ' pn lo (r.toList ++ st)) (kx : ∀ i, o = .inl i → ∃ hp, hw_h own hh pc i hp ∧ ∀ z : Nat, hv_V k σ' hp lo [.ref z]) (hst : sti = as.reverse ++ .ref b :: st := by rfl) (hp : pn = pc + 3 := by rfl) : hv_V k σ pc lo sti := by
  subst hp
  intro H locs ls hR hS g1 g2 hl T hT XT
  have h1 := X.fr
  have h2 := X.lw
  have ok : ∀ w ∈ hv_ws, ∀ (a' : Array Value) (U : State), k.1.2.2.2.2.1.WarmedH U.vm → w.before a' U = true := fun w hw a' U hW => word_at hW (hv_good w hw) (X.ts w hw)
  have hK : vx_Back k.1.2.1 k.1.2.2.2.1 k.1.1 k.1.2.2.1 k.1.2.2.2.2.2.2.2.1 k.1.2.2.2.2.1 k.1.2.2.2.2.2.2.1 y 3 8 (PreOf k.1.2.2.2.1 (gC k.2.1 - σ.1) (gS k.2.1 - σ.2.1) (va_Pc (.ref b :: as) (fun U => hs_R k.2.1 σ U.heap ∧ gs_ok k.2.1 U U.heap))) (PostOf (hx_Qc k.2.1 σ' o) (σ'.1 - σ.1) (σ'.2.1 - σ.2.1) (gW k.2.1)) (vx_Post (hx_XC k.2.1 σ' o) (σ'.1 - σ.1) (σ'.2.1 - σ.2.1) (gW k.2.1)) :=
    my_vback (bytes := bytes) (maxL := maxL) (ret := rt) hc hv_blind (by show fr' + 1 ≤ _; omega) (by show 8 + (maxL + 11) + lw' ≤ _; omega)
      (fun w hw => by rcases List.mem_cons.mp hw with rfl | hw; · exact ok _ hy.1
                      · exact ok w hw) List.mem_cons_self (ok _ hy.2.1)
  obtain ⟨w1, w2, w3, w4, -⟩ := hy
  obtain ⟨cellB, c1, c2, c3⟩ := hv_recv X hq hf hR
  have hn : ∀ sig, parseMethodDescriptor y.desc = some sig → as.length = sig.parameters.length := fun sig h => by
    rw [h] at w4
    exact (Option.some.inj w4).symm
  rcases vx_callV XT X.1 (bytes := bytes) (maxL := maxL) (ret := rt) X.ow (X.ts _ hlk) (X.ts _ hinst) (X.ts _ hsel) (X.ts _ w1) w3 hK (by rw [hT]; exact c1) c2 c3 rfl (by rw [X.2.2.1]; exact hl.1) (argsL := as) (rest := st) hn hst (lv_room hs) (by rw [X.2.1]; exact d) (fun vm₁ hW₁ => hv_pre X hR hS g1 g2 hT hW₁) with ⟨v, vm₁, ⟨U', l2, c2', s2⟩, hW₁, X', ⟨g', mk, t, L, e1, e2, hq, z1, hL, z2, z3⟩, stp⟩ | ⟨q9, vm₁, ⟨U', l2, c2', s2⟩, hW₁, X', ⟨g', mk, t, L, E, ce, e1, e2, hq, hce, hcv, hcl, z1, hL, z2, z3⟩, stp⟩
  · dsimp only [Pt.U, Pt.locs, Pt.cells, Pt.slots] at X' e1 e2 z1 z2 z3 stp
    subst z1; subst z2; subst z3
    obtain ⟨r, rfl, hv, hR', hF⟩ := hq
    cases hv
    exact hv_after X hm (kr v rfl) hR hS g1 g2 hl hT (st0 := (T.setVm vm₁).calling g' mk (Value.ref b :: as).toArray) hT e1 (r := v) (av := .ref b :: as) ⟨rfl, hR', hF⟩ hL X' stp
  · dsimp only [Pt.U, Pt.locs, Pt.cells, Pt.slots] at X' e1 e2 z1 z2 z3 stp hcl
    subst z1; subst z2; subst z3
    obtain ⟨i, rfl, hE, hR', hz, hk⟩ := hq
    obtain ⟨hp, ⟨E', pre, x, suf, name, y1, y2, y3, y4, y5, y6, y7, rfl⟩, hV⟩ := kx i rfl
    cases hE.symm.trans y1
    have h0 : ((T.setVm vm₁).calling g' mk (Value.ref b :: as).toArray).heap = H := hT
    rw [h0] at hz hk
    have w := hV q9 U'.heap (locs ++ L) ls (by rw [e1]; exact hR') ⟨Nat.le_trans hS.1 (by rw [e1]; exact hz), fun q a1 a2 => by rw [e1, hk q (Nat.lt_of_lt_of_le a1 hS.1) a2]; exact hS.2.1 q a1 a2, fun q hq => by
        rcases List.mem_append.mp hq with h | h
        · exact hS.2.2 q h
        · exact hL q h⟩ (by omega) (by omega) hl
    rw [show σ'.1 - k.2.2.1.1 = σ.1 - k.2.2.1.1 + (σ'.1 - σ.1) by omega, show σ'.2.1 - k.2.2.1.2.1 = σ.2.1 - k.2.2.1.2.1 + (σ'.2.1 - σ.2.1) by omega] at w
    have hcl' : k.1.2.2.2.2.1.vm.findClass E = some ce.cls := vx_cls hW₁ hcl
    obtain ⟨t2, a1, b1⟩ := vx_catch (own := own) (pc := pc) (rest := st) (ce := ce) X.ow pre x suf (HT.trans y2) (fun z hz => Or.inr ⟨(y3 z hz).1, by
        obtain ⟨-, nm9, n1, n2⟩ := y3 z hz
        exact ⟨nm9, X.ts _ n1, X.gs.2.2.2.2.2.2.2.2.2.2.1 _ n2⟩⟩) y4 y5 (X.ts _ y6) (va_Nw.use rfl (X.gs.2.2.2.2.2.2.2.2.1 _ y7)) (by rw [e1]; exact hce) hcv hcl' w U' rfl X'
    exact ⟨t2, stp.trans a1, b1⟩
theorem hw_bk (X : hv_X k cc own nL fr lw ret nm) {hh : List (Nat × Nat × Nat × Nat)} (hc : hv_C k.1.2.1 k.2.1 y (Cond.codeWith y bytes maxL rt hh :: hv_ws) fr' lw' av σ σ' r) (hcw : Cond.codeWith y bytes maxL rt hh ∈ hv_ws) (hini : Cond.initialized y.cls ∈ hv_ws) (hfr : fr' + 1 ≤ fr) (hlw : 8 + (maxL + 11) + lw' ≤ lw) :
    Back k.1.2.1 k.1.2.2.2.1 k.1.1 k.1.2.2.1 k.1.2.2.2.2.2.2.2.1 k.1.2.2.2.2.1 k.1.2.2.2.2.2.2.1 y 3 8 (PreOf k.1.2.2.2.1 (gC k.2.1 - σ.1) (gS k.2.1 - σ.2.1) (va_Pc av (fun U => hs_R k.2.1 σ U.heap ∧ gs_ok k.2.1 U U.heap))) (PostOf (hv_Qc k.2.1 σ' r) (σ'.1 - σ.1) (σ'.2.1 - σ.2.1) (gW k.2.1)) := by
  have h1 := X.fr
  have h2 := X.lw
  have ok : ∀ w ∈ hv_ws, ∀ (a' : Array Value) (U : State), k.1.2.2.2.2.1.WarmedH U.vm → w.before a' U = true := fun w hw a' U hW => word_at hW (hv_good w hw) (X.ts w hw)
  refine va_ofFreeW (hh := hh) (S := headSpec (Cond.codeWith y bytes maxL rt hh :: hv_ws) { frames := fr', cells := gC k.2.1 - σ.1, slots := gS k.2.1 - σ.2.1, locals := lw' }) (P := va_Pc av (fun U => hs_R k.2.1 σ U.heap ∧ gs_ok k.2.1 U U.heap)) (K := fun _ _ _ _ _ => True) (Q := fun a st o t => hv_Qc k.2.1 σ' r a st o t ∧ ∃ L, FrameEnd st o t L (σ'.1 - σ.1) (σ'.2.1 - σ.2.1) ∧ ∀ q ∈ L, gW k.2.1 q.base) (bytes := bytes) (maxL := maxL) (ret := rt)
    (E := fun a st o t L k' n => k' = σ'.1 - σ.1 ∧ n = σ'.2.1 - σ.2.1 ∧ ∀ q ∈ L, gW k.2.1 q.base) hc (by show fr' + 1 ≤ _; omega) (by show 8 + (maxL + 11) + lw' ≤ _; omega) ?_ ?_ (fun _ _ _ _ _ _ _ _ _ => trivial) ?_ ?_
  · intro m meth c A a Y hp
    exact ⟨atoms_intro fun w hw => by
      rcases List.mem_cons.mp hw with rfl | hw
      · exact ok _ hcw _ _ Y.warmed
      · exact ok w hw _ _ Y.warmed, ok _ hcw _ _ Y.warmed, ok _ hini _ _ Y.warmed, hp.1, hp.2.1⟩
  · intro m meth c A a g mk Y hp
    exact hv_blind _ _ _ _ hp.2.2
  · intro a st o t ⟨hq, L, hF, hL⟩
    exact ⟨L, _, _, hF, rfl, rfl, hL⟩
  · intro m meth c A a g mk v t L k' n Y hp hq hF ⟨e1, e2, hL⟩
    subst e1; subst e2
    exact ⟨g, mk, t, L, rfl, rfl, hq.1, rfl, hL, rfl, rfl⟩
theorem hw_callS (X : hv_X k cc own nL fr lw ret nm) {hh : List (Nat × Nat × Nat × Nat)} (d : decode cc pc = .ok (.invokestatic index, 3)) (hc : hv_C k.1.2.1 k.2.1 y (Cond.codeWith y bytes maxL rt hh :: hv_ws) fr' lw' av σ σ' r) (hcw : Cond.codeWith y bytes maxL rt hh ∈ hv_ws) (hini : Cond.initialized y.cls ∈ hv_ws) (hsta : Cond.static y ∈ hv_ws) (hlk : Cond.methodLink own index y ∈ hv_ws) (hy : y.cls ≠ "java/lang/invoke/MethodHandle" ∧ y.cls ≠ "java/lang/invoke/VarHandle") (hln : (parseMethodDescriptor y.desc).map (fun d => d.parameters.length) = some av.length) (hfr : fr' + 1 ≤ fr) (hlw : 8 + (maxL + 11) + lw' ≤ lw) (hm : σ.1 ≤ σ'.1 ∧ σ.2.1 ≤ σ'.2.1) (hs : (st.map fun v => v.category).sum ≤ 8) (kk : hv_V k σ' pn lo (r.toList ++ st)) (hst : sti = av.reverse ++ st := by rfl) (hp : pn = pc + 3 := by rfl) : hv_V k σ pc lo sti := by
  subst hp
  intro H locs ls hR hS g1 g2 hl T hT XT
  have hK := hw_bk X hc hcw hini hfr hlw
  have hn : ∀ sig, parseMethodDescriptor y.desc = some sig → av.length = sig.parameters.length := fun sig h => by
    rw [h] at hln
    exact (Option.some.inj hln).symm
  obtain ⟨v, vm₁, ⟨U', l2, c2, s2⟩, hW₁, X', ⟨g', mk, t, L, e1, e2, hq, h1, hL, h2, h3⟩, stp⟩ := vx_callSW XT X.1 (bytes := bytes) (maxL := maxL) (ret := rt) X.ow (X.ts _ hlk) (X.ts _ hsta) (X.ts _ hini) (X.ts _ hcw) hy hK rfl (by rw [X.2.2.1]; exact hl.1) (argsL := av) (rest := st) hn hst (lv_room hs) (by rw [X.2.1]; exact d) (fun vm₁ hW₁ => hv_pre X hR hS g1 g2 hT hW₁)
  dsimp only [Pt.U, Pt.locs, Pt.cells, Pt.slots] at X' e1 e2 h1 h2 h3 stp
  subst h1; subst h2; subst h3
  exact hv_after X hm kk hR hS g1 g2 hl hT (st0 := (T.setVm vm₁).calling g' mk av.toArray) hT e1 hq hL X' stp
end HW
