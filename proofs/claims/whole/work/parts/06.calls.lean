/-! contracts and calls -/
def hv_C (l : Launch) (G : ho_G) (y : MethodName) (ws : List Cond) (fr lw : Nat) (av : List Value) (σ σ' : ho_H) (r : Option Value) : Prop :=
  Met l y ws { frames := fr, cells := gC G - σ.1, slots := gS G - σ.2.1, locals := lw } (va_Pc av (fun U => hs_R G σ U.heap ∧ gs_ok G U U.heap)) (hv_Qc G σ' r) (σ'.1 - σ.1) (σ'.2.1 - σ.2.1) (gW G)
theorem lo_has.pad {ls : Array Slot} {nL n : Nat} {lo : List (Option Value)} (h : lo_has ls nL lo) : lo_has ls nL (lo ++ List.replicate n none) := by
  refine ⟨h.1, h.2.1, fun i v hi => h.2.2 i v ?_⟩
  by_cases hl : i < lo.length
  · rw [List.getElem?_append_left hl] at hi
    exact hi
  · rw [List.getElem?_append_right (by omega)] at hi
    have := List.mem_of_getElem? hi
    simp at this
theorem hv_met {l : Launch} {G : ho_G} {y : MethodName} {cc : ByteArray} {maxL : Nat} {ret : Option FieldType} {fr lw : Nat} {av : List Value} {σ σ' : ho_H} {r : Option Value} (lo : List (Option Value)) (hy : plainFor y = true) (hcat : ∀ v ∈ av, v.category = 1) (hlen : (lg_sl av).length ≤ maxL) (hlo : lo = av.map some ++ List.replicate (maxL - av.length) none)
    (body : ∀ k : mk_T, hv_X k cc y.cls maxL fr lw ret y.name → k.1.2.1 = l → k.2.1 = G → hv_end k σ' r → hv_V k σ 0 lo []) : hv_C l G y (Cond.code y cc maxL ret :: hv_ws) fr lw av σ σ' r := by
  refine va_MetF (cc := cc) (maxL := maxL) (ret := ret) hy rfl ?_
  intro p e s m args below meth c s₁ B hml hv
  obtain ⟨rfl, hR, hG⟩ := hv
  have hts := atoms_spec (ws := Cond.code y cc maxL ret :: hv_ws) B.pre
  have hown : s.vm.findClass y.cls = some m.cls := findClass_of_methodNamed B.named
  have hl := lv_entry av (n := maxL) hlen
  rw [lg_entry_eq]
  subst hlo
  have w := body ((p, l, e, (headSpec (Cond.code y cc maxL ret :: hv_ws) { frames := fr, cells := gC G - σ.1, slots := gS G - σ.2.1, locals := lw }).room, s, m, av.toArray, below, meth, c), G, σ, MQ below (hv_Qc G σ' r) av.toArray s (σ'.1 - σ.1) (σ'.2.1 - σ.2.1) (gW G), maxL)
    ⟨B.exec, B.bytes, hml, hown, fun w h => hts w (List.mem_cons_of_mem _ h), hG, hR.1, rfl, rfl, Nat.le_refl _, Nat.le_refl _, B.returns, B.notSynchronized, rfl, (name_of_methodNamed B.named B.method).1⟩ rfl rfl rfl
    s.heap [] _ hR va_S.rf (Nat.le_refl _) (Nat.le_refl _) (lo_has.pad (lo_has.of hl hcat))
  simp only [Nat.sub_self] at w
  exact w
theorem my_back {l : Launch} {R : Room} {p : Program} {e : Env} {below : List Frame} {s : State} {sargs : Array Value} {y : MethodName} {len W : Nat} {ws : List Cond} {rm : Room} {Pc : Array Value → State → Prop} {Qc : Array Value → State → Outcome → State → Prop} {mc ms : Nat} {free : Addr → Prop} {bytes : ByteArray} {maxL : Nat} {ret : Option FieldType}
    (hM : Met l y ws rm Pc Qc mc ms free) (hblind : FrameBlind Pc) (hframes : rm.frames + 1 ≤ R.frames) (hlocals : W + (maxL + 11) + rm.locals ≤ R.locals)
    (hws : ∀ w ∈ ws, ∀ a' U, s.WarmedH U.vm → w.before a' U = true) (hcode : Cond.code y bytes maxL ret ∈ ws) (hinit : ∀ a' U, s.WarmedH U.vm → (Cond.initialized y.cls).before a' U = true) :
    Back l R p e below s sargs y len W (PreOf R rm.cells rm.slots Pc) (PostOf Qc mc ms free) := by
  refine Back.of_free (S := headSpec ws rm) (P := Pc) (K := fun _ _ _ _ _ => True) (Q := fun a st o t => Qc a st o t ∧ ∃ L, FrameEnd st o t L mc ms ∧ ∀ q ∈ L, free q.base) (bytes := bytes) (maxL := maxL) (ret := ret)
    (E := fun a st o t L k n => k = mc ∧ n = ms ∧ ∀ q ∈ L, free q.base) hM hframes hlocals ?_ ?_ (fun _ _ _ _ _ _ _ _ _ => trivial) ?_ ?_
  · intro m meth c A a X hp
    exact ⟨atoms_intro fun w hw => hws w hw _ _ X.warmed, hws _ hcode _ _ X.warmed, hinit _ _ X.warmed, hp.1, hp.2.1⟩
  · intro m meth c A a g mk X hp
    exact hblind _ _ _ _ hp.2.2
  · intro a st o t ⟨hq, L, hF, hL⟩
    exact ⟨L, mc, ms, hF, rfl, rfl, hL⟩
  · intro m meth c A a g mk v t L k n X hp hq hF ⟨e1, e2, hL⟩
    subst e1; subst e2
    exact ⟨g, mk, t, L, rfl, rfl, hq.1, rfl, hL, rfl, rfl⟩
theorem hv_blind {G : ho_G} {σ : ho_H} {av : List Value} : FrameBlind (va_Pc av (fun U => hs_R G σ U.heap ∧ gs_ok G U U.heap)) := fun a U g mk q => by
  obtain ⟨q0, q1, q2⟩ := q
  exact ⟨q0, q1, gs_ok.self q2 rfl⟩
section HV3
variable {k : mk_T} {cc : ByteArray} {own : String} {nL fr lw : Nat} {ret : Option FieldType} {nm : String} {σ σ' : ho_H} {pc pn : Nat} {lo lo' : List (Option Value)} {st sti : List Value} {index maxL fr' lw' : Nat} {y : MethodName} {bytes : ByteArray} {rt : Option FieldType} {av : List Value} {r : Option Value}
theorem hv_bk (X : hv_X k cc own nL fr lw ret nm) (hc : hv_C k.1.2.1 k.2.1 y (Cond.code y bytes maxL rt :: hv_ws) fr' lw' av σ σ' r) {n : Nat} (hy : hv_cs own index y bytes maxL rt n) (hfr : fr' + 1 ≤ fr) (hlw : 8 + (maxL + 11) + lw' ≤ lw) :
    Back k.1.2.1 k.1.2.2.2.1 k.1.1 k.1.2.2.1 k.1.2.2.2.2.2.2.2.1 k.1.2.2.2.2.1 k.1.2.2.2.2.2.2.1 y 3 8 (PreOf k.1.2.2.2.1 (gC k.2.1 - σ.1) (gS k.2.1 - σ.2.1) (va_Pc av (fun U => hs_R k.2.1 σ U.heap ∧ gs_ok k.2.1 U U.heap))) (PostOf (hv_Qc k.2.1 σ' r) (σ'.1 - σ.1) (σ'.2.1 - σ.2.1) (gW k.2.1)) := by
  have h1 := X.fr
  have h2 := X.lw
  have ok : ∀ w ∈ hv_ws, ∀ (a' : Array Value) (U : State), k.1.2.2.2.2.1.WarmedH U.vm → w.before a' U = true := fun w hw a' U hW => word_at hW (hv_good w hw) (X.ts w hw)
  exact my_back (bytes := bytes) (maxL := maxL) (ret := rt) hc hv_blind (by show fr' + 1 ≤ _; omega) (by show 8 + (maxL + 11) + lw' ≤ _; omega)
    (fun w hw => by rcases List.mem_cons.mp hw with rfl | hw; · exact ok _ hy.1
                    · exact ok w hw) List.mem_cons_self (ok _ hy.2.1)
/-- behind a call -/
theorem hv_after (X : hv_X k cc own nL fr lw ret nm) (hm : σ.1 ≤ σ'.1 ∧ σ.2.1 ≤ σ'.2.1) (kk : hv_V k σ' (pc + 3) lo (r.toList ++ st)) {H : Heap} {locs : List Loc} {ls : Array Slot} (hR : hs_R k.2.1 σ H) (hS : va_S (gW k.2.1) k.1.2.2.2.2.1.heap H locs) (g1 : k.2.2.1.1 ≤ σ.1) (g2 : k.2.2.1.2.1 ≤ σ.2.1) (hl : lo_has ls k.2.2.2.2 lo)
    {T U' t st0 : State} {L : List Loc} {v : Option Value} (hT : T.heap = H) (h0 : st0.heap = H) (e1 : U'.heap = t.heap) (hq : hv_Qc k.2.1 σ' r av.toArray st0 (.returned v) t) (hL : ∀ q ∈ L, gW k.2.1 q.base)
    (X' : Stand k.1.1 k.1.2.1 k.1.2.2.1 k.1.2.2.2.1 k.1.2.2.2.2.1 k.1.2.2.2.2.2.1 k.1.2.2.2.2.2.2.1 k.1.2.2.2.2.2.2.2.1 k.1.2.2.2.2.2.2.2.2.1 k.1.2.2.2.2.2.2.2.2.2 U' (locs ++ L) (σ.1 - k.2.2.1.1 + (σ'.1 - σ.1)) (σ.2.1 - k.2.2.1.2.1 + (σ'.2.1 - σ.2.1)))
    (stp : ∀ target, Steps k.1.1.tables k.1.2.2.1 k.1.2.2.2.2.2.2.2.1 (U'.setTop { F0 k.1.2.2.2.2.2.1 pc ls sti with pc := pc + 3, stack := v.toList ++ st }) target → Steps k.1.1.tables k.1.2.2.1 k.1.2.2.2.2.2.2.2.1 (T.setTop (F0 k.1.2.2.2.2.2.1 pc ls sti)) target) :
    ∃ t, Steps k.1.1.tables k.1.2.2.1 k.1.2.2.2.2.2.2.2.1 (T.setTop (F0 k.1.2.2.2.2.2.1 pc ls sti)) t ∧ k.2.2.2.1 t := by
  obtain ⟨hv, hR', hz, hk⟩ := hq
  cases hv
  rw [h0] at hz hk
  have w := kk U'.heap (locs ++ L) ls (by rw [e1]; exact hR') ⟨Nat.le_trans hS.1 (by rw [e1]; exact hz), fun q a1 a2 => by rw [e1, hk q (Nat.lt_of_lt_of_le a1 hS.1) a2]; exact hS.2.1 q a1 a2, fun q hq => by
      rcases List.mem_append.mp hq with h | h
      · exact hS.2.2 q h
      · exact hL q h⟩ (by omega) (by omega) hl
  rw [show σ'.1 - k.2.2.1.1 = σ.1 - k.2.2.1.1 + (σ'.1 - σ.1) by omega, show σ'.2.1 - k.2.2.1.2.1 = σ.2.1 - k.2.2.1.2.1 + (σ'.2.1 - σ.2.1) by omega] at w
  obtain ⟨t2, a1, b1⟩ := w U' rfl X'
  exact ⟨t2, stp t2 a1, b1⟩
theorem hv_pre (X : hv_X k cc own nL fr lw ret nm) {H : Heap} {locs : List Loc} (hR : hs_R k.2.1 σ H) (hS : va_S (gW k.2.1) k.1.2.2.2.2.1.heap H locs) (g1 : k.2.2.1.1 ≤ σ.1) (g2 : k.2.2.1.2.1 ≤ σ.2.1) {T : State} (hT : T.heap = H) {vm₁ : Vm} (hW : k.1.2.2.2.2.1.WarmedH vm₁) :
    PreOf k.1.2.2.2.1 (gC k.2.1 - σ.1) (gS k.2.1 - σ.2.1) (va_Pc av (fun U => hs_R k.2.1 σ U.heap ∧ gs_ok k.2.1 U U.heap)) ⟨T.setVm vm₁, locs, σ.1 - k.2.2.1.1, σ.2.1 - k.2.2.1.2.1⟩ av.toArray := by
  have h1 := X.rc
  have h2 := X.rs
  have h3 := hR.2.1
  have h4 := hR.2.2.1
  refine ⟨by show σ.1 - k.2.2.1.1 + _ ≤ _; omega, by show σ.2.1 - k.2.2.1.2.1 + _ ≤ _; omega, rfl, ?_, ?_⟩
  · show hs_R k.2.1 σ T.heap
    rw [hT]; exact hR
  · show gs_ok k.2.1 (T.setVm vm₁) T.heap
    rw [hT]
    exact X.gs.move hW hS.1 hS.2.1
theorem hv_callS (X : hv_X k cc own nL fr lw ret nm) (d : decode cc pc = .ok (.invokestatic index, 3)) (hc : hv_C k.1.2.1 k.2.1 y (Cond.code y bytes maxL rt :: hv_ws) fr' lw' av σ σ' r) (hy : hv_cs own index y bytes maxL rt av.length) (hsta : Cond.static y ∈ hv_ws) (hfr : fr' + 1 ≤ fr) (hlw : 8 + (maxL + 11) + lw' ≤ lw) (hm : σ.1 ≤ σ'.1 ∧ σ.2.1 ≤ σ'.2.1) (hs : (st.map fun v => v.category).sum ≤ 8) (kk : hv_V k σ' pn lo (r.toList ++ st)) (hst : sti = av.reverse ++ st := by rfl) (hp : pn = pc + 3 := by rfl) : hv_V k σ pc lo sti := by
  subst hp
  intro H locs ls hR hS g1 g2 hl T hT XT
  have hK := hv_bk X hc hy hfr hlw
  obtain ⟨w1, w2, w3, w4, w5⟩ := hy
  have hn : ∀ sig, parseMethodDescriptor y.desc = some sig → av.length = sig.parameters.length := fun sig h => by
    rw [h] at w4
    exact (Option.some.inj w4).symm
  rcases w5 with w5 | ⟨host, w5⟩
  · obtain ⟨v, vm₁, ⟨U', l2, c2, s2⟩, hW₁, X', ⟨g', mk, t, L, e1, e2, hq, h1, hL, h2, h3⟩, stp⟩ := callS XT X.1 (bytes := bytes) (maxL := maxL) (ret := rt) X.ow (X.ts _ w5) (X.ts _ hsta) (X.ts _ w2) (X.ts _ w1) w3 hK rfl (by rw [X.2.2.1]; exact hl.1) (argsL := av) (rest := st) hn hst (lv_room hs) (by rw [X.2.1]; exact d) (fun vm₁ hW₁ => hv_pre X hR hS g1 g2 hT hW₁)
    dsimp only [Pt.U, Pt.locs, Pt.cells, Pt.slots] at X' e1 e2 h1 h2 h3 stp
    subst h1; subst h2; subst h3
    exact hv_after X hm kk hR hS g1 g2 hl hT (st0 := (T.setVm vm₁).calling g' mk av.toArray) hT e1 hq hL X' stp
  · obtain ⟨v, vm₁, ⟨U', l2, c2, s2⟩, hW₁, X', ⟨g', mk, t, L, e1, e2, hq, h1, hL, h2, h3⟩, stp⟩ := va_callSN XT X.1 (bytes := bytes) (maxL := maxL) (ret := rt) X.ow (va_Nw.use rfl (X.gs.2.2.2.2.2.2.1 _ w5)) (X.ts _ hsta) (X.ts _ w2) (X.ts _ w1) w3 hK rfl (by rw [X.2.2.1]; exact hl.1) (argsL := av) (rest := st) hn hst (lv_room hs) (by rw [X.2.1]; exact d) (fun vm₁ hW₁ => hv_pre X hR hS g1 g2 hT hW₁)
    dsimp only [Pt.U, Pt.locs, Pt.cells, Pt.slots] at X' e1 e2 h1 h2 h3 stp
    subst h1; subst h2; subst h3
    exact hv_after X hm kk hR hS g1 g2 hl hT (st0 := (T.setVm vm₁).calling g' mk av.toArray) hT e1 hq hL X' stp
theorem hv_callI (X : hv_X k cc own nL fr lw ret nm) {b : Nat} {as : List Value} (d : decode cc pc = .ok (.invokespecial index, 3)) (hc : hv_C k.1.2.1 k.2.1 y (Cond.code y bytes maxL none :: hv_ws) fr' lw' (.ref b :: as) σ σ' r) (hy : hv_cs own index y bytes maxL none as.length) (hini : y.name = "<init>") (hinst : Cond.instanceMethod y ∈ hv_ws) (hfr : fr' + 1 ≤ fr) (hlw : 8 + (maxL + 11) + lw' ≤ lw) (hm : σ.1 ≤ σ'.1 ∧ σ.2.1 ≤ σ'.2.1) (hs : (st.map fun v => v.category).sum ≤ 8) (kk : hv_V k σ' pn lo (r.toList ++ st)) (hst : sti = as.reverse ++ .ref b :: st := by rfl) (hp : pn = pc + 3 := by rfl) : hv_V k σ pc lo sti := by
  subst hp
  intro H locs ls hR hS g1 g2 hl T hT XT
  have hK := hv_bk X hc hy hfr hlw
  obtain ⟨w1, w2, w3, w4, w5⟩ := hy
  have hn : ∀ sig, parseMethodDescriptor y.desc = some sig → as.length = sig.parameters.length := fun sig h => by
    rw [h] at w4
    exact (Option.some.inj w4).symm
  rcases w5 with w5 | ⟨host, w5⟩
  · obtain ⟨v, vm₁, ⟨U', l2, c2, s2⟩, hW₁, X', ⟨g', mk, t, L, e1, e2, hq, h1, hL, h2, h3⟩, stp⟩ := callI XT X.1 (bytes := bytes) (maxL := maxL) X.ow hini (X.ts _ w5) (X.ts _ hinst) (X.ts _ w1) w3 hK rfl (by rw [X.2.2.1]; exact hl.1) (a := b) (argsL := as) (rest := st) hn hst (lv_room hs) (by rw [X.2.1]; exact d) (fun vm₁ hW₁ => hv_pre X hR hS g1 g2 hT hW₁)
    dsimp only [Pt.U, Pt.locs, Pt.cells, Pt.slots] at X' e1 e2 h1 h2 h3 stp
    subst h1; subst h2; subst h3
    exact hv_after X hm kk hR hS g1 g2 hl hT (st0 := (T.setVm vm₁).calling g' mk (Value.ref b :: as).toArray) hT e1 hq hL X' stp
  · obtain ⟨v, vm₁, ⟨U', l2, c2, s2⟩, hW₁, X', ⟨g', mk, t, L, e1, e2, hq, h1, hL, h2, h3⟩, stp⟩ := va_callIN XT X.1 (bytes := bytes) (maxL := maxL) X.ow hini (va_Nw.use rfl (X.gs.2.2.2.2.2.2.1 _ w5)) (X.ts _ hinst) (X.ts _ w1) w3 hK rfl (by rw [X.2.2.1]; exact hl.1) (a := b) (argsL := as) (rest := st) hn hst (lv_room hs) (by rw [X.2.1]; exact d) (fun vm₁ hW₁ => hv_pre X hR hS g1 g2 hT hW₁)
    dsimp only [Pt.U, Pt.locs, Pt.cells, Pt.slots] at X' e1 e2 h1 h2 h3 stp
    subst h1; subst h2; subst h3
    exact hv_after X hm kk hR hS g1 g2 hl hT (st0 := (T.setVm vm₁).calling g' mk (Value.ref b :: as).toArray) hT e1 hq hL X' stp
theorem hv_recv (X : hv_X k cc own nL fr lw ret nm) {b ci : Nat} {fs : List Value} {q : vw_C} (hc : vwCl[ci]? = some q) (hf : ho_f σ b ci = some fs) {H : Heap} (hR : hs_R k.2.1 σ H) : ∃ cell : Cell, H[b]? = some cell ∧ cell.vm.isStatics = false ∧ k.1.2.2.2.2.1.vm.findClass q.1 = some cell.cls :=
  va_recv X.gs.2.1 (va_P1 (hR.2.2.2 b _ (ho_f_E hf)).2) hc (q0 := 0) rfl
theorem hv_callV (X : hv_X k cc own nL fr lw ret nm) {b ci : Nat} {as fs : List Value} {q : vw_C} (d : decode cc pc = .ok (.invokevirtual index, 3)) (hc : hv_C k.1.2.1 k.2.1 y (Cond.code y bytes maxL rt :: hv_ws) fr' lw' (.ref b :: as) σ σ' r) (hy : hv_cs own index y bytes maxL rt as.length) (hinst : Cond.instanceMethod y ∈ hv_ws) (hq : vwCl[ci]? = some q) (hsel : Cond.selects q.1 y y ∈ hv_ws) (hf : ho_f σ b ci = some fs) (hfr : fr' + 1 ≤ fr) (hlw : 8 + (maxL + 11) + lw' ≤ lw) (hm : σ.1 ≤ σ'.1 ∧ σ.2.1 ≤ σ'.2.1) (hs : (st.map fun v => v.category).sum ≤ 8) (kk : hv_V k σ' pn lo (r.toList ++ st)) (hst : sti = as.reverse ++ .ref b :: st := by rfl) (hp : pn = pc + 3 := by rfl) : hv_V k σ pc lo sti := by
  subst hp
  intro H locs ls hR hS g1 g2 hl T hT XT
  have hK := hv_bk X hc hy hfr hlw
  obtain ⟨w1, w2, w3, w4, w5⟩ := hy
  obtain ⟨cellB, c1, c2, c3⟩ := hv_recv X hq hf hR
  have hn : ∀ sig, parseMethodDescriptor y.desc = some sig → as.length = sig.parameters.length := fun sig h => by
    rw [h] at w4
    exact (Option.some.inj w4).symm
  rcases w5 with w5 | ⟨host, w5⟩
  · obtain ⟨v, vm₁, ⟨U', l2, c2', s2⟩, hW₁, X', ⟨g', mk, t, L, e1, e2, hq, h1, hL, h2, h3⟩, stp⟩ := callV XT X.1 (bytes := bytes) (maxL := maxL) (ret := rt) X.ow (X.ts _ w5) (X.ts _ hinst) (X.ts _ hsel) (X.ts _ w1) w3 hK (by rw [hT]; exact c1) c2 c3 rfl (by rw [X.2.2.1]; exact hl.1) (argsL := as) (rest := st) hn hst (lv_room hs) (by rw [X.2.1]; exact d) (fun vm₁ hW₁ => hv_pre X hR hS g1 g2 hT hW₁)
    dsimp only [Pt.U, Pt.locs, Pt.cells, Pt.slots] at X' e1 e2 h1 h2 h3 stp
    subst h1; subst h2; subst h3
    exact hv_after X hm kk hR hS g1 g2 hl hT (st0 := (T.setVm vm₁).calling g' mk (Value.ref b :: as).toArray) hT e1 hq hL X' stp
  · obtain ⟨v, vm₁, ⟨U', l2, c2', s2⟩, hW₁, X', ⟨g', mk, t, L, e1, e2, hq, h1, hL, h2, h3⟩, stp⟩ := va_callVN XT X.1 (bytes := bytes) (maxL := maxL) (ret := rt) X.ow (va_Nw.use rfl (X.gs.2.2.2.2.2.2.1 _ w5)) (X.ts _ hinst) (X.ts _ hsel) (X.ts _ w1) w3 hK (by rw [hT]; exact c1) c2 c3 rfl (by rw [X.2.2.1]; exact hl.1) (argsL := as) (rest := st) hn hst (lv_room hs) (by rw [X.2.1]; exact d) (fun vm₁ hW₁ => hv_pre X hR hS g1 g2 hT hW₁)
    dsimp only [Pt.U, Pt.locs, Pt.cells, Pt.slots] at X' e1 e2 h1 h2 h3 stp
    subst h1; subst h2; subst h3
    exact hv_after X hm kk hR hS g1 g2 hl hT (st0 := (T.setVm vm₁).calling g' mk (Value.ref b :: as).toArray) hT e1 hq hL X' stp
theorem ho_ck_E {α : Type} {x : Option (ho_H × α)} {z : ho_H × α} (h : ho_ck σ x = some z) : x = some z ∧ σ.1 ≤ z.1.1 ∧ σ.2.1 ≤ z.1.2.1 := by
  obtain ⟨v, h1, h2⟩ := bd_E h
  split at h2
  · next hc => cases h2; exact ⟨h1, hc⟩
  · cases h2
end HV3
def bd2 {α β γ : Type} (x : Option (α × β)) (f : α → β → Option γ) : Option γ := x.bind fun q => f q.1 q.2
theorem bd2_E {α β γ : Type} {x : Option (α × β)} {f : α → β → Option γ} {r : γ} (h : bd2 x f = some r) : ∃ a b, x = some (a, b) ∧ f a b = some r := by
  obtain ⟨⟨a, b⟩, h1, h2⟩ := bd_E h
  exact ⟨a, b, h1, h2⟩
def sm_e {A B C : Type} (f : A → C) (g : B → C) (e : A ⊕ B) : C := match e with
  | .inl a => f a
  | .inr b => g b
/-- a loop's walk: if a turn of the body leads from the head to the head or out, so does the loop -/
theorem hv_loop {S E : Type} {f : S → Option (S ⊕ E)} {P : S → Prop} {Z : E → Prop} (hb : ∀ s r, f s = some r → sm P Z r → P s) : ∀ (n : Nat) (s : S) (e : E), ho_it f n s = some e → Z e → P s := by
  intro n
  induction n with
  | zero => intro s e h; cases h
  | succ n ih =>
    intro s e h hz
    unfold ho_it at h
    split at h
    · cases h
    · next s' hs => exact hb s _ hs (ih s' e h hz)
    · next e' hs =>
      cases h
      exact hb s _ hs hz
