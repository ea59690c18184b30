section HV6
variable {k : mk_T} {cc : ByteArray} {own : String} {nL fr lw : Nat} {ret : Option FieldType} {nm : String} {σ σ' : ho_H} {pc pn : Nat} {lo lo' : List (Option Value)} {st : List Value}
theorem hv_cpR (X : hv_X k cc own nL fr lw ret nm) {index src dst : Nat} {sp dp n : Int32} (d : decode cc pc = .ok (.invokestatic index, 3)) (hw1 : Cond.methodLink own index arraycopyName ∈ hv_ws) (hw2 : Cond.native arraycopyName ∈ hv_ws) (hw3 : Cond.static arraycopyName ∈ hv_ws) (hw4 : Cond.initialized "java/lang/System" ∈ hv_ws) (hca : (R3, "java/lang/Object") ∈ hv_cast) (e : ho_cpR k.2.1 σ src sp dst dp n = some σ') (hfr : 1 ≤ fr) (hlw : 8 + (nativeFrameWords "java/lang/System" "arraycopy" 5 + 11) ≤ lw) (hs : (st.map fun v => v.category).sum ≤ 8) (kk : hv_V k σ' pn lo st) (hp : pn = pc + 3 := by rfl) : hv_V k σ pc lo (.int n :: .int dp :: .ref dst :: .int sp :: .ref src :: st) := by
  subst hp
  intro H locs ls hR hS g1 g2 hl
  obtain ⟨q, hq, h2⟩ := bd_E e
  obtain ⟨w, hw, h3⟩ := bd_E h2
  split at h3
  · cases h3
  · next hc =>
    cases h3
    have nn : ∀ z : Int32, ¬ z < 0 → z.toInt = (z.toNatClampNeg : Int) := by
      intro z hz
      have hz0 : (0 : Int) ≤ z.toInt := by
        have := Int32.not_lt.mp hz
        simpa using Int32.le_iff_toInt_le.mp this
      show z.toInt = ((z.toInt.toNat : Nat) : Int)
      omega
    have h1 : ¬ sp < 0 := fun z => hc (Or.inl z)
    have h2' : ¬ dp < 0 := fun z => hc (Or.inr (Or.inl z))
    have h3 : ¬ n < 0 := fun z => hc (Or.inr (Or.inr (Or.inl z)))
    have h4 : sp.toNatClampNeg + n.toNatClampNeg ≤ q.1 := Nat.not_lt.mp fun z => hc (Or.inr (Or.inr (Or.inr (Or.inl z))))
    have h5 : dp.toNatClampNeg + n.toNatClampNeg ≤ w.1 := Nat.not_lt.mp fun z => hc (Or.inr (Or.inr (Or.inr (Or.inr (Or.inl z)))))
    have h6 : ∀ i, i < n.toNatClampNeg → ((q.2 (sp.toNatClampNeg + i)).all fun y => (ho_f σ y 3).isSome) = true := Classical.not_not.mp fun z => hc (Or.inr (Or.inr (Or.inr (Or.inr (Or.inr z)))))
    have hcs := hR.2.2.2 src _ (ho_aR_E hq)
    have hcd := hR.2.2.2 dst _ (ho_aR_E hw)
    have hc0 : H[src]? = some (vp_cell (gc k.2.1 5) (q.1, .inr (.inr (.inr (.inr q.2))))) := hcs.2
    have hc1 : H[dst]? = some (vp_cell (gc k.2.1 5) (w.1, .inr (.inr (.inr (.inr w.2))))) := hcd.2
    have ht : hv_tys[5]? = some (.object "java/lang/Object") := rfl
    obtain ⟨-, k0, hk0, cm0, hkk0⟩ := (hv_ki X ht).1 q.1 (fun j => va_rf (q.2 j))
    obtain ⟨-, k1, hk1, cm1, hkk1⟩ := (hv_ki X ht).1 w.1 (fun j => va_rf (w.2 j))
    have hX1 := X.fr
    have hX2 := X.lw
    intro T hT XT
    obtain ⟨vm', X', step⟩ := XT.arraycopy X.1 X.ow (X.ts _ hw1) (X.ts _ hw2) (X.ts _ hw3) (X.ts _ hw4) (src := src) (dst := dst) (cs := vp_cell (gc k.2.1 5) (q.1, .inr (.inr (.inr (.inr q.2))))) (cd := vp_cell (gc k.2.1 5) (w.1, .inr (.inr (.inr (.inr w.2))))) (srcPos := sp) (destPos := dp) (n := n) (by rw [hT]; exact hc0) (by rw [hT]; exact hc1)
      (fun _ h => by cases h) (fun _ h => by cases h) (fun h => by cases h) (fun h => by cases h) hk0 hk1 hkk0 hkk1 rfl h1 h2' h3
      (by rw [nn sp h1, nn n h3]; show ¬ _ > ((arrV (gc k.2.1 5) q.1 (fun j => va_rf (q.2 j))).slots.size : Int); rw [arrV_size]; omega)
      (by rw [nn dp h2', nn n h3]; show ¬ _ > ((arrV (gc k.2.1 5) w.1 (fun j => va_rf (w.2 j))).slots.size : Int); rw [arrV_size]; omega)
      (fun vm₁ hal i hi => by
        have e : (vp_cell (gc k.2.1 5) (q.1, .inr (.inr (.inr (.inr q.2))))).slots.getD (sp.toNatClampNeg + i) .null = va_rf (q.2 (sp.toNatClampNeg + i)) := by
          show (arrV (gc k.2.1 5) q.1 (fun j => va_rf (q.2 j))).slots.getD _ _ = _
          rw [Array.getD_eq_getD_getElem?, arrV_read _ _ (by omega)]
          rfl
        rw [e]
        cases hy : q.2 (sp.toNatClampNeg + i) with
        | none => exact ⟨rfl, trivial⟩
        | some y =>
          have h7 := h6 i hi
          rw [hy] at h7
          obtain ⟨fs, hfs⟩ := Option.isSome_iff_exists.mp (show (ho_f σ y 3).isSome = true from h7)
          obtain ⟨cellV, z1, z2, ⟨kC, hkC⟩, hasg⟩ := hv_any X (E := "java/lang/Object") (show vwCl[3]? = some (R3, T3, 1) from rfl) (Or.inr hca) hfs hR
          obtain ⟨kA, comp, r1, r2, r3, -⟩ := (hv_ki X ht).2
          cases hk1.symm.trans r1
          cases hkk1.symm.trans r2
          obtain ⟨kE, hkE, -⟩ := Vm.findClass_spec r3
          obtain ⟨kC', hkC', -⟩ := hal.2.2 _ _ hkC
          obtain ⟨kE', hkE', -⟩ := hal.2.2 _ _ hkE
          refine ⟨rfl, cellV, (show T.heap[y]? = some cellV by rw [hT]; exact z1), (fun q h => by rw [h] at z2; cases z2), ⟨kC', hkC'⟩, ?_, ?_⟩
          · exact ⟨kE', hkE'⟩
          · show vm₁.assignable _ _ = true
            rw [hal.assignable]
            exact hasg _ r3)
      (g := F0 _ pc ls (.int n :: .int dp :: .ref dst :: .int sp :: .ref src :: st)) rfl (by rw [X.2.2.1]; exact hl.1) (rest := st) rfl (by rw [X.2.1]; exact d) (by omega) (by show 2 * 0 + _ + _ ≤ _; omega)
    have e1 : copied (vp_cell (gc k.2.1 5) (q.1, .inr (.inr (.inr (.inr q.2))))) (vp_cell (gc k.2.1 5) (w.1, .inr (.inr (.inr (.inr w.2))))) sp dp n = vp_cell (gc k.2.1 5) (w.1, .inr (.inr (.inr (.inr (va_cpy q.2 w.2 sp.toNatClampNeg dp.toNatClampNeg n.toNatClampNeg))))) := by
      rw [vp_cell_q, vp_cell_q, vp_cell_q]
      exact va_copied (fun z => va_rf z) (gc k.2.1 5) (gc k.2.1 5) q.2 w.2 h4
    rw [e1] at X' step
    have hl' : dst < H.size := (Array.getElem?_eq_some_iff.mp hc1).1
    have hheap : ((T.setVm vm').setCell dst (vp_cell (gc k.2.1 5) (w.1, .inr (.inr (.inr (.inr (va_cpy q.2 w.2 sp.toNatClampNeg dp.toNatClampNeg n.toNatClampNeg))))))).heap = H.setIfInBounds dst (vp_cell (gc k.2.1 5) (w.1, .inr (.inr (.inr (.inr (va_cpy q.2 w.2 sp.toNatClampNeg dp.toNatClampNeg n.toNatClampNeg)))))) := by rw [← hT]; rfl
    have oq : ∀ z : Nat, z ≠ dst → (H.setIfInBounds dst (vp_cell (gc k.2.1 5) (w.1, .inr (.inr (.inr (.inr (va_cpy q.2 w.2 sp.toNatClampNeg dp.toNatClampNeg n.toNatClampNeg)))))))[z]? = H[z]? := fun z hz => by simp [Array.getElem?_setIfInBounds, Ne.symm hz]
    obtain ⟨t, a1, b1⟩ := kk _ _ ls (hR.set (ho_aR_E hw) (by simp) oq (show (H.setIfInBounds dst _)[dst]? = some _ by simp [Array.getElem?_setIfInBounds, hl'])) ⟨by simp; exact hS.1, fun z z1 z2 => by
        rw [oq z (fun e => z2 (by rw [e]; exact hcd.1))]
        exact hS.2.1 z z1 z2, fun z hz => by
        rcases List.mem_append.mp hz with h | h
        · exact hS.2.2 z h
        · obtain ⟨y, -, hy⟩ := List.mem_map.mp h
          rw [← hy]
          exact hcd.1⟩ g1 g2 hl _ hheap X'
    exact ⟨t, step t a1, b1⟩
theorem hv_clI (X : hv_X k cc own nL fr lw ret nm) {index a b : Nat} (d : decode cc pc = .ok (.invokevirtual index, 3)) (hw1 : Cond.methodLink own index ⟨"[I", "clone", "()Ljava/lang/Object;"⟩ ∈ hv_ws) (hw2 : Cond.sameMethod "[I" "java/lang/Object" "clone" "()Ljava/lang/Object;" ∈ hv_ws) (hw3 : Cond.native ⟨"java/lang/Object", "clone", "()Ljava/lang/Object;"⟩ ∈ hv_ws) (hw4 : Cond.instanceMethod ⟨"java/lang/Object", "clone", "()Ljava/lang/Object;"⟩ ∈ hv_ws) (hw5 : Cond.selects "[I" ⟨"[I", "clone", "()Ljava/lang/Object;"⟩ ⟨"java/lang/Object", "clone", "()Ljava/lang/Object;"⟩ ∈ hv_ws) (hca : ("[I", "java/lang/Cloneable") ∈ hv_cast) (e : ho_clI k.2.1 σ a = some (σ', b)) (hfr : 1 ≤ fr) (hlw : 22 ≤ lw) (hs : (st.map fun v => v.category).sum ≤ 8) (kk : hv_V k σ' pn lo (.ref b :: st)) (hp : pn = pc + 3 := by rfl) : hv_V k σ pc lo (.ref a :: st) := by
  subst hp
  intro H locs ls hR hS g1 g2 hl
  obtain ⟨q, hq, e⟩ := bd_E e
  obtain ⟨a1, a2, a3, a4, a5⟩ := ho_al_E e
  have hX1 := X.fr
  have hX2 := X.lw
  have hca2 := hR.2.2.2 a _ (ho_aI_E hq)
  have hc0 : H[a]? = some (vp_cell (gc k.2.1 0) (q.1, .inl q.2)) := hca2.2
  have ht : hv_tys[0]? = some .int := rfl
  have hnm : k.1.2.2.2.2.1.vm.findClass "[I" = some (gc k.2.1 0) := (hv_ki X ht).2
  obtain ⟨c0, t0', f1, f2, f3⟩ := Cond.castable_spec (va_Nw.use (A := k.1.2.2.2.2.2.2.1) rfl (X.gs.2.2.2.2.2.2.2.2.1 _ hca))
  cases hnm.symm.trans f1
  intro T hT XT
  have hcellT : T.heap[a]? = some (vp_cell (gc k.2.1 0) (q.1, .inl q.2)) := by rw [hT]; exact hc0
  obtain ⟨-, kA, hkA, comp, hkind⟩ := State.isArrayOf_alike XT.warmed.alike ((hv_ki X ht).1 0 (fun _ => .null))
  obtain ⟨-, kS, hkS, compS, hkindS⟩ := (hv_ki X ht).1 0 (fun _ => .null)
  obtain ⟨vm', X', stp⟩ := XT.cloneArray X.1 X.ow (X.ts _ hw1) (X.ts _ hw2) (X.ts _ hw3) (X.ts _ hw4) (X.ts _ hw5) (a := a) (cell := vp_cell (gc k.2.1 0) (q.1, .inl q.2)) hcellT (fun z h => by cases h) (fun h => by cases h) hnm f2 f3
    (fun i v hv => by
      have hk' : T.vm.classes[gc k.2.1 0]? = some kA := hkA
      have hsz : i < q.1 := by
        have := (Array.getElem?_eq_some_iff.mp hv).1
        rw [show (vp_cell (gc k.2.1 0) (q.1, .inl q.2)).slots.size = q.1 from arrV_size _ _ _] at this
        exact this
      have hv2 : (arrV (gc k.2.1 0) q.1 (fun j => .int (q.2 j))).slots[i]? = some v := hv
      rw [arrV_read _ _ hsz] at hv2
      cases hv2
      show T.fitsSlot (gc k.2.1 0) .none i (.int (q.2 i)) = true
      simp [State.fitsSlot, State.slotType?, hk', hkind, fits])
    (g := F0 _ pc ls (.ref a :: st)) rfl (by rw [X.2.2.1]; exact hl.1) rfl (by rw [X.2.1]; exact d) (by omega) (by show 2 * 0 + _ + 14 ≤ _; omega) (by rw [X.rc]; omega) (by rw [show (vp_cell (gc k.2.1 0) (q.1, .inl q.2)).slots.size = q.1 from arrV_size _ _ _, X.rs]; omega) (hloader := Vm.clonesLoader_of_array hkS hkindS)
  rw [show ({ cls := (vp_cell (gc k.2.1 0) (q.1, .inl q.2)).cls, slots := (vp_cell (gc k.2.1 0) (q.1, .inl q.2)).slots } : Cell) = vp_cell (gc k.2.1 0) (q.1, .inl q.2) from rfl, show (vp_cell (gc k.2.1 0) (q.1, .inl q.2)).slots.size = q.1 from arrV_size _ _ _] at X'
  have z1 : (H.push (vp_cell (gc k.2.1 0) (q.1, .inl q.2))).size = H.size + 1 := Array.size_push _
  have o1 : ∀ z : Nat, z < H.size → (H.push (vp_cell (gc k.2.1 0) (q.1, .inl q.2)))[z]? = H[z]? := fun z hz => by rw [Array.getElem?_push, if_neg (Nat.ne_of_lt hz)]
  obtain ⟨b1, b2, -⟩ := hR.push e (Nat.le_trans X.gs.1 hS.1) z1 o1 (show (H.push (vp_cell (gc k.2.1 0) (q.1, .inl q.2)))[H.size]? = some _ from Array.getElem?_push_size)
  have w := kk _ locs ls b1 (hS.grow (by omega) o1) (by omega) (by omega) hl
  rw [a3, a4, show σ.1 + 1 - k.2.2.1.1 = σ.1 - k.2.2.1.1 + 1 by omega, show σ.2.1 + q.1 - k.2.2.1.2.1 = σ.2.1 - k.2.2.1.2.1 + q.1 by omega, b2] at w
  obtain ⟨t, c1, c2⟩ := w ((T.setVm vm').pushCell (vp_cell (gc k.2.1 0) (q.1, .inl q.2))) (by rw [← hT]; rfl) X'
  refine ⟨t, stp t ?_, c2⟩
  rw [show ({ cls := (vp_cell (gc k.2.1 0) (q.1, .inl q.2)).cls, slots := (vp_cell (gc k.2.1 0) (q.1, .inl q.2)).slots } : Cell) = vp_cell (gc k.2.1 0) (q.1, .inl q.2) from rfl, hT]
  exact c1
end HV6
