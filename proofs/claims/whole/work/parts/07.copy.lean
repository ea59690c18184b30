def ho_cpI (G : ho_G) (σ : ho_H) (src : Nat) (sp : Int32) (dst : Nat) (dp n : Int32) : Option ho_H := (ho_rI G σ src).bind fun q => (ho_aI G σ dst 0).bind fun w => if sp < 0 ∨ dp < 0 ∨ n < 0 ∨ q.1 < sp.toNatClampNeg + n.toNatClampNeg ∨ w.1 < dp.toNatClampNeg + n.toNatClampNeg then none else some (ho_set σ dst (.inl (gc G 0, w.1, .inl (va_cpy q.2 w.2 sp.toNatClampNeg dp.toNatClampNeg n.toNatClampNeg))))
section HV4
variable {k : mk_T} {cc : ByteArray} {own : String} {nL fr lw : Nat} {ret : Option FieldType} {nm : String} {σ σ' : ho_H} {pc pn : Nat} {lo lo' : List (Option Value)} {st : List Value}
theorem hv_cpI (X : hv_X k cc own nL fr lw ret nm) {index src dst : Nat} {sp dp n : Int32} (d : decode cc pc = .ok (.invokestatic index, 3)) (hw1 : Cond.methodLink own index arraycopyName ∈ hv_ws) (hw2 : Cond.native arraycopyName ∈ hv_ws) (hw3 : Cond.static arraycopyName ∈ hv_ws) (hw4 : Cond.initialized "java/lang/System" ∈ hv_ws) (e : ho_cpI k.2.1 σ src sp dst dp n = some σ') (hfr : 1 ≤ fr) (hlw : 8 + (nativeFrameWords "java/lang/System" "arraycopy" 5 + 11) ≤ lw) (hs : (st.map fun v => v.category).sum ≤ 8) (kk : hv_V k σ' pn lo st) (hp : pn = pc + 3 := by rfl) : hv_V k σ pc lo (.int n :: .int dp :: .ref dst :: .int sp :: .ref src :: st) := by
  subst hp
  intro H locs ls hR hS g1 g2 hl
  obtain ⟨q, hq, h2⟩ := bd_E e
  obtain ⟨w, hw, h3⟩ := bd_E h2
  split at h3
  · cases h3
  · next hc =>
    cases h3
    have nn : ∀ z : Int32, ¬ z < 0 → z.toInt = (z.toNatClampNeg : Int) := by
      intro z hz
      have hz0 : (0 : Int) ≤ z.toInt := by
        have := Int32.not_lt.mp hz
        simpa using Int32.le_iff_toInt_le.mp this
      show z.toInt = ((z.toInt.toNat : Nat) : Int)
      omega
    have h1 : ¬ sp < 0 := fun z => hc (Or.inl z)
    have h2' : ¬ dp < 0 := fun z => hc (Or.inr (Or.inl z))
    have h3 : ¬ n < 0 := fun z => hc (Or.inr (Or.inr (Or.inl z)))
    have h4 : sp.toNatClampNeg + n.toNatClampNeg ≤ q.1 := Nat.not_lt.mp fun z => hc (Or.inr (Or.inr (Or.inr (Or.inl z))))
    have h5 : dp.toNatClampNeg + n.toNatClampNeg ≤ w.1 := Nat.not_lt.mp fun z => hc (Or.inr (Or.inr (Or.inr (Or.inr z))))
    have hcd := hR.2.2.2 dst _ (ho_aI_E hw)
    have hc1 : H[dst]? = some (vp_cell (gc k.2.1 0) (w.1, .inl w.2)) := hcd.2
    obtain ⟨-, k1, hk1, cm1, hkk1⟩ := (hv_ki X (i := 0) rfl).1 w.1 (fun j => .int (w.2 j))
    have key : ∃ cs : Cell, H[src]? = some cs ∧ (∀ z, cs.vm ≠ .statics z) ∧ cs.vm ≠ .unknown ∧ (∃ (ks : Class) (cm : ClassId), k.1.2.2.2.2.1.vm.classes[cs.cls]? = some ks ∧ ks.kind = .array cm .int) ∧ q.1 ≤ cs.slots.size ∧ ∀ j : Nat, j < q.1 → cs.slots[j]? = some (.int (q.2 j)) := by
      rcases ho_rI_E hq with h | h
      · have hc0 : H[src]? = some (vp_cell (gc k.2.1 0) (q.1, .inl q.2)) := (hR.2.2.2 src _ h).2
        obtain ⟨-, k0, hk0, cm0, hkk0⟩ := (hv_ki X (i := 0) rfl).1 q.1 (fun j => .int (q.2 j))
        refine ⟨_, hc0, (fun _ h => by cases h), (fun h => by cases h), ⟨k0, cm0, hk0, hkk0⟩, ?_, fun j hj => ?_⟩
        · show _ ≤ (arrV _ _ _).slots.size
          rw [arrV_size]
          exact Nat.le_refl _
        · show (arrV _ _ _).slots[j]? = _
          rw [arrV_read _ _ hj]
      · obtain ⟨cell, t1, ⟨t2, kt, ht, cmt, hkt⟩, t3, t4, t5, t6, t7⟩ := X.gs.2.2.2.1 src _ _ h
        exact ⟨cell, by rw [hS.2.1 src (Array.getElem?_eq_some_iff.mp t1).1 t7]; exact t1, t2, t3, ⟨kt, cmt, ht, hkt⟩, t4, t6⟩
    obtain ⟨cs, hcs, hs1, hs2, ⟨ks, cms, hks, hkks⟩, hsz, hvals⟩ := key
    have hX1 := X.fr
    have hX2 := X.lw
    intro T hT XT
    obtain ⟨vm', X', step⟩ := XT.arraycopy X.1 X.ow (X.ts _ hw1) (X.ts _ hw2) (X.ts _ hw3) (X.ts _ hw4) (src := src) (dst := dst) (cs := cs) (cd := vp_cell (gc k.2.1 0) (w.1, .inl w.2)) (srcPos := sp) (destPos := dp) (n := n) (by rw [hT]; exact hcs) (by rw [hT]; exact hc1)
      hs1 (fun _ h => by cases h) hs2 (fun h => by cases h) hks hk1 hkks hkk1 (by decide) h1 h2' h3
      (by rw [nn sp h1, nn n h3]; omega)
      (by rw [nn dp h2', nn n h3]; show ¬ _ > ((arrV (gc k.2.1 0) w.1 (fun j => .int (w.2 j))).slots.size : Int); rw [arrV_size]; omega)
      (fun vm₁ _ i hi => by
        have e : cs.slots.getD (sp.toNatClampNeg + i) .null = .int (q.2 (sp.toNatClampNeg + i)) := by
          rw [Array.getD_eq_getD_getElem?, hvals _ (by omega)]
          rfl
        rw [e]
        exact ⟨rfl, trivial⟩)
      (g := F0 _ pc ls (.int n :: .int dp :: .ref dst :: .int sp :: .ref src :: st)) rfl (by rw [X.2.2.1]; exact hl.1) (rest := st) rfl (by rw [X.2.1]; exact d) (by omega) (by show 2 * 0 + _ + _ ≤ _; omega)
    have e0 : cs.stretch sp.toNatClampNeg n.toNatClampNeg = (arrV (gc k.2.1 0) q.1 (fun j => .int (q.2 j))).stretch sp.toNatClampNeg n.toNatClampNeg := by
      unfold Cell.stretch
      apply List.map_congr_left
      intro i hi
      have hi' := List.mem_range.mp hi
      rw [Array.getD_eq_getD_getElem?, Array.getD_eq_getD_getElem?, arrV_read _ _ (by omega), hvals _ (by omega)]
    have e1 : copied cs (vp_cell (gc k.2.1 0) (w.1, .inl w.2)) sp dp n = vp_cell (gc k.2.1 0) (w.1, .inl (va_cpy q.2 w.2 sp.toNatClampNeg dp.toNatClampNeg n.toNatClampNeg)) := by
      show Cell.storeRun _ _ (cs.stretch _ _) = _
      rw [e0]
      exact va_copied (fun z => .int z) (gc k.2.1 0) (gc k.2.1 0) q.2 w.2 h4
    rw [e1] at X' step
    have hl' : dst < H.size := (Array.getElem?_eq_some_iff.mp hc1).1
    have hheap : ((T.setVm vm').setCell dst (vp_cell (gc k.2.1 0) (w.1, .inl (va_cpy q.2 w.2 sp.toNatClampNeg dp.toNatClampNeg n.toNatClampNeg)))).heap = H.setIfInBounds dst (vp_cell (gc k.2.1 0) (w.1, .inl (va_cpy q.2 w.2 sp.toNatClampNeg dp.toNatClampNeg n.toNatClampNeg))) := by rw [← hT]; rfl
    have oq : ∀ z : Nat, z ≠ dst → (H.setIfInBounds dst (vp_cell (gc k.2.1 0) (w.1, .inl (va_cpy q.2 w.2 sp.toNatClampNeg dp.toNatClampNeg n.toNatClampNeg))))[z]? = H[z]? := fun z hz => by simp [Array.getElem?_setIfInBounds, Ne.symm hz]
    obtain ⟨t, a1, b1⟩ := kk _ _ ls (hR.set (ho_aI_E hw) (by simp) oq (show (H.setIfInBounds dst _)[dst]? = some _ by simp [Array.getElem?_setIfInBounds, hl'])) ⟨by simp; exact hS.1, fun z z1 z2 => by
        rw [oq z (fun e => z2 (by rw [e]; exact hcd.1))]
        exact hS.2.1 z z1 z2, fun z hz => by
        rcases List.mem_append.mp hz with h | h
        · exact hS.2.2 z h
        · obtain ⟨y, -, hy⟩ := List.mem_map.mp h
          rw [← hy]
          exact hcd.1⟩ g1 g2 hl _ hheap X'
    exact ⟨t, step t a1, b1⟩
end HV4
