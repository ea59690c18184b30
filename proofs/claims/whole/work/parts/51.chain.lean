/-! the sealer's block over the class's heap; key chains -/
/-- nothing of ours lies below the base; the tables lie there -/
def lowR (G : ho_G) (R : ho_H) : Prop := ∀ a, a < gB G → R.2.2 a = none
def gtab (G : ho_G) : Prop := ∀ (i : Nat) (vs : List Int32), hv_tabs[i]? = some vs → gA G i < gB G ∧ ∃ f : Nat → Int32, gR G (gA G i) = some (vs.length, f) ∧ ∀ j, j < vs.length → f j = vs.getD j 0
def wset (G : ho_G) (R : ho_H) (w n : Nat) (f : Nat → Int32) : ho_H := ho_set R w (.inl (gc G 0, n, .inl f))
section CH
variable {G : ho_G} {R : ho_H} {S N : Nat} {L : Int32} {B : Nat → Nat → Int32}
theorem sl_setO {a : Nat} {e : va_E} (h : a < S ∨ S + 5 ≤ a) : ho_set (sl G R S L B) a e = sl G (ho_set R a e) S L B := by
  refine sl_ext rfl rfl (fun b hb => ?_) (fun k => ?_)
  · show (if b = a then _ else (if b < S then _ else _)) = (if b = a then _ else _)
    rw [if_pos hb]
  · show (if S + k = a then _ else (if S + k < S then _ else (sle G S L B (S + k - S)).or _)) = (sle G S L B k).or (if S + k = a then _ else _)
    rw [if_neg (show ¬ S + k < S by omega), Nat.add_sub_cancel_left]
    by_cases hk : S + k = a
    · rw [if_pos hk, if_pos hk]
      unfold sle
      rw [if_neg (by omega), if_neg (by omega)]
      rfl
    · rw [if_neg hk, if_neg hk]
theorem sl_fO {a ci : Nat} (h : a < S ∨ S + 5 ≤ a) : ho_f (sl G R S L B) a ci = ho_f R a ci := by
  unfold ho_f
  rw [sl_out h]
theorem sl_aO {a kd : Nat} (h : a < S ∨ S + 5 ≤ a) : ho_aI G (sl G R S L B) a kd = ho_aI G R a kd := by
  unfold ho_aI
  rw [sl_out h]
theorem sl_gIO {a ci j : Nat} (h : a < S ∨ S + 5 ≤ a) : ho_gI (sl G R S L B) a ci j = ho_gI R a ci j := by
  unfold ho_gI
  rw [sl_fO h]
theorem sl_gRO {a ci j : Nat} (h : a < S ∨ S + 5 ≤ a) : ho_gR (sl G R S L B) a ci j = ho_gR R a ci j := by
  unfold ho_gR
  rw [sl_fO h]
theorem sl_ldO {a : Nat} {i : Int32} (h : a < S ∨ S + 5 ≤ a) : ho_ldI G (sl G R S L B) a i = ho_ldI G R a i := by
  unfold ho_ldI
  rw [sl_rO h]
theorem sl_lnO {a : Nat} (h : a < S ∨ S + 5 ≤ a) : ho_lnI G (sl G R S L B) a = ho_lnI G R a := by
  unfold ho_lnI
  rw [sl_rO h]
theorem rI_tab {t : Nat} {q : Nat × (Nat → Int32)} (hl : lowR G R) (ht : t < gB G) (h : gR G t = some q) : ho_rI G R t = some q := by
  unfold ho_rI
  rw [hl t ht]
  exact h
theorem stab_of (hl : lowR G R) (hg : gtab G) (hS : gB G ≤ S) : stab G R S := by
  obtain ⟨l0, f0, e0, v0⟩ := hg 0 tb0 rfl
  obtain ⟨l1, f1, e1, v1⟩ := hg 1 tb1 rfl
  refine ⟨f0, f1, fun L B => ?_, fun L B => ?_, v0, v1⟩
  · rw [sl_rO (Or.inl (by omega)), rI_tab hl l0 e0]
    rfl
  · rw [sl_rO (Or.inl (by omega)), rI_tab hl l1 e1]
    rfl
theorem srd_tab {t n : Nat} {f : Nat → Int32} {C : Nat → Int32} (hl : lowR G R) (hS : gB G ≤ S) (ht : t < gB G) (h : gR G t = some (n, f)) : srd G R S C t n f := fun L B _ => by
  rw [sl_rO (Or.inl (by omega)), rI_tab hl ht h]
theorem wset_low {w n : Nat} {f : Nat → Int32} (hl : lowR G R) (hw : gB G ≤ w) : lowR G (wset G R w n f) := fun a ha => by
  show (if a = w then _ else _) = none
  rw [if_neg (by omega)]
  exact hl a ha
theorem wset_f {w n a ci : Nat} {f : Nat → Int32} (h : a ≠ w) : ho_f (wset G R w n f) a ci = ho_f R a ci := by
  unfold ho_f
  rw [show (wset G R w n f).2.2 a = R.2.2 a from if_neg h]
theorem wset_aI {w n : Nat} {f : Nat → Int32} : ho_aI G (wset G R w n f) w 0 = some (n, f) := by
  unfold ho_aI
  rw [show (wset G R w n f).2.2 w = some (.inl (gc G 0, n, .inl f)) from if_pos rfl]
  exact if_pos rfl
theorem wset_rI {w n : Nat} {f : Nat → Int32} : ho_rI G (wset G R w n f) w = some (n, f) := by
  unfold ho_rI
  rw [show (wset G R w n f).2.2 w = some (.inl (gc G 0, n, .inl f)) from if_pos rfl]
  exact if_pos rfl
theorem wset_wset {w n m : Nat} {f g : Nat → Int32} : wset G (wset G R w n f) w m g = wset G R w m g := by
  unfold wset ho_set
  congr 2
  funext q
  by_cases h : q = w
  · rw [if_pos h, if_pos h]
  · rw [if_neg h, if_neg h]
    exact if_neg h
theorem wset_self {w n : Nat} {f : Nat → Int32} (h : ho_aI G R w 0 = some (n, f)) : wset G R w n f = R := by
  have e := ho_aI_E h
  unfold wset ho_set
  obtain ⟨r1, r2, r3⟩ := R
  dsimp only at e ⊢
  congr 2
  funext q
  by_cases hq : q = w
  · rw [if_pos hq, hq, e]
  · rw [if_neg hq]
theorem srd_w {w n : Nat} {f : Nat → Int32} {C : Nat → Int32} (h : w < S ∨ S + 5 ≤ w) : srd G (wset G R w n f) S C w n f := fun L B _ => by
  rw [sl_rO h, wset_rI]
/-- the key below, in words -/
def dnW (K : Nat → Int32) : Nat → Int32 := s_sl (s_bs K) 20 tx2 5
theorem dnW_congr {a b : Nat → Int32} (e : ∀ k, k < 5 → a k = b k) : ∀ i, i < 8 → dnW a i = dnW b i := s_sl_congr (fun k hk => s_bs_congr (e _ (by omega))) (fun _ _ => rfl)
/-- one key down: words at from give the result's five words -/
theorem Sl_dn {a kn fr : Nat} {kf : Nat → Int32} (hk : srd G R S (B 2) a kn kf) (hkn : fr + 5 ≤ kn) (hfr : fr < 2147483000) (hl : lowR G R) (hg : gtab G) (hS : gB G ≤ S) (hN : 256 < N) : ∃ L' B', f_Sl_seal G N (sl G R S L B) S a (ii fr) 5 (gA G 2) (ii 5) = some (sl G R S L' B') ∧ (∀ i, i < 8 → B' 1 i = dnW (fun i => kf (fr + i)) i) ∧ B' 2 = B 2 := by
  obtain ⟨l2, f2, e2, v2⟩ := hg 2 tb2 rfl
  obtain ⟨L', B', h1, h2, h3⟩ := Sl_seal_S (L := L) (kw := 5) (n := 5) hk (srd_tab hl hS l2 e2) (by decide) hkn hfr (by decide) (by decide) (stab_of hl hg hS) hN
  exact ⟨L', B', h1, fun i hi => (h2 i hi).trans (s_sl_congr (fun _ _ => rfl) (fun k hk => v2 k hk) i hi), h3⟩
end CH
