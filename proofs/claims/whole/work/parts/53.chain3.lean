/-! loops that compare -/
theorem it_all {E : Type} {f : Int32 → Option (Int32 ⊕ (Unit ⊕ E))} {n N : Nat} (hstep : ∀ k, k < n → f (ii k) = some (.inl (ii (k + 1)))) (hend : f (ii n) = some (.inr (.inl ()))) (hN : n < N) : ho_it f N 0 = some (.inl ()) :=
  it_for n (fun k => ii k) _ hstep hend hN rfl
theorem it_bad {E : Type} {f : Int32 → Option (Int32 ⊕ (Unit ⊕ E))} {n N : Nat} {p : Nat → Prop} {e : E} (hstep : ∀ k, k < n → p k → f (ii k) = some (.inl (ii (k + 1)))) (hbad : ∀ k, k < n → ¬ p k → f (ii k) = some (.inr (.inr e))) (hN : n < N) (hx : ∃ k, k < n ∧ ¬ p k) : ho_it f N 0 = some (.inr e) := by
  have key : ∀ (d m N : Nat), m + d = n → d < N → (∃ k, m ≤ k ∧ k < n ∧ ¬ p k) → ho_it f N (ii m) = some (.inr e) := by
    intro d
    induction d with
    | zero =>
      intro m N hm hN ⟨k, h1, h2, h3⟩
      omega
    | succ d ih =>
      intro m N hm hN ⟨k, h1, h2, h3⟩
      cases N with
      | zero => omega
      | succ N =>
        by_cases hp : p m
        · simp only [ho_it, hstep m (by omega) hp]
          refine ih (m + 1) N (by omega) (by omega) ⟨k, ?_, h2, h3⟩
          rcases Nat.lt_or_ge m k with h | h
          · exact h
          · have : m = k := by omega
            subst this
            exact absurd hp h3
        · simp only [ho_it, hbad m (by omega) hp]
  obtain ⟨k, h1, h2⟩ := hx
  exact key n 0 N (by omega) hN ⟨k, by omega, h1, h2⟩
def kset (R : ho_H) (a w : Nat) (fi la : Int32) : ho_H := ho_set R a (.inr (2, [.ref w, .int fi, .int la]))
section CH3
variable {G : ho_G} {R : ho_H} {S N : Nat} {L : Int32} {B : Nat → Nat → Int32}
theorem sl_pO {a ci j : Nat} {v : Value} {R' : ho_H} (h : a < S ∨ S + 5 ≤ a) (hp : ho_p R a ci j v = some R') : ho_p (sl G R S L B) a ci j v = some (sl G R' S L B) := by
  unfold ho_p at hp ⊢
  rw [sl_fO h]
  obtain ⟨fs, h1, h2⟩ := bd_E hp
  rw [h1, bd_S]
  split at h2
  · next hj =>
    rw [if_pos hj, sl_setO h, Option.some.inj h2]
  · cases h2
theorem isK.p1 {a w : Nat} {fi la x : Int32} {f : Nat → Int32} (h : isK G R S a w fi la f) : ho_p (sl G R S L B) a 2 1 (.int x) = some (sl G (kset R a w x la) S L B) := by
  refine sl_pO h.2.2.1 ?_
  unfold ho_p
  rw [h.1, bd_S]
  rfl
theorem isK.p2 {a w : Nat} {fi la x : Int32} {f : Nat → Int32} (h : isK G R S a w fi la f) : ho_p (sl G R S L B) a 2 2 (.int x) = some (sl G (kset R a w fi x) S L B) := by
  refine sl_pO h.2.2.1 ?_
  unfold ho_p
  rw [h.1, bd_S]
  rfl
theorem isK.ks {a w : Nat} {fi la fi' la' : Int32} {f : Nat → Int32} (h : isK G R S a w fi la f) : isK G (kset R a w fi' la') S a w fi' la' f := by
  refine ⟨?_, ?_, h.2.2⟩
  · unfold ho_f
    rw [show (kset R a w fi' la').2.2 a = some (.inr (2, [.ref w, .int fi', .int la'])) from if_pos rfl]
    rfl
  · unfold ho_aI
    rw [show (kset R a w fi' la').2.2 w = R.2.2 w from if_neg (Ne.symm h.2.2.2.2.1)]
    exact h.2.1
theorem Kc_raiseTo_S {a w v k : Nat} {fi : Int32} {f : Nat → Int32} (hK : isK G R S a w fi (ii v) f) (hv : v ≤ 63) (hl : lowR G R) (hg : gtab G) (hS : gB G ≤ S) (hN : 256 < N) : ∃ L' B', B' 2 = B 2 ∧ ((∀ i, i < 5 → dnW (fun i => f (5 * (v + 1) + i)) i = f (5 * v + i)) → f_Kc_raiseTo G N (sl G R S L B) a (ii k) S = some (sl G (kset R a w fi (ii k)) S L' B', 1)) ∧ ((¬ ∀ i, i < 5 → dnW (fun i => f (5 * (v + 1) + i)) i = f (5 * v + i)) → f_Kc_raiseTo G N (sl G R S L B) a (ii k) S = some (sl G R S L' B', 0)) := by
  obtain ⟨l2, g2, e2, v2⟩ := hg 2 tb2 rfl
  have a1 : (ii v + 1) * 5 = ii (5 * (v + 1)) := by rw [show (1 : Int32) = ii 1 from rfl, ii_add, show (5 : Int32) = ii 5 from rfl, ii_mul, Nat.mul_comm]
  obtain ⟨L2, B2, q1, q2, q3⟩ := Sl_dn (L := L) (B := B) (N := N) (fr := 5 * (v + 1)) (hK.rd (C := B 2)) (by omega) (by omega) hl hg hS hN
  have hstep : ∀ i, i < 5 → dnW (fun i => f (5 * (v + 1) + i)) i = f (5 * v + i) → f_Kc_raiseTo_l29 G N (sl G R S L2 B2) a (ii k) S (ii i) = some (.inl (ii (i + 1))) := by
    intro i hi hp
    have e0 : ((5 : Int32) ≤ ii i) = False := by rw [show (5 : Int32) = ii 5 from rfl, ii_le (by decide) (by omega)]; exact eq_false (by omega)
    have a2 : ii v * 5 + ii i = ii (5 * v + i) := by rw [show (5 : Int32) = ii 5 from rfl, ii_mul, ii_add, Nat.mul_comm]
    have a3 : ii i + 1 = ii (i + 1) := ii_add _ 1
    simp only [f_Kc_raiseTo_l29, e0, ↓reduceIte, sl_r0, bd_S, sl_ld1 (show i < 8 by omega), hK.w, hK.la, a2, (hK.rd (C := B2 2)).ld rfl (show 5 * v + i < 325 by omega) (show 5 * v + i < 2147483648 by omega), q2 i (by omega), hp, a3]
  have hbad : ∀ i, i < 5 → ¬ dnW (fun i => f (5 * (v + 1) + i)) i = f (5 * v + i) → f_Kc_raiseTo_l29 G N (sl G R S L2 B2) a (ii k) S (ii i) = some (.inr (.inr (sl G R S L2 B2, 0))) := by
    intro i hi hp
    have e0 : ((5 : Int32) ≤ ii i) = False := by rw [show (5 : Int32) = ii 5 from rfl, ii_le (by decide) (by omega)]; exact eq_false (by omega)
    have a2 : ii v * 5 + ii i = ii (5 * v + i) := by rw [show (5 : Int32) = ii 5 from rfl, ii_mul, ii_add, Nat.mul_comm]
    simp only [f_Kc_raiseTo_l29, e0, ↓reduceIte, sl_r0, bd_S, sl_ld1 (show i < 8 by omega), hK.w, hK.la, a2, (hK.rd (C := B2 2)).ld rfl (show 5 * v + i < 325 by omega) (show 5 * v + i < 2147483648 by omega), q2 i (by omega), hp]
  have hend : f_Kc_raiseTo_l29 G N (sl G R S L2 B2) a (ii k) S (ii 5) = some (.inr (.inl ())) := by
    simp only [f_Kc_raiseTo_l29]
    rw [if_pos (show (5 : Int32) ≤ ii 5 by decide)]
  refine ⟨L2, B2, q3, fun hall => ?_, fun hnot => ?_⟩
  · unfold f_Kc_raiseTo
    rw [hK.la, bd_S, hK.w, bd_S, ln_tab hl hS l2 e2, bd_S, sl_f, bd_S, a1, show ii tb2.length = ii 5 from rfl, q1, sl_cv, bd_S, it_all (fun i hi => hstep i hi (hall i hi)) hend (by omega), bd_S]
    dsimp only [sm_e]
    rw [hK.p2, bd_S]
  · unfold f_Kc_raiseTo
    rw [hK.la, bd_S, hK.w, bd_S, ln_tab hl hS l2 e2, bd_S, sl_f, bd_S, a1, show ii tb2.length = ii 5 from rfl, q1, sl_cv, bd_S, it_bad (n := 5) hstep hbad (by omega) (Classical.byContradiction fun hx => hnot fun i hi => Classical.byContradiction fun hp => hx ⟨i, hi, hp⟩), bd_S]
    rfl
end CH3
