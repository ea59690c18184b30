section CH2
variable {G : ho_G} {R : ho_H} {S N : Nat} {L : Int32} {B : Nat → Nat → Int32}
theorem ii_dec {n : Nat} (h : 1 ≤ n) : ii n + (-1) = ii (n - 1) := by
  rw [show (-1 : Int32) = -(ii 1) from rfl, ← Int32.sub_eq_add_neg, ii_sub h]
/-- a key chain's cells: the object at a, its words at w -/
def isK (G : ho_G) (R : ho_H) (S a w : Nat) (fi la : Int32) (f : Nat → Int32) : Prop := ho_f R a 2 = some [.ref w, .int fi, .int la] ∧ ho_aI G R w 0 = some (325, f) ∧ (a < S ∨ S + 5 ≤ a) ∧ (w < S ∨ S + 5 ≤ w) ∧ a ≠ w ∧ gB G ≤ w
theorem isK.ws {a w : Nat} {fi la : Int32} {f g : Nat → Int32} (h : isK G R S a w fi la f) : isK G (wset G R w 325 g) S a w fi la g := ⟨by rw [wset_f h.2.2.2.2.1]; exact h.1, wset_aI, h.2.2.1, h.2.2.2.1, h.2.2.2.2.1, h.2.2.2.2.2⟩
theorem isK.w {a w : Nat} {fi la : Int32} {f : Nat → Int32} (h : isK G R S a w fi la f) : ho_gR (sl G R S L B) a 2 0 = some w := by
  rw [sl_gRO h.2.2.1]
  unfold ho_gR
  rw [h.1]
  rfl
theorem isK.la {a w : Nat} {fi la : Int32} {f : Nat → Int32} (h : isK G R S a w fi la f) : ho_gI (sl G R S L B) a 2 2 = some la := by
  rw [sl_gIO h.2.2.1]
  unfold ho_gI
  rw [h.1]
  rfl
theorem isK.fi {a w : Nat} {fi la : Int32} {f : Nat → Int32} (h : isK G R S a w fi la f) : ho_gI (sl G R S L B) a 2 1 = some fi := by
  rw [sl_gIO h.2.2.1]
  unfold ho_gI
  rw [h.1]
  rfl
theorem ln_tab {t n : Nat} {f : Nat → Int32} (hl : lowR G R) (hS : gB G ≤ S) (ht : t < gB G) (h : gR G t = some (n, f)) : ho_lnI G (sl G R S L B) t = some (ii n) := by
  rw [sl_lnO (Or.inl (by omega))]
  unfold ho_lnI
  rw [rI_tab hl ht h]
  rfl
theorem isK.rd {a w : Nat} {fi la : Int32} {f C : Nat → Int32} (h : isK G R S a w fi la f) : srd G R S C w 325 f := fun L B _ => by
  rw [sl_rO h.2.2.2.1]
  unfold ho_rI
  rw [ho_aI_E h.2.1]
  exact if_pos rfl
theorem isK.cp {a w d : Nat} {fi la : Int32} {f : Nat → Int32} (h : isK G R S a w fi la f) (hd : d + 5 ≤ 325) : ho_cpI G (sl G R S L B) (S + 1) 0 w (ii d) 5 = some (sl G (wset G R w 325 (va_cpy (B 1) f 0 d 5)) S L B) := by
  have := cp_S (G := G) (σ := sl G R S L B) (src := S + 1) (dst := w) (sp := 0) (dp := d) (n := 5) (sl_rI (by decide) (by decide)) ((sl_aO h.2.2.2.1).trans h.2.1) (show 0 + 5 ≤ 8 by decide) hd (by decide) (by omega) (by decide)
  rw [sl_setO h.2.2.2.1] at this
  exact this
theorem Kc_fillDown_S {a w k low : Nat} {fi la : Int32} {f : Nat → Int32} (hK : isK G R S a w fi la f) (hk : k ≤ 64) (hlow : low ≤ k) (hl : lowR G R) (hg : gtab G) (hS : gB G ≤ S) (hN : 256 < N) : ∃ f' L' B', f_Kc_fillDown G N (sl G R S L B) a (ii k) (ii low) S = some (sl G (wset G R w 325 f') S L' B') ∧ B' 2 = B 2 ∧ (∀ q, q < 5 * low ∨ 5 * k ≤ q → f' q = f q) ∧ ∀ j, low < j → j ≤ k → ∀ i, i < 5 → f' (5 * (j - 1) + i) = dnW (fun i => f' (5 * j + i)) i := by
  obtain ⟨l2, g2, e2, v2⟩ := hg 2 tb2 rfl
  unfold f_Kc_fillDown
  have key : ∃ σ', ho_it (f_Kc_fillDown_l3 G N a (ii low) S) N (sl G R S L B, ii k) = some σ' ∧ ∃ f' L' B', σ' = sl G (wset G R w 325 f') S L' B' ∧ B' 2 = B 2 ∧ (∀ q, q < 5 * low ∨ 5 * k ≤ q → f' q = f q) ∧ ∀ j, low < j → j ≤ k → ∀ i, i < 5 → f' (5 * (j - 1) + i) = dnW (fun i => f' (5 * j + i)) i := by
    refine it_ex (k - low) (fun t s => ∃ f' L' B', s = (sl G (wset G R w 325 f') S L' B', ii (k - t)) ∧ B' 2 = B 2 ∧ (∀ q, q < 5 * (k - t) ∨ 5 * k ≤ q → f' q = f q) ∧ ∀ j, k - t < j → j ≤ k → ∀ i, i < 5 → f' (5 * (j - 1) + i) = dnW (fun i => f' (5 * j + i)) i) _ ?_ ?_ (by omega) ⟨f, L, B, by rw [wset_self hK.2.1]; rfl, rfl, fun _ _ => rfl, fun j h1 h2 => absurd h1 (by omega)⟩
    · rintro t s ht ⟨f', L', B', rfl, p1, p2, p3⟩
      have e0 : (ii (k - t) ≤ ii low) = False := by rw [ii_le (by omega) (by omega)]; exact eq_false (by omega)
      have a1 : ii (k - t) * 5 = ii (5 * (k - t)) := by rw [show (5 : Int32) = ii 5 from rfl, ii_mul, Nat.mul_comm]
      have a2 : (ii (k - t) - 1) * 5 = ii (5 * (k - t - 1)) := by rw [show (1 : Int32) = ii 1 from rfl, ii_sub (by omega), show (5 : Int32) = ii 5 from rfl, ii_mul, Nat.mul_comm]
      have a3 : ii (k - t) + (-1) = ii (k - (t + 1)) := by rw [ii_dec (by omega)]; rfl
      have hl' : lowR G (wset G R w 325 f') := wset_low hl hK.2.2.2.2.2
      have hK' : isK G (wset G R w 325 f') S a w fi la f' := hK.ws
      obtain ⟨L2, B2, q1, q2, q3⟩ := Sl_dn (L := L') (B := B') (N := N) (fr := 5 * (k - t)) (hK'.rd (C := B' 2)) (by omega) (by omega) hl' hg hS hN
      have st : f_Kc_fillDown_l3 G N a (ii low) S (sl G (wset G R w 325 f') S L' B', ii (k - t)) = some (.inl (sl G (wset G R w 325 (va_cpy (B2 1) f' 0 (5 * (k - t - 1)) 5)) S L2 B2, ii (k - (t + 1)))) := by
        simp only [f_Kc_fillDown_l3, e0, ↓reduceIte, hK'.w, bd_S, ln_tab hl' hS l2 e2, sl_f, a1, show ii tb2.length = ii 5 from rfl, q1, sl_cv, sl_r0, a2, hK'.cp (show 5 * (k - t - 1) + 5 ≤ 325 by omega), a3, wset_wset]
      refine ⟨_, st, _, _, _, rfl, q3.trans p1, fun q hq => ?_, fun j h1 h2 i hi => ?_⟩
      · unfold va_cpy
        rw [if_neg (by omega)]
        exact p2 q (by omega)
      · by_cases hj : j = k - t
        · subst hj
          have e1 : va_cpy (B2 1) f' 0 (5 * (k - t - 1)) 5 (5 * (k - t - 1) + i) = B2 1 i := by
            unfold va_cpy
            rw [if_pos (by omega), Nat.zero_add, Nat.add_sub_cancel_left]
          rw [e1, q2 i (by omega)]
          refine dnW_congr (fun z hz => ?_) i (by omega)
          unfold va_cpy
          rw [if_neg (by omega)]
        · have e1 : va_cpy (B2 1) f' 0 (5 * (k - t - 1)) 5 (5 * (j - 1) + i) = f' (5 * (j - 1) + i) := by
            unfold va_cpy
            rw [if_neg (by omega)]
          rw [e1, p3 j (by omega) h2 i hi]
          refine dnW_congr (fun z hz => ?_) i (by omega)
          unfold va_cpy
          rw [if_neg (by omega)]
    · rintro s ⟨f', L', B', rfl, p1, p2, p3⟩
      rw [show k - (k - low) = low by omega] at p2 p3 ⊢
      refine ⟨_, ?_, f', L', B', rfl, p1, p2, p3⟩
      simp only [f_Kc_fillDown_l3]
      rw [if_pos (by rw [ii_le (by omega) (by omega)]; exact Nat.le_refl _)]
  obtain ⟨σ', h1, f', L', B', rfl, h2, h3, h4⟩ := key
  rw [h1, bd_S]
  exact ⟨f', L', B', rfl, h2, h3, h4⟩
end CH2
