section PK4
variable {G : ho_G} {R σ : ho_H} {S N : Nat} {L : Int32} {B : Nat → Nat → Int32}
/-- the same interval and the same code -/
def twin (bf cf : Nat → Int32) (n n' : Nat) : Prop := s_wd bf 0 = s_wd cf 0 ∧ ∀ i, i < 10 → bf (6 + n + i) = cf (6 + n' + i)
theorem Pk_isTwinOf_S {p m bn n p' m' bn' n' : Nat} {bf cf : Nat → Int32} (hP : isP G R S p m bn bf) (hP' : isP G R S p' m' bn' cf) (hn5 : bf 5 = ii n) (hn5' : cf 5 = ii n') (hn : n ≤ 32) (hn' : n' ≤ 32) (hbn : 16 + n ≤ bn) (hbn' : 16 + n' ≤ bn') (hN : 256 < N) : (twin bf cf n n' → f_Pk_isTwinOf G N (sl G R S L B) p p' = some 1) ∧ (¬ twin bf cf n n' → f_Pk_isTwinOf G N (sl G R S L B) p p' = some 0) := by
  have hstep : ∀ i, i < 10 → bf (6 + n + i) = cf (6 + n' + i) → f_Pk_isTwinOf_l15 G N (sl G R S L B) p p' (ii i) = some (.inl (ii (i + 1))) := by
    intro i hi hp
    have e0 : ((10 : Int32) ≤ ii i) = False := by rw [show (10 : Int32) = ii 10 from rfl, ii_le (by decide) (by omega)]; exact eq_false (by omega)
    have a2 : ii (6 + n) + ii i = ii (6 + n + i) := ii_add _ _
    have a2' : ii (6 + n') + ii i = ii (6 + n' + i) := ii_add _ _
    have a3 : ii i + 1 = ii (i + 1) := ii_add _ 1
    simp only [f_Pk_isTwinOf_l15, e0, ↓reduceIte, hP.b, hP.f, hP'.b, hP'.f, bd_S, Pk_codeAt_S hP (show 6 ≤ bn by omega) hn5, Pk_codeAt_S hP' (show 6 ≤ bn' by omega) hn5', a2, a2', ld_S hP.rI (show 6 + n + i < bn by omega) (show 6 + n + i < 2147483648 by omega), ld_S hP'.rI (show 6 + n' + i < bn' by omega) (show 6 + n' + i < 2147483648 by omega), hp, a3]
  have hbad : ∀ i, i < 10 → ¬ bf (6 + n + i) = cf (6 + n' + i) → f_Pk_isTwinOf_l15 G N (sl G R S L B) p p' (ii i) = some (.inr (.inr 0)) := by
    intro i hi hp
    have e0 : ((10 : Int32) ≤ ii i) = False := by rw [show (10 : Int32) = ii 10 from rfl, ii_le (by decide) (by omega)]; exact eq_false (by omega)
    have a2 : ii (6 + n) + ii i = ii (6 + n + i) := ii_add _ _
    have a2' : ii (6 + n') + ii i = ii (6 + n' + i) := ii_add _ _
    simp only [f_Pk_isTwinOf_l15, e0, ↓reduceIte, hP.b, hP.f, hP'.b, hP'.f, bd_S, Pk_codeAt_S hP (show 6 ≤ bn by omega) hn5, Pk_codeAt_S hP' (show 6 ≤ bn' by omega) hn5', a2, a2', ld_S hP.rI (show 6 + n + i < bn by omega) (show 6 + n + i < 2147483648 by omega), ld_S hP'.rI (show 6 + n' + i < bn' by omega) (show 6 + n' + i < 2147483648 by omega), hp]
  have hend : f_Pk_isTwinOf_l15 G N (sl G R S L B) p p' (ii 10) = some (.inr (.inl ())) := by
    simp only [f_Pk_isTwinOf_l15]
    rw [if_pos (show (10 : Int32) ≤ ii 10 by decide)]
  unfold f_Pk_isTwinOf
  rw [hP.f, bd_S, Pk_interval_S hP (by omega), bd_S, hP'.f, bd_S, Pk_interval_S hP' (by omega), bd_S]
  refine ⟨fun ⟨h1, hall⟩ => ?_, fun hnot => ?_⟩
  · rw [if_pos h1, it_all (fun i hi => hstep i hi (hall i hi)) hend (by omega), bd_S]
    rfl
  · by_cases h1 : s_wd bf 0 = s_wd cf 0
    · rw [if_pos h1, it_bad (n := 10) hstep hbad (by omega) (Classical.byContradiction fun hx => hnot ⟨h1, fun i hi => Classical.byContradiction fun hp => hx ⟨i, hi, hp⟩⟩), bd_S]
      rfl
    · rw [if_neg h1]
end PK4
