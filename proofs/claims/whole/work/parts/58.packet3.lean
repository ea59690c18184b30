section PK3
variable {G : ho_G} {R σ : ho_H} {S N : Nat} {L : Int32} {B : Nat → Nat → Int32}
/-- a packet that is not broken -/
def pkok (bn n kd : Nat) (g : Int32) : Prop := bn = 36 + n ∧ n ≤ 32 ∧ kd ≤ 1 ∧ (kd = 1 → n = 20) ∧ ¬ g < 1 ∧ g ≤ 512
theorem Pk_isBroken_S {p m bn n kd : Nat} {bf : Nat → Int32} (hP : isP G R S p m bn bf) (h5 : bf 5 = ii n) (h4 : bf 4 = ii kd) (hn : n < 256) (hkd : kd < 256) (hb : 6 ≤ bn) (hb2 : bn < 1000) : (pkok bn n kd (s_wd bf 0) → f_Pk_isBroken G N (sl G R S L B) p = some 0) ∧ (¬ pkok bn n kd (s_wd bf 0) → f_Pk_isBroken G N (sl G R S L B) p = some 1) := by
  have hln : ho_lnI G (sl G R S L B) m = some (ii bn) := by
    unfold ho_lnI
    rw [hP.rI]
    rfl
  have a1 : (36 : Int32) + ii n = ii (36 + n) := ii_add 36 n
  have e1 : (ii bn = ii (36 + n)) = (bn = 36 + n) := ii_inj (by omega) (by omega)
  have e2 : ((32 : Int32) < ii n) = (32 < n) := ii_lt (a := 32) (by decide) (by omega)
  have e3 : (ii kd = (0 : Int32)) = (kd = 0) := ii_inj (b := 0) (by omega) (by decide)
  have e4 : (ii kd = (1 : Int32)) = (kd = 1) := ii_inj (b := 1) (by omega) (by decide)
  have e5 : (ii n = (20 : Int32)) = (n = 20) := ii_inj (b := 20) (by omega) (by decide)
  unfold pkok
  simp only [f_Pk_isBroken, f_Pk_isBroken_j43, f_Pk_isBroken_j57, f_Pk_isBroken_j69, f_Pk_isBroken_j74, hP.f, bd_S, Pk_size_S hP hb, Pk_interval_S hP hb, Pk_kind_S hP hb, hP.b, hln, h5, h4, a1, e1, e2, e3, e4, e5, ho_bz_0, ho_bz_1]
  generalize s_wd bf 0 = g
  refine ⟨fun ⟨c1, c2, c3, c4, c5, c6⟩ => ?_, fun hnot => ?_⟩
  · rw [if_neg (by omega), if_neg (by omega)]
    by_cases hk : kd = 0
    · rw [if_pos hk, if_pos (by omega), if_neg c5, if_pos c6]
    · rw [if_neg hk, if_neg (by omega), if_neg (by omega), if_neg (by omega), if_neg c5, if_pos c6]
  · by_cases c1 : bn = 36 + n
    · rw [if_neg (by omega)]
      by_cases c2 : 32 < n
      · rw [if_pos c2]
      · rw [if_neg c2]
        by_cases hk : kd = 0
        · rw [if_pos hk, if_pos (by omega)]
          by_cases c5 : g < 1
          · rw [if_pos c5]
          · rw [if_neg c5]
            by_cases c6 : g ≤ 512
            · exact absurd ⟨c1, by omega, by omega, fun h => by omega, c5, c6⟩ hnot
            · rw [if_neg c6]
        · rw [if_neg hk]
          by_cases hk1 : kd = 1
          · rw [if_neg (by omega), if_neg (by omega)]
            by_cases h20 : n = 20
            · rw [if_neg (by omega)]
              by_cases c5 : g < 1
              · rw [if_pos c5]
              · rw [if_neg c5]
                by_cases c6 : g ≤ 512
                · exact absurd ⟨c1, by omega, by omega, fun _ => h20, c5, c6⟩ hnot
                · rw [if_neg c6]
            · rw [if_pos (by omega)]
          · rw [if_pos (by omega)]
    · rw [if_pos c1]
end PK3
