/-! the sealer: finish, start with a key, seal -/
theorem s_bl_n {r h : Nat → Int32} {i n : Nat} (hn : n = 64) : s_bl r h i = h i + s_rs (s_w r) h n i := by
  subst hn
  rfl
section SF
variable {G : ho_G} {R : ho_H} {S N : Nat} {L : Int32} {B : Nat → Nat → Int32}
theorem Sl_fin_l {b : Nat} (hb : b ≤ 2) (ht : stab G R S) (h1 : ∀ i, i < 8 → B 1 i = tb0.getD i 0) (hN : 256 < N) : ∃ σ', ho_it (f_Sl_finish_l59 G N S (ii b)) N (sl G R S L B, 0) = some σ' ∧ ∃ B', σ' = sl G R S L B' ∧ (∀ i, i < 8 → B' 1 i = s_hs (B 3) b i) ∧ B' 2 = B 2 := by
  obtain ⟨n, hn⟩ : ∃ n : Nat, n = 64 := ⟨_, rfl⟩
  refine it_ex b (fun k s => ∃ B', s = (sl G R S L B', ii k) ∧ (∀ i, i < 8 → B' 1 i = s_hs (B 3) k i) ∧ B' 2 = B 2 ∧ B' 3 = B 3) _ ?_ ?_ (by omega) ⟨B, rfl, h1, rfl, rfl⟩
  · rintro k s hk ⟨B', rfl, g1, g2, g3⟩
    have e0 : (ii b ≤ ii k) = False := by rw [ii_le (by omega) (by omega)]; exact eq_false (by omega)
    have a4 : ii k + 1 = ii (k + 1) := ii_add _ 1
    have a5 : ii k * 16 = ii (16 * k) := by rw [show (16 : Int32) = ii 16 from rfl, ii_mul, Nat.mul_comm]
    have st : f_Sl_finish_l59 G N S (ii b) (sl G R S L B', ii k) = some (.inl (sl G R S L (upA (upA B' 4 (ovr (s_w fun q => B' 3 (16 * k + q)) (B' 4) 64)) 1 (ovr (fun i => upA B' 4 (ovr (s_w fun q => B' 3 (16 * k + q)) (B' 4) 64) 1 i + s_rs (upA B' 4 (ovr (s_w fun q => B' 3 (16 * k + q)) (B' 4) 64) 4) (upA B' 4 (ovr (s_w fun q => B' 3 (16 * k + q)) (B' 4) 64) 1) n i) (upA B' 4 (ovr (s_w fun q => B' 3 (16 * k + q)) (B' 4) 64) 1) 8)), ii (k + 1))) := by
      simp only [f_Sl_finish_l59, e0, ↓reduceIte, sl_f, bd_S, a5, Sl_spread_S (show 16 * k + 16 ≤ 32 by omega) hN, sl_cv, Sl_mix_S hn ht hN, a4]
    refine ⟨_, st, _, rfl, fun i hi => ?_, ?_, ?_⟩
    · rw [upA_eq, ovr_lt hi]
      show _ = s_bl _ _ i
      rw [s_bl_n hn, upA_ne (by decide), g1 i hi]
      refine congrArg (fun z => s_hs (B 3) k i + z) (s_rs_congr g1 n ?_ i hi)
      intro q hq
      rw [upA_eq, ovr_lt (by omega), g3]
    · rw [upA_ne (by decide), upA_ne (by decide), g2]
    · rw [upA_ne (by decide), upA_ne (by decide), g3]
  · rintro s ⟨B', rfl, g1, g2, g3⟩
    refine ⟨_, ?_, B', rfl, g1, g2⟩
    simp only [f_Sl_finish_l59]
    rw [if_pos (by rw [ii_le (by omega) (by omega)]; exact Nat.le_refl _)]
theorem Sl_finish_S {n : Nat} {f : Nat → Int32} (hn : n ≤ 110) (hr : rowI (B 3) f n) (ht : stab G R S) (hN : 256 < N) : ∃ L' B', f_Sl_finish G N (sl G R S (ii n) B) S = some (sl G R S L' B') ∧ (∀ i, i < 8 → B' 1 i = s_dg f n i) ∧ B' 2 = B 2 := by
  have hb : s_T n / 64 = (n + 72) / 64 := by unfold s_T; omega
  have a0 : ((((ii (n + 1) + 8) + 64) - 1) / 64) = ii (s_T n / 64) := by
    rw [show (8 : Int32) = ii 8 from rfl, ii_add, show (64 : Int32) = ii 64 from rfl, ii_add, show (1 : Int32) = ii 1 from rfl, ii_sub (by omega), ii_div (by omega) (by decide), hb]
    congr 1
  have a1 : ii (s_T n / 64) * 16 - 1 = ii (16 * (s_T n / 64) - 1) := by
    rw [show (16 : Int32) = ii 16 from rfl, ii_mul, show (1 : Int32) = ii 1 from rfl, ii_sub (by omega), Nat.mul_comm]
  have a2 : 8 * ii n = ii (8 * n) := by rw [show (8 : Int32) = ii 8 from rfl, ii_mul]
  obtain ⟨f0, f1, t1, t2, t3, t4⟩ := id ht
  have hrow : rowI (upd (B 3) (n / 4) (B 3 (n / 4) ||| ho_sl 128 (ii (24 - 8 * (n % 4))))) (fun k => if k = n then 128 else f k) (n + 1) := by
    refine rowI.add (fun j hj => ?_) (by omega) (by rw [if_pos rfl])
    rw [hr j hj]
    have e : ∀ k, msk f n k = msk (fun k => if k = n then 128 else f k) n k := by
      intro k
      unfold msk
      by_cases h : k < n
      · rw [if_pos h, if_pos h]
        exact (if_neg (by omega)).symm
      · rw [if_neg h, if_neg h]
    exact s_wd_congr (e _) (e _) (e _) (e _)
  have hcp : ∀ (L : Int32) (B : Nat → Nat → Int32), ho_cpI G (sl G R S L B) (gA G 0) 0 (S + 1) 0 8 = some (sl G R S L (upA B 1 (va_cpy f0 (B 1) 0 0 8))) := by
    intro L B
    have := cp_S (G := G) (σ := sl G R S L B) (src := gA G 0) (dst := S + 1) (sp := 0) (dp := 0) (n := 8) (t1 L B) (sl_aI (by decide) (by decide)) (show 0 + 8 ≤ 8 by decide) (show 0 + 8 ≤ 8 by decide) (by decide) (by decide) (by decide)
    rw [show ho_set (sl G R S L B) (S + 1) (.inl (gc G 0, (ssz 1, B 1).1, .inl (va_cpy (8, f0).2 (ssz 1, B 1).2 0 0 8))) = sl G R S L (upA B 1 (va_cpy f0 (B 1) 0 0 8)) from sl_set (by decide) (by decide)] at this
    exact this
  unfold f_Sl_finish
  rw [sl_i3, bd_S, sl_f, bd_S, Sl_addByte_S (by omega), sl_cv, bd_S, sl_i3, bd_S, sl_r2, bd_S, a0, a1, a2, sl_st3 (by omega), bd_S, sl_r0, bd_S, hcp, bd_S]
  simp only [upA_upA, upA_eq]
  obtain ⟨σ', g1, B', rfl, g2, g3⟩ := Sl_fin_l (G := G) (R := R) (S := S) (N := N) (L := ii (n + 1)) (B := upA (upA B 3 (upd (upd (B 3) (n / 4) (B 3 (n / 4) ||| ho_sl 128 (ii (24 - 8 * (n % 4))))) (16 * (s_T n / 64) - 1) (ii (8 * n)))) 1 (va_cpy f0 (upA B 3 (upd (upd (B 3) (n / 4) (B 3 (n / 4) ||| ho_sl 128 (ii (24 - 8 * (n % 4))))) (16 * (s_T n / 64) - 1) (ii (8 * n))) 1) 0 0 8)) (b := s_T n / 64) (by omega) ht (fun i hi => by
    rw [upA_eq]
    unfold va_cpy
    rw [if_pos (by omega), Nat.sub_zero, Nat.zero_add]
    exact t3 i hi) hN
  rw [g1, bd_S]
  refine ⟨_, _, rfl, fun i hi => ?_, ?_⟩
  · rw [g2 i hi]
    unfold s_dg
    refine s_hs_congr _ (fun k hk => ?_) i hi
    rw [upA_ne (by decide), upA_eq]
    exact hrow.pad hn k hk
  · rw [g3, upA_ne (by decide), upA_ne (by decide)]
/-- a row of ints that the sealer reads and does not write -/
def srd (G : ho_G) (R : ho_H) (S : Nat) (C : Nat → Int32) (a n : Nat) (f : Nat → Int32) : Prop := ∀ L B, B 2 = C → ho_rI G (sl G R S L B) a = some (n, f)
theorem srd.ld {C f : Nat → Int32} {a n i : Nat} (h : srd G R S C a n f) (hB : B 2 = C) (hi : i < n) (hi2 : i < 2147483648) : ho_ldI G (sl G R S L B) a (ii i) = some (f i) := by
  unfold ho_ldI
  rw [h L B hB, bd_S, ii_ix hi hi2]
  rfl
theorem Sl_start_S {a kn kw fr : Nat} {kf : Nat → Int32} {pad : Int32} (hk : srd G R S (B 2) a kn kf) (hkw : kw ≤ 16) (hkn : fr + kw ≤ kn) (hfr : fr < 2147483000) (hN : 256 < N) : f_Sl_startWithKey G N (sl G R S L B) S a (ii fr) (ii kw) pad = some (sl G R S 64 (upA B 3 (ovr (fun i => (if i < kw then kf (fr + i) else 0) ^^^ pad) (ovr (fun _ => 0) (B 3) 32) 16))) := by
  unfold f_Sl_startWithKey
  rw [sl_f, bd_S, Sl_clear_S hN, sl_cv, bd_S]
  have e : ho_it (f_Sl_startWithKey_l7 G N S a (ii fr) (ii kw) pad) N (sl G R S 0 (upA B 3 (ovr (fun _ => 0) (B 3) 32)), 0) = some (sl G R S 0 (upA B 3 (ovr (fun i => (if i < kw then kf (fr + i) else 0) ^^^ pad) (ovr (fun _ => 0) (B 3) 32) 16))) := by
    refine it_for 16 (fun k => (sl G R S 0 (upA B 3 (ovr (fun i => (if i < kw then kf (fr + i) else 0) ^^^ pad) (ovr (fun _ => 0) (B 3) 32) k)), ii k)) _ (fun k hk2 => ?_) ?_ (by omega) (by rw [ovr_0]; rfl)
    · have e0 : ((16 : Int32) ≤ ii k) = False := by rw [show (16 : Int32) = ii 16 from rfl, ii_le (by decide) (by omega)]; exact eq_false (by omega)
      have a4 : ii k + 1 = ii (k + 1) := ii_add _ 1
      have a5 : ii fr + ii k = ii (fr + k) := ii_add _ _
      by_cases h : k < kw
      · have e1 : (ii kw ≤ ii k) = False := by rw [ii_le (by omega) (by omega)]; exact eq_false (by omega)
        simp only [f_Sl_startWithKey_l7, f_Sl_startWithKey_j36_in7, e0, e1, ↓reduceIte, sl_r2, bd_S, a5, hk.ld (upA_ne (show 2 ≠ 3 by decide)) (show fr + k < kn by omega) (show fr + k < 2147483648 by omega), sl_st3 (show k < 32 by omega), a4]
        rw [upA_upA, upA_eq, ovr_up (by rw [if_pos h])]
      · have e1 : (ii kw ≤ ii k) = True := by rw [ii_le (by omega) (by omega)]; exact eq_true (by omega)
        simp only [f_Sl_startWithKey_l7, f_Sl_startWithKey_j36_in7, e0, e1, ↓reduceIte, sl_r2, bd_S, sl_st3 (show k < 32 by omega), a4]
        rw [upA_upA, upA_eq, ovr_up (by rw [if_neg h])]
    · simp only [f_Sl_startWithKey_l7]
      rw [if_pos (show (16 : Int32) ≤ ii 16 by decide)]
  rw [e, bd_S, sl_p3, bd_S]
end SF
