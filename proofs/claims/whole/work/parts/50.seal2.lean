/-! the class's seal is the model's -/
theorem start_row {key g msg : Nat → Int32} {kw : Nat} {c p : Int32} (hc : c.toBitVec.ushiftRight 8 = 0#32) (hp : p.toBitVec = (((c.toBitVec <<< 24) ||| (c.toBitVec <<< 16)) ||| (c.toBitVec <<< 8)) ||| c.toBitVec) : rowI (ovr (fun i => (if i < kw then key i else 0) ^^^ p) (ovr (fun _ => 0) g 32) 16) (s_ky (s_bs key) (4 * kw) c msg) 64 := by
  intro j hj
  by_cases h : j < 16
  · rw [ovr_lt h]
    refine (s_wd_ky (key := key) (kw := kw) (j := j) hc hp).symm.trans ?_
    have e : ∀ q, q < 4 → (if 4 * j + q < 4 * kw then s_bs key (4 * j + q) else 0) ^^^ c = msk (s_ky (s_bs key) (4 * kw) c msg) 64 (4 * j + q) := by
      intro q hq
      rw [msk_lt (by omega)]
      unfold s_ky
      rw [if_pos (show 4 * j + q < 64 by omega)]
    exact s_wd_congr (e 0 (by decide)) (e 1 (by decide)) (e 2 (by decide)) (e 3 (by decide))
  · rw [ovr_ge h, ovr_lt hj]
    unfold s_wd
    rw [msk_ge (by omega), msk_ge (by omega), msk_ge (by omega), msk_ge (by omega)]
    decide
section SE2
variable {G : ho_G} {R : ho_H} {S N : Nat} {L : Int32} {B : Nat → Nat → Int32}
theorem Sl_seal_l {m bn n : Nat} {bf f : Nat → Int32} {a : Nat} {x y : Int32} (hm : srd G R S (B 2) m bn bf) (hn : n ≤ 38) (hbn : n ≤ bn) (hf : ∀ k, k < n → f (64 + k) = bf k) (hr : rowI (B 3) f 64) (hN : 256 < N) : ∃ σ', ho_it (f_Sl_seal_l12 G N S a x y m (ii n)) N (sl G R S 64 B, 0) = some σ' ∧ ∃ B', σ' = sl G R S (ii (64 + n)) B' ∧ rowI (B' 3) f (64 + n) ∧ B' 2 = B 2 := by
  refine it_ex n (fun k s => ∃ B', s = (sl G R S (ii (64 + k)) B', ii k) ∧ rowI (B' 3) f (64 + k) ∧ B' 2 = B 2) _ ?_ ?_ (by omega) ⟨B, rfl, hr, rfl⟩
  · rintro k s hk ⟨B', rfl, g1, g2⟩
    have e0 : (ii n ≤ ii k) = False := by rw [ii_le (by omega) (by omega)]; exact eq_false (by omega)
    have a4 : ii k + 1 = ii (k + 1) := ii_add _ 1
    have st : f_Sl_seal_l12 G N S a x y m (ii n) (sl G R S (ii (64 + k)) B', ii k) = some (.inl (sl G R S (ii (64 + k + 1)) (upA B' 3 (upd (B' 3) ((64 + k) / 4) (B' 3 ((64 + k) / 4) ||| ho_sl (bf k) (ii (24 - 8 * ((64 + k) % 4)))))), ii (k + 1))) := by
      simp only [f_Sl_seal_l12, e0, ↓reduceIte, hm.ld g2 (show k < bn by omega) (show k < 2147483648 by omega), bd_S, sl_f, Sl_addByte_S (show 64 + k < 120 by omega), sl_cv, a4]
    refine ⟨_, st, _, rfl, ?_, ?_⟩
    · rw [upA_eq]
      exact g1.add (by omega) (hf k hk).symm
    · rw [upA_ne (by decide), g2]
  · rintro s ⟨B', rfl, g1, g2⟩
    refine ⟨_, ?_, B', rfl, g1, g2⟩
    simp only [f_Sl_seal_l12]
    rw [if_pos (by rw [ii_le (by omega) (by omega)]; exact Nat.le_refl _)]
theorem Sl_seal_S {a kn kw fr m bn n : Nat} {kf bf : Nat → Int32} (hk : srd G R S (B 2) a kn kf) (hm : srd G R S (B 2) m bn bf) (hkw : kw ≤ 16) (hkn : fr + kw ≤ kn) (hfr : fr < 2147483000) (hn : n ≤ 38) (hbn : n ≤ bn) (ht : stab G R S) (hN : 256 < N) : ∃ L' B', f_Sl_seal G N (sl G R S L B) S a (ii fr) (ii kw) m (ii n) = some (sl G R S L' B') ∧ (∀ i, i < 8 → B' 1 i = s_sl (s_bs fun i => kf (fr + i)) (4 * kw) bf n i) ∧ B' 2 = B 2 := by
  unfold f_Sl_seal
  rw [sl_f, bd_S, Sl_start_S hk hkw hkn hfr hN, sl_cv, bd_S]
  obtain ⟨σ1, g1, B1, rfl, g2, g3⟩ := Sl_seal_l (G := G) (R := R) (S := S) (N := N) (a := a) (x := ii fr) (y := ii kw) (B := upA B 3 (ovr (fun i => (if i < kw then kf (fr + i) else 0) ^^^ 909522486) (ovr (fun _ => 0) (B 3) 32) 16)) (f := s_ky (s_bs fun i => kf (fr + i)) (4 * kw) 54 bf) (m := m) (bn := bn) (n := n) (bf := bf) (by rw [upA_ne (by decide)]; exact hm) hn hbn (fun k hk => by unfold s_ky; rw [if_neg (by omega), Nat.add_sub_cancel_left]) (by rw [upA_eq]; exact start_row (key := fun i => kf (fr + i)) (by decide) (by decide)) hN
  have g3 : B1 2 = B 2 := g3.trans (upA_ne (by decide))
  rw [g1, bd_S, sl_f, bd_S]
  obtain ⟨L2, B2, f1, f2, f3⟩ := Sl_finish_S (G := G) (R := R) (S := S) (N := N) (B := B1) (n := 64 + n) (by omega) g2 ht hN
  have f3 : B2 2 = B 2 := f3.trans g3
  have hk2 : srd G R S (B2 2) a kn kf := by rw [f3]; exact hk
  rw [f1, sl_cv, bd_S, sl_f, bd_S, Sl_start_S hk2 hkw hkn hfr hN, sl_cv, bd_S, sl_r0, bd_S, sl_r2, bd_S]
  have hcp : ∀ (L : Int32) (B : Nat → Nat → Int32), ho_cpI G (sl G R S L B) (S + 1) 0 (S + 3) 16 8 = some (sl G R S L (upA B 3 (va_cpy (B 1) (B 3) 0 16 8))) := by
    intro L B
    have := cp_S (G := G) (σ := sl G R S L B) (src := S + 1) (dst := S + 3) (sp := 0) (dp := 16) (n := 8) (sl_rI (by decide) (by decide)) (sl_aI (by decide) (by decide)) (show 0 + 8 ≤ 8 by decide) (show 16 + 8 ≤ 32 by decide) (by decide) (by decide) (by decide)
    rw [show ho_set (sl G R S L B) (S + 3) (.inl (gc G 0, (ssz 3, B 3).1, .inl (va_cpy (ssz 1, B 1).2 (ssz 3, B 3).2 0 16 8))) = sl G R S L (upA B 3 (va_cpy (B 1) (B 3) 0 16 8)) from sl_set (by decide) (by decide)] at this
    exact this
  rw [hcp, bd_S, sl_i3, bd_S, sl_p3, bd_S, sl_f, bd_S, show (64 : Int32) + 32 = ii 96 from rfl]
  simp only [upA_upA, upA_eq]
  rw [show upA B2 3 (ovr (fun i => (if i < kw then kf (fr + i) else 0) ^^^ 1549556828) (ovr (fun _ => 0) (B2 3) 32) 16) 1 = B2 1 from upA_ne (by decide)]
  have hs := start_row (key := fun i => kf (fr + i)) (g := B2 3) (msg := s_bs (B2 1)) (kw := kw) (c := 92) (p := 1549556828) (by decide) (by decide)
  obtain ⟨L3, B3, h1, h2, h3⟩ := Sl_finish_S (G := G) (R := R) (S := S) (N := N) (B := upA B2 3 (va_cpy (B2 1) (ovr (fun i => (if i < kw then kf (fr + i) else 0) ^^^ 1549556828) (ovr (fun _ => 0) (B2 3) 32) 16) 0 16 8)) (n := 96) (f := s_ky (s_bs fun i => kf (fr + i)) (4 * kw) 92 (s_bs (B2 1))) (by decide) (by
    intro j hj
    rw [upA_eq]
    unfold va_cpy
    by_cases c : 16 ≤ j ∧ j < 16 + 8
    · rw [if_pos c, Nat.zero_add, ← s_wd_bs (w := B2 1) (j := j - 16)]
      have e : ∀ q, q < 4 → s_bs (B2 1) (4 * (j - 16) + q) = msk (s_ky (s_bs fun i => kf (fr + i)) (4 * kw) 92 (s_bs (B2 1))) 96 (4 * j + q) := by
        intro q hq
        rw [msk_lt (by omega)]
        unfold s_ky
        rw [if_neg (by omega), show 4 * j + q - 64 = 4 * (j - 16) + q by omega]
      unfold s_wd
      rw [e 1 (by decide), e 2 (by decide), e 3 (by decide), show s_bs (B2 1) (4 * (j - 16)) = _ from e 0 (by decide), Nat.add_zero]
    · rw [if_neg c, hs j hj]
      have e : ∀ q, q < 4 → msk (s_ky (s_bs fun i => kf (fr + i)) (4 * kw) 92 (s_bs (B2 1))) 64 (4 * j + q) = msk (s_ky (s_bs fun i => kf (fr + i)) (4 * kw) 92 (s_bs (B2 1))) 96 (4 * j + q) := by
        intro q hq
        by_cases d : j < 16
        · rw [msk_lt (by omega), msk_lt (by omega)]
        · rw [msk_ge (by omega), msk_ge (by omega)]
      exact s_wd_congr (e 0 (by decide)) (e 1 (by decide)) (e 2 (by decide)) (e 3 (by decide))) ht hN
  rw [h1, sl_cv, bd_S]
  refine ⟨_, _, rfl, fun i hi => ?_, ?_⟩
  · rw [h2 i hi]
    unfold s_sl
    refine s_dg_congr (fun k hk => ?_) i hi
    unfold s_ky
    by_cases c : k < 64
    · rw [if_pos c, if_pos c]
    · rw [if_neg c, if_neg c]
      exact s_bs_congr (f2 _ (by omega))
  · rw [h3, upA_ne (by decide), f3]
end SE2
