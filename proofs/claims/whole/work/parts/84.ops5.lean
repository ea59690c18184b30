/-! digest, chain -/
theorem s_wd_z {f : Nat → Int32} {i : Nat} (h : ∀ k, f k = 0) : s_wd f i = 0 := by
  unfold s_wd
  rw [h, h, h, h, sl_z24, sl_z16, sl_z8]
  decide
theorem mkeep.mrc {A A' : Nat → Nat → Int32} {r : Nat} {s : RS} (h : mkeep A A') (hm : mrc A r s) : mrc A' r s := hm.eq fun j hj => h j fun hh => fre_of hj hh
section OV
variable {G : ho_G} {σ : ho_H} {w : Nat → Nat} {N O n M : Nat} {C : CK} {cc : Nat} {bf : Nat → Int32} {W : Nat → Nat → Int32} {PL : List PQ} {ρ : Nat → RS} {dr : Nat → Int32} {I : Nat → Int32} {A : Nat → Nat → Int32}
/-- the class after a call that used the sealer alone -/
theorem cls.slr {L : Int32} {B : Nat → Nat → Int32} (g1 : cls G σ w O C cc bf W PL ρ dr) : cls G (sl G σ (O + 2) L B) w O C cc bf W PL ρ dr ∧ frm σ w (sl G σ (O + 2) L B) w (TT O) := by
  have f1 : frm σ w (sl G σ (O + 2) L B) w (fun a _ => O + 2 ≤ a ∧ a < O + 7) := frm.refl.sl (fun a h1 h2 => ⟨h1, h2⟩)
  obtain ⟨c1, c2, c3, c4, c5, c6, c7, c8, c9⟩ := g1
  have b1 := c1.1
  exact ⟨⟨c1.sl (Nat.le_refl _) b1 rfl, c2.fr b1 f1 (by omega), c3.fr b1 f1 (by omega), c4.fr b1 f1 (by omega), c5.fr b1 f1 (fun a a1 a2 => by omega), c6.fr b1 f1 (by omega) (fun a ha => by omega) (fun a ha => by omega), c7.fr b1 f1 (by omega), c8.fr b1 f1 (fun a a1 a2 => by omega) (fun a o a1 a2 => by omega), c9.fr b1 f1 (by omega)⟩, f1.mono fun a _ ht => by intro hh; omega⟩
theorem dg_l45 {m : Nat} {y : Int32} {f : Nat → Int32} {B : Nat → Nat → Int32} (g1 : cls G σ w O C cc bf W PL ρ dr) (hf : σ.2.2 (O + 7) = some (.inl (gc G 0, 8, .inl f))) (hm : m ≤ 32) (hN : 301 < N) : ∃ σ', ho_it (f_Of_digest_l45 G N O (ii m) y) N (sl G σ (O + 2) 0 (upA B 3 (ovr (fun _ => 0) (B 3) 32)), 0) = some σ' ∧ ∃ B', σ' = sl G σ (O + 2) (ii m) B' ∧ rowI (B' 3) (s_bs f) m := by
  refine it_ex m (fun k s => ∃ B', s = (sl G σ (O + 2) (ii k) B', ii k) ∧ rowI (B' 3) (s_bs f) k) _ ?_ ?_ (by omega) ⟨_, rfl, fun j hj => ?_⟩
  · rintro k s hk ⟨B1, rfl, p1⟩
    have r1 : ho_gR (sl G σ (O + 2) (ii k) B1) O 5 1 = some (O + 2) := by
      rw [sl_gRO (Or.inl (by omega))]
      exact c_R g1.2.1 rfl
    have r2 : ho_gR (sl G σ (O + 2) (ii k) B1) O 5 2 = some (O + 7) := by
      rw [sl_gRO (Or.inl (by omega))]
      exact c_R g1.2.1 rfl
    have b1 : f_Of_byteOf G N (sl G σ (O + 2) (ii k) B1) (O + 7) (ii k) = some (s_bs f k) := Of_byteOf_S (by rw [sl_rO (Or.inr (by omega))]; exact c_r hf) (by omega) (by omega)
    have st : f_Of_digest_l45 G N O (ii m) y (sl G σ (O + 2) (ii k) B1, ii k) = some (.inl (sl G σ (O + 2) (ii (k + 1)) (upA B1 3 (upd (B1 3) (k / 4) (B1 3 (k / 4) ||| ho_sl (s_bs f k) (ii (24 - 8 * (k % 4)))))), ii (k + 1))) := by
      unfold f_Of_digest_l45
      dsimp only
      rw [if_neg (by rw [ii_le (by omega) (by omega)]; omega), r1, bd_S, r2, bd_S, b1, bd_S, sl_f, bd_S, Sl_addByte_S (by omega), sl_cv, bd_S, ii_1]
    refine ⟨_, st, _, rfl, ?_⟩
    rw [upA_eq]
    exact p1.add (by omega) rfl
  · rintro s ⟨B1, rfl, p1⟩
    refine ⟨_, ?_, B1, rfl, p1⟩
    unfold f_Of_digest_l45
    dsimp only
    rw [if_pos (by rw [ii_le (by omega) (by omega)]; exact Nat.le_refl _)]
  · rw [upA_eq]
    unfold ovr
    rw [if_pos hj, s_wd_z]
    intro k
    exact msk_ge (by omega)
theorem mdg_l39 {R : ho_H} {m : Nat} {y : Int32} (hm : m ≤ 32) (hN : 301 < N) : ho_it (f_Md_digest_l39 G N M (ii m) y) N (md G R M I A, 0) = some (md G R M I (upA A 5 (ovr (s_bs (A 19)) (A 5) m))) := by
  refine it_for m (fun k => (md G R M I (upA A 5 (ovr (s_bs (A 19)) (A 5) k)), ii k)) _ (fun k hk => ?_) ?_ (by omega) (by rw [upA_up0]; rfl)
  · have e4 : ii k / 4 = ii (k / 4) := by rw [show (4 : Int32) = ii 4 from rfl, ii_div (by omega) (by decide)]
    have e5 : ho_rm (ii k) 4 = ii (k % 4) := by rw [show (4 : Int32) = ii 4 from rfl, ii_rm (by omega) (by decide)]
    have e6 : (24 : Int32) - 8 * ii (k % 4) = ii (24 - 8 * (k % 4)) := by rw [show (8 : Int32) = ii 8 from rfl, show (24 : Int32) = ii 24 from rfl, ii_mul, ii_sub (by omega)]
    unfold f_Md_digest_l39 f_Md_byteOf
    dsimp only
    rw [if_neg (by rw [ii_le (by omega) (by omega)]; omega), md_r5, bd_S, md_r19, bd_S, e4, md_ld19 (by omega), bd_S, e5, bd_S, e6, md_st5 (by omega), bd_S, ii_1, upA_upA, upA_eq, upA_ne (by decide), show upd (ovr (s_bs (A 19)) (A 5) k) k (ho_sr (A 19 (k / 4)) (ii (24 - 8 * (k % 4))) &&& 255) = ovr (s_bs (A 19)) (A 5) (k + 1) from ovr_up rfl]
  · unfold f_Md_digest_l39
    dsimp only
    rw [if_pos (by rw [ii_le (by omega) (by omega)]; exact Nat.le_refl _)]
theorem s_dg_congr' {f g : Nat → Int32} {n : Nat} (h : ∀ k, k < n → f k = g k) : ∀ i, i < 8 → s_dg f n i = s_dg g n i := s_dg_congr h
/-- digest -/
theorem J_digest {x y : Int32} (hg : good G σ w O n C cc bf W PL ρ dr) (hr : roomy G O n) (ht : gtab G) (hN : 1001 < N) : J G N σ O n (f_Lw_digest G N σ O x y (O + 226)) (fun s => f_Md_digest G N s (O + 195) x y) := by
  have g1 := hg.1
  unfold f_Lw_digest
  by_cases h1 : x < 0 ∨ 32 < x
  · have ho : f_Of_digest G N σ O x y = (ho_thr G σ).bind fun σ1 => some (σ1, .inl 1) := by
      unfold f_Of_digest f_Of_digest_j10
      by_cases h2 : x < 0
      · rw [if_pos h2]
      · rcases h1 with h1 | h1
        · exact absurd h1 h2
        · rw [if_neg h2, if_neg (Int32.not_le.mpr h1)]
    refine glue hg (lw_ex (k := 1) (v := 0) g1.2.1 (by rw [ho]; exact hg.th hr 1) (fun _ => rfl) (by decide)) (fun I A hm => ms_fail hm (by decide) fun R => ?_) hg.2.2.1.succ (by decide)
    unfold f_Md_digest
    rw [md_p12, bd_S, within_0 h1, bd_S, if_neg (fun h => h rfl), md_f, bd_S, fail_S, md_mono2, bd2_S]
    rfl
  · obtain ⟨m, hm32, rfl⟩ := rng2 (b := 32) (by decide) (fun h => h1 (Or.inl h)) (fun h => h1 (Or.inr h))
    by_cases h2 : y < 0 ∨ 7 < y
    · have ho : f_Of_digest G N σ O (ii m) y = (ho_thr G σ).bind fun σ1 => some (σ1, .inl 2) := by
        unfold f_Of_digest f_Of_digest_j28
        rw [if_neg (fun h => h1 (Or.inl h)), if_pos (Int32.not_lt.mp fun h => h1 (Or.inr h))]
        by_cases h3 : y < 0
        · rw [if_pos h3]
        · rw [if_neg h3, if_neg]
          intro h4
          rw [show (8 : Int32) = ii (7 + 1) from rfl, lt_succ (by decide) h3] at h4
          rcases h2 with h2 | h2
          · exact h3 h2
          · exact h4 h2
      refine glue hg (lw_ex (k := 2) (v := 0) g1.2.1 (by rw [ho]; exact hg.th hr 2) (fun _ => rfl) (by decide)) (fun I A hm => ms_fail hm (by decide) fun R => ?_) hg.2.2.1.succ (by decide)
      unfold f_Md_digest
      rw [md_p12, bd_S, within_1 h1, bd_S, if_pos (by decide), within_0 h2, bd_S, if_neg (fun h => h rfl), md_f, bd_S, fail_S, md_mono2, bd2_S]
      rfl
    · obtain ⟨i, hi7, rfl⟩ := rng2 (b := 7) (by decide) (fun h => h2 (Or.inl h)) (fun h => h2 (Or.inr h))
      obtain ⟨f, o1, o2⟩ := g1.2.2.1
      obtain ⟨hw, hO, hz, ⟨L, B, hσ⟩, hck⟩ := g1.1
      have hbs : ∀ k, k < m → s_bs f k = s_bs bf k := fun k hk => s_bs_congr (o2 _ (by omega))
      have ho : OS G σ w O (f_Of_digest G N σ O (ii m) (ii i)) (.inr (s_dg (s_bs bf) m i)) C cc bf W PL ρ dr := by
        have c1 := Sl_clear_S (G := G) (R := σ) (S := O + 2) (L := L) (B := B) (N := N) (by omega)
        rw [← hσ] at c1
        obtain ⟨σ2, d1, B2, rfl, d2⟩ := dg_l45 (N := N) (y := ii i) (B := B) g1 o1 hm32 (by omega)
        obtain ⟨L3, B3, e1, e2, -⟩ := Sl_finish_S (G := G) (R := σ) (S := O + 2) (N := N) (n := m) (f := s_bs f) (by omega) d2 (stab_of hw.1 ht (by omega)) (by omega)
        have fS : ho_f σ (O + 2) 1 = some (slf (O + 2) L) := by
          have := sl_f (G := G) (R := σ) (S := O + 2) (L := L) (B := B)
          rw [← hσ] at this
          exact this
        obtain ⟨q1, q2⟩ := g1.slr (L := L3) (B := B3)
        refine ⟨_, w, ?_, q1, q2, Nat.le_add_right _ _, Nat.le_add_right _ _⟩
        unfold f_Of_digest
        rw [if_neg (fun h => h1 (Or.inl h)), if_pos (Int32.not_lt.mp fun h => h1 (Or.inr h)), if_neg (fun h => h2 (Or.inl h)), if_pos (by rw [show (8 : Int32) = ii 8 from rfl, ii_lt (by omega) (by decide)]; omega), c_R g1.2.1 rfl, bd_S, fS, bd_S, c1, cv_S (by exact Nat.le_refl _) (by exact Nat.le_refl _), bd_S, d1, bd_S, sl_gRO (Or.inl (by omega)), c_R g1.2.1 rfl, bd_S, sl_f, bd_S, e1, sl_cv, bd_S, sl_gRO (Or.inl (by omega)), c_R g1.2.1 rfl, bd_S, sl_r0, bd_S, sl_ld1 (by omega), bd_S, e2 i (by omega), s_dg_congr' hbs i (by omega)]
      refine glue hg (lw_ok g1.2.1 ho) (fun I A hm R => ?_) hg.2.2.1.succ (by decide)
      have hm' := hm.i (I' := upI (upI I 12 0) 6 (ii m)) fun j h1 h2 => by rw [upI_nn (by omega), upI_nn (by omega)]
      obtain ⟨m1, m2, m6, m7, m8, m9, m10, m11⟩ := hm'
      obtain ⟨A1, k1, k2, k3⟩ := Md_digestRow_D (G := G) (R := R) (M := O + 195) (N := N) (I := upI (upI I 12 0) 6 (ii m)) (A := upA A 5 (ovr (s_bs (A 19)) (A 5) m)) (n := m) (by omega) upI_ee (fun k hk => by rw [upA_ne (by decide)]; exact m1.1 k hk) (fun k hk => by rw [upA_ne (by decide)]; exact m1.2 k hk) (by omega)
      have zj : ∀ j, j ≠ 2 → j ≠ 3 → j ≠ 4 → j ≠ 5 → A1 j = A j := fun j q1 q2 q3 q4 => by rw [k3 j q1 q2 q3 q4, upA_ne q4]
      refine ⟨upI (upI I 12 0) 6 (ii m), A1, s_dg (s_bs bf) m i, ?_, by rw [upI_nn (by decide), upI_ee]; rfl, fun _ => rfl, ⟨⟨by rw [zj 0 (by decide) (by decide) (by decide) (by decide)]; exact m1.1, by rw [zj 1 (by decide) (by decide) (by decide) (by decide)]; exact m1.2⟩, m2, m6, m7, by rw [zj 19 (by decide) (by decide) (by decide) (by decide)]; exact m8, by rw [zj 20 (by decide) (by decide) (by decide) (by decide)]; exact m9, by rw [zj 21 (by decide) (by decide) (by decide) (by decide), zj 22 (by decide) (by decide) (by decide) (by decide)]; exact m10, fun r hr' => ⟨by rw [zj 23 (by decide) (by decide) (by decide) (by decide)]; exact (m11 r hr').1, (m11 r hr').2.eq2 fun j q1 q2 => zj j (by omega) (by omega) (by omega) (by omega)⟩⟩⟩
      unfold f_Md_digest
      rw [md_p12, bd_S, within_1 h1, bd_S, if_pos (by decide), within_1 h2, bd_S, if_pos (by decide), mdg_l39 hm32 (by omega), bd_S, md_p6, bd_S, md_f, bd_S, k1, md_mono, bd_S, md_r3, bd_S, md_ld3 (by omega), bd_S, k2 i (by omega)]
      have e9 : s_dg (upA A 5 (ovr (s_bs (A 19)) (A 5) m) 5) m i = s_dg (s_bs bf) m i := s_dg_congr' (fun k hk => by
        rw [upA_eq]
        unfold ovr
        rw [if_pos hk]
        exact s_bs_congr (m8 _ (by omega))) i (by omega)
      rw [e9]
end OV
