/-! a packet is posted -/
section PT
variable {G : ho_G} {σ σ' : ho_H} {w w' : Nat → Nat} {N O n M : Nat} {C : CK} {cc : Nat} {bf : Nat → Int32} {W : Nat → Nat → Int32} {PL PL' : List PQ} {ρ : Nat → RS} {dr : Nat → Int32} {T : Nat → Nat → Prop}
theorem cls.pl (h : cls G σ w O C cc bf W PL ρ dr) (hf : frm σ w σ' w' (TL O (O + 25))) (hw : wf G σ') (hp : pls G σ' w' O (O + 25) PL') : cls G σ' w' O C cc bf W PL' ρ dr := by
  obtain ⟨c1, c2, c3, c4, c5, c6, c7, c8, c9⟩ := h
  have b1 := c1.1
  have hT : ∀ a o, a ≠ O + 25 → (a < O + 227 ∨ o ≠ O + 25) → ¬ TL O (O + 25) a o := fun a o h1 h2 ht => by rcases ht with ht | ht <;> omega
  exact ⟨c1.fr hf hw (fun a a1 a2 => hT _ _ (by omega) (by omega)), c2.fr b1 hf (hT _ _ (by omega) (by omega)), c3.fr b1 hf (hT _ _ (by omega) (by omega)), c4.fr b1 hf (hT _ _ (by omega) (by omega)), c5.fr b1 hf (fun a a1 a2 => hT _ _ (by omega) (by omega)), hp, c7.fr b1 hf (hT _ _ (by omega) (by omega)), c8.fr b1 hf (fun a a1 a2 => hT _ _ (by omega) (by omega)) (fun a o a1 a2 => hT _ _ (by omega) (by omega)), c9.fr b1 hf (hT _ _ (by omega) (by omega))⟩
theorem mk.isP {p m bn : Nat} {F : Nat → Int32} (h : mk G σ w O p m bn F) (hO : gB G ≤ O) : isP G σ (O + 2) p m bn F := ⟨c_f h.1, c_a h.2.1, Or.inr (by have := h.2.2.2.2.1; omega), Or.inr (by have := h.2.2.2.2.2.1; omega), h.2.2.2.2.2.2, by have := h.2.2.2.2.2.1; omega⟩
theorem mk.sl {p m bn : Nat} {F : Nat → Int32} {L : Int32} {B : Nat → Nat → Int32} (h : mk G σ w O p m bn F) : mk G (sl G σ (O + 2) L B) w O p m bn F := by
  obtain ⟨h1, h2, h3, h4, h5, h6, h7⟩ := h
  exact ⟨by rw [sl_out (Or.inr (by omega))]; exact h1, by rw [sl_out (Or.inr (by omega))]; exact h2, h3, h4, h5, h6, h7⟩
/-- the last step: it goes into the list -/
theorem post76_S {p m bn : Nat} {F : Nat → Int32} (g1 : cls G σ w O C cc bf W PL ρ dr) (hm : mk G σ w O p m bn F) (hpl : PL.length < 200) (hA : gA G 4 < gB G) (r1 : σ.1 + 1 ≤ gC G) (r2 : σ.2.1 + 300 ≤ gS G) : ∃ σ' w', f_Of_post_j76 G N σ O p = some (σ', ii PL.length) ∧ cls G σ' w' O C cc bf W (PL ++ [(bn, F)]) ρ dr ∧ (σ.1 ≤ σ'.1 ∧ σ.2.1 ≤ σ'.2.1) ∧ (∀ a, a < σ.1 → a ≠ p → a ≠ m → w' a = w a) ∧ (∀ a, O + 195 ≤ a → a < O + 226 → σ'.2.2 a = σ.2.2 a) ∧ σ'.1 ≤ σ.1 + 1 ∧ σ'.2.1 ≤ σ.2.1 + 300 := by
  obtain ⟨h1, h2, h3, h4, h5, h6, h7⟩ := hm
  have g2 : cls G σ (fun a => if a = p ∨ a = m then 0 else w a) O C cc bf W PL ρ dr := g1.own fun a ha => if_neg fun hh => by
    rcases hh with rfl | rfl
    · exact ha h3
    · exact ha h4
  have hp : pk G σ (fun a => if a = p ∨ a = m then 0 else w a) O p (bn, F) := ⟨m, h1, h2, if_pos (Or.inl rfl), if_pos (Or.inr rfl), h5, h6⟩
  have hz := g1.1.2.2.1
  obtain ⟨σ', w', e1, e2, e3, e4, e5, e6⟩ := Al_add_S (N := N) g2.1.1 g2.2.2.2.2.2.1 hp (show O + 25 < O + 227 by omega) (by omega) g1.1.2.1 hz (by omega) hA r1 r2
  have g3 := g2.pl e4 e2 e3
  obtain ⟨fs, hfs⟩ := g1.2.2.2.2.2.1.f
  obtain ⟨fs', hfs'⟩ := e3.f
  refine ⟨σ', w', ?_, g3, ⟨e4.1, e4.2.1⟩, fun a ha q1 q2 => ?_, fun a q1 q2 => ?_, e5, e6⟩
  · unfold f_Of_post_j76
    rw [c_R g1.2.1 rfl, bd_S, hfs, bd_S, e1, ck_S e4.1 e4.2.1, bd2_S, c_R g3.2.1 rfl, bd_S, hfs', bd_S, Al_size_S e3, bd_S, List.length_append, show ii (PL.length + [(bn, F)].length) - 1 = ii PL.length from ii_sub (a := PL.length + 1) (b := 1) (by omega)]
  · rw [(e4.2.2 a ha).1]
    exact if_neg (by omega)
  · exact (e4.2.2 a (by omega)).2 (fun ht => by rcases ht with ht | ht <;> omega)
theorem post_S {p m k g kn lag : Nat} {F body : Nat → Int32} (g1 : cls G σ w O C cc bf W PL ρ dr) (hm : mk G σ w O p m (36 + k) F) (hk : k ≤ 32) (f1 : ∀ q, q < 4 → F q = s_by (ii g) q) (f2 : F 4 = ii kn) (f3 : F 5 = ii k) (f4 : ∀ i, i < k → F (6 + i) = body i) (f5 : ∀ i, 16 + k ≤ i → i < 36 + k → F i = 0) (hg1 : 1 ≤ g) (hg2 : g ≤ 512) (hcg : ch g < cc) (hcc : cc ≤ 8) (hC : C.1 = ii lag) (hlag : lag ≤ 8) (hlag1 : 1 ≤ lag) (hpl : PL.length < 200) (ht : gtab G) (hA : gA G 4 < gB G) (r1 : σ.1 + 1 ≤ gC G) (r2 : σ.2.1 + 300 ≤ gS G) (hN : 301 < N) : ∃ σ' w' F', f_Of_post G N σ O p = some (σ', ii PL.length) ∧ pkS F' g (ii kn) k body (fun i => W (ch g) (20 * nu g + i)) (fun i => if g ≤ lag then 0 else W (ch (g - lag)) (20 * nu (g - lag) + i)) ∧ cls G σ' w' O C cc bf W (PL ++ [(36 + k, F')]) ρ dr ∧ (σ.1 ≤ σ'.1 ∧ σ.2.1 ≤ σ'.2.1) ∧ (∀ a, a < σ.1 → a ≠ p → a ≠ m → w' a = w a) ∧ (∀ a, O + 195 ≤ a → a < O + 226 → σ'.2.2 a = σ.2.2 a) ∧ σ'.1 ≤ σ.1 + 1 ∧ σ'.2.1 ≤ σ.2.1 + 300 := by
  obtain ⟨hw, hO, hz, ⟨L, B, hσ⟩, hck⟩ := id g1.1
  have c8 : ch g < 8 := by omega
  have nu1 : nu g ≤ 64 := nu_le
  have hP := hm.isP hO
  have hi : f_Pk_interval G N σ p = some (ii g) := by
    have := Pk_interval_S (N := N) (L := L) (B := B) hP (by omega)
    rw [← hσ] at this
    have e : s_wd F 0 = s_wd (s_bs fun _ => ii g) (4 * 0) := s_wd_congr (f1 0 (by decide)) (f1 1 (by decide)) (f1 2 (by decide)) (f1 3 (by decide))
    rw [e, s_wd_bs] at this
    exact this
  obtain ⟨fi, la, f, hK, k1, k2, k3⟩ := g1.isK c8
  obtain ⟨L2, B2, s1, s2⟩ := Kc_sealPacket_S (N := N) (L := L) (B := B) (k := nu g) hK hP nu1 f3 hk (by omega) hw.1 ht (show gB G ≤ O + 2 by omega) (by omega)
  rw [← hσ] at s1
  obtain ⟨g2, fr2⟩ := g1.slr (L := L2) (B := B2)
  have hm2 := hm.sl (L := L2) (B := B2)
  have hr0 : ho_gR (sl G σ (O + 2) L2 B2) (O + 2) 1 0 = some (O + 2 + 1) := sl_r0
  have hrI : ho_rI G (sl G σ (O + 2) L2 B2) (O + 2 + 1) = some (8, B2 1) := sl_rI (p := 1) (by decide) (by decide)
  have z2 : (sl G σ (O + 2) L2 B2).1 = σ.1 := rfl
  have z2' : (sl G σ (O + 2) L2 B2).2.1 = σ.2.1 := rfl
  have y2 : ∀ a, O + 195 ≤ a → a < O + 226 → (sl G σ (O + 2) L2 B2).2.2 a = σ.2.2 a := fun a q1 q2 => sl_out (Or.inr (by omega))
  generalize sl G σ (O + 2) L2 B2 = σ2 at *
  have wc := writeCode_S (N := N) hm2 f3 hk (by omega) hrI (by have := hm2.2.2.2.2.2.1; omega) hN
  obtain ⟨g3, hm3, fr3⟩ := hm2.set (F' := s_cp F (s_bs (B2 1)) (6 + k) 10) g2
  have z3 : (ho_set σ2 m (.inl (gc G 0, 36 + k, .inl (s_cp F (s_bs (B2 1)) (6 + k) 10)))).1 = σ2.1 := rfl
  have z3' : (ho_set σ2 m (.inl (gc G 0, 36 + k, .inl (s_cp F (s_bs (B2 1)) (6 + k) 10)))).2.1 = σ2.2.1 := rfl
  have y3 : ∀ a, O + 195 ≤ a → a < O + 226 → (ho_set σ2 m (.inl (gc G 0, 36 + k, .inl (s_cp F (s_bs (B2 1)) (6 + k) 10)))).2.2 a = σ2.2.2 a := fun a q1 q2 => set_ne (by have := hm2.2.2.2.2.2.1; omega)
  generalize ho_set σ2 m (.inl (gc G 0, 36 + k, .inl (s_cp F (s_bs (B2 1)) (6 + k) 10))) = σ3 at *
  -- the bytes so far
  have b1 : ∀ q, q < 6 + k → s_cp F (s_bs (B2 1)) (6 + k) 10 q = F q := fun q hq => by
    unfold s_cp
    rw [if_neg (by omega)]
  have b2 : ∀ i, i < 10 → s_cp F (s_bs (B2 1)) (6 + k) 10 (6 + k + i) = s_cd (fun i => W (ch g) (20 * nu g + i)) F (6 + k) i := fun i hi => by
    unfold s_cp
    rw [if_pos (by omega), Nat.add_sub_cancel_left, s2 i (by omega)]
    refine s_cd_congr (fun z hz => ?_) (fun _ _ => rfl) i (by omega)
    rw [← bs_sh]
    exact k3 hcg _ (by omega)
  have b3 : ∀ i, 16 + k ≤ i → i < 36 + k → s_cp F (s_bs (B2 1)) (6 + k) 10 i = 0 := fun i h1 h2 => by
    unfold s_cp
    rw [if_neg (by omega)]
    exact f5 i h1 h2
  generalize hF2 : s_cp F (s_bs (B2 1)) (6 + k) 10 = F2 at *
  -- what makes a packet
  have fin : ∀ F' sh, (∀ q, q < 16 + k → F' q = F2 q) → (∀ i, i < 20 → F' (16 + k + i) = sh i) → pkS F' g (ii kn) k body (fun i => W (ch g) (20 * nu g + i)) sh := by
    intro F' sh e1 e2
    refine ⟨fun q hq => ?_, ?_, ?_, fun i hi => ?_, fun i hi => ?_, e2⟩
    · rw [e1 q (by omega), b1 q (by omega), f1 q hq]
    · rw [e1 4 (by omega), b1 4 (by omega), f2]
    · rw [e1 5 (by omega), b1 5 (by omega), f3]
    · rw [e1 _ (by omega), b1 _ (by omega), f4 i hi]
    · rw [e1 _ (by omega), b2 i hi]
      exact s_cd_congr (fun _ _ => rfl) (fun z hz => by rw [e1 z (by omega), b1 z hz]) i (by omega)
  unfold f_Of_post
  rw [c_f hm.1, bd_S, hi, bd_S, c_R g1.2.1 rfl, bd_S, chainOf_S hg1 (by omega), bd_S, g1.ch c8, bd_S, number_S hg1 (by omega), bd_S, c_R g1.2.1 rfl, bd_S, c_f k1, bd_S, s1, cv_S (by omega) (by omega), bd_S, c_R g2.2.1 rfl, bd_S, hr0, bd_S, c_f hm2.1, bd_S, wc, cv_S (by omega) (by omega), bd_S, c_R g3.2.1 rfl, bd_S, c_I g3.ck rfl, bd_S, hC]
  by_cases hgl : g ≤ lag
  · rw [if_pos (lt_sub1 hgl (by omega))]
    obtain ⟨σ', w', e1, e2, e3, e4, e5, e6, e7⟩ := post76_S (N := N) g3 hm3 hpl hA (by omega) (by omega)
    refine ⟨σ', w', F2, e1, fin F2 _ (fun _ _ => rfl) (fun i hi => ?_), e2, ⟨by omega, by omega⟩, fun a ha => e4 a (by omega), fun a q1 q2 => by rw [e5 a q1 q2, y3 a q1 q2, y2 a q1 q2], by omega, by omega⟩
    rw [if_pos hgl]
    exact b3 _ (by omega) (by omega)
  · have cs : ch (g - lag) < cc := by
      unfold ch at hcg ⊢
      omega
    have cs8 : ch (g - lag) < 8 := by omega
    have nus : nu (g - lag) ≤ 64 := nu_le
    obtain ⟨hw3, -, hz3, ⟨L4, B4, hσ3⟩, -⟩ := id g3.1
    obtain ⟨fi3, la3, f3', hK3, k13, k23, k33⟩ := g3.isK cs8
    have hP3 := hm3.isP hO
    have sa : f_Pk_shownAt G N σ3 p = some (ii (16 + k)) := by
      have := Pk_shownAt_S (N := N) (L := L4) (B := B4) hP3 (by omega) (by rw [b1 5 (by omega)]; exact f3)
      rw [← hσ3] at this
      exact this
    have hmO := hm3.2.2.2.2.2.1
    have wk := Kc_writeKey_S (N := N) (L := L4) (B := B4) (k := nu (g - lag)) (fr := 16 + k) hK3 nus (Or.inr (show O + 2 + 5 ≤ m by omega)) (by omega) (by omega) (c_a hm3.2.1) (by omega) (by omega) (by omega)
    have es : sl G (wset G σ3 m (36 + k) (s_cp F2 (fun i => s_bs f3' (20 * nu (g - lag) + i)) (16 + k) 20)) (O + 2) L4 B4 = ho_set σ3 m (.inl (gc G 0, 36 + k, .inl (s_cp F2 (fun i => s_bs f3' (20 * nu (g - lag) + i)) (16 + k) 20))) := by
      have := sl_setO (G := G) (R := σ3) (S := O + 2) (L := L4) (B := B4) (a := m) (e := .inl (gc G 0, 36 + k, .inl (s_cp F2 (fun i => s_bs f3' (20 * nu (g - lag) + i)) (16 + k) 20))) (Or.inr (by omega))
      rw [← hσ3] at this
      exact this.symm
    rw [es, ← hσ3] at wk
    obtain ⟨g4, hm4, fr4⟩ := hm3.set (F' := s_cp F2 (fun i => s_bs f3' (20 * nu (g - lag) + i)) (16 + k) 20) g3
    rw [ii_sub (by omega), if_neg (by rw [show (1 : Int32) = ii 1 from rfl, ii_lt (by omega) (by decide)]; omega), c_R g3.2.1 rfl, bd_S, chainOf_S (by omega) (by omega), bd_S, g3.ch cs8, bd_S, number_S (by omega) (by omega), bd_S, c_R hm3.1 rfl, bd_S, c_f hm3.1, bd_S, sa, bd_S, c_f k13, bd_S, wk, cv_S (by exact Nat.le_refl _) (by exact Nat.le_refl _), bd_S]
    have z4 : (ho_set σ3 m (.inl (gc G 0, 36 + k, .inl (s_cp F2 (fun i => s_bs f3' (20 * nu (g - lag) + i)) (16 + k) 20)))).1 = σ3.1 := rfl
    have z4' : (ho_set σ3 m (.inl (gc G 0, 36 + k, .inl (s_cp F2 (fun i => s_bs f3' (20 * nu (g - lag) + i)) (16 + k) 20)))).2.1 = σ3.2.1 := rfl
    have y4 : ∀ a, O + 195 ≤ a → a < O + 226 → (ho_set σ3 m (.inl (gc G 0, 36 + k, .inl (s_cp F2 (fun i => s_bs f3' (20 * nu (g - lag) + i)) (16 + k) 20)))).2.2 a = σ3.2.2 a := fun a q1 q2 => set_ne (by omega)
    obtain ⟨σ', w', e1, e2, e3, e4, e5, e6, e7⟩ := post76_S (N := N) g4 hm4 hpl hA (by omega) (by omega)
    refine ⟨σ', w', _, e1, fin _ _ (fun q hq => ?_) (fun i hi => ?_), e2, ⟨by omega, by omega⟩, fun a ha => e4 a (by omega), fun a q1 q2 => by rw [e5 a q1 q2, y4 a q1 q2, y3 a q1 q2, y2 a q1 q2], by omega, by omega⟩
    · unfold s_cp
      rw [if_neg (by omega)]
    · rw [if_neg hgl]
      unfold s_cp
      rw [if_pos (by omega), Nat.add_sub_cancel_left]
      exact k33 cs _ (by omega)
end PT
