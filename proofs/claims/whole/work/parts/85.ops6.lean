/-! chain -/
theorem chain_dn {f K : Nat → Int32} {k lo : Nat} (h0 : ∀ i, i < 20 → s_bs f (20 * k + i) = K i) (hs : ∀ j, lo < j → j ≤ k → ∀ i, i < 5 → f (5 * (j - 1) + i) = dnW (fun i => f (5 * j + i)) i) : ∀ d, d ≤ k - lo → ∀ i, i < 20 → s_bs f (20 * (k - d) + i) = dnN d K i := by
  intro d
  induction d with
  | zero => exact fun _ i hi => h0 i hi
  | succ d ih =>
    intro hd i hi
    have e6 := hs (k - d) (by omega) (by omega)
    rw [show k - (d + 1) = k - d - 1 by omega, bs_sh, s_bs_congr (w := fun z => f (5 * (k - d - 1) + z)) (w' := dnW fun i => f (5 * (k - d) + i)) (e6 _ (by omega))]
    show s_dn (s_bs fun i => f (5 * (k - d) + i)) i = s_dn (dnN d K) i
    refine s_dn_congr (fun z hz => ?_) i (by omega)
    rw [← bs_sh]
    exact ih (by omega) z hz
/-- five words -/
def w5 (x0 x1 x2 x3 x4 : Int32) (k : Nat) : Int32 := if k = 0 then x0 else if k = 1 then x1 else if k = 2 then x2 else if k = 3 then x3 else x4
theorem top5_w5 {f : Nat → Int32} {x0 x1 x2 x3 x4 : Int32} : ∀ z, z < 5 → top5 f x0 x1 x2 x3 x4 (320 + z) = w5 x0 x1 x2 x3 x4 z := by
  intro z hz
  unfold top5 upd w5
  have hz' : z = 0 ∨ z = 1 ∨ z = 2 ∨ z = 3 ∨ z = 4 := by omega
  rcases hz' with rfl | rfl | rfl | rfl | rfl <;> rfl
section OW
variable {G : ho_G} {σ : ho_H} {w : Nat → Nat} {N O n M : Nat} {C : CK} {cc : Nat} {bf : Nat → Int32} {W : Nat → Nat → Int32} {PL : List PQ} {ρ : Nat → RS} {dr : Nat → Int32} {I : Nat → Int32} {A : Nat → Nat → Int32} {R : ho_H}
theorem ch_23 {x1 x2 x3 x4 x5 : Int32} (hN : 301 < N) : ho_it (f_Md_chain_l23 G N M x1 x2 x3 x4 x5) N (md G R M I A, 0) = some (md G R M I (upA A 38 (ovr (s_bs (w5 x1 x2 x3 x4 x5)) (A 38) 20))) := by
  refine it_for 20 (fun k => (md G R M I (upA A 38 (ovr (s_bs (w5 x1 x2 x3 x4 x5)) (A 38) k)), ii k)) _ (fun k hk => ?_) ?_ (by omega) (by rw [upA_up0]; rfl)
  · have e5 : ho_rm (ii k) 4 = ii (k % 4) := by rw [show (4 : Int32) = ii 4 from rfl, ii_rm (by omega) (by decide)]
    have e6 : (24 : Int32) - 8 * ii (k % 4) = ii (24 - 8 * (k % 4)) := by rw [show (8 : Int32) = ii 8 from rfl, show (24 : Int32) = ii 24 from rfl, ii_mul, ii_sub (by omega)]
    have j82 : ∀ y : Int32, y = w5 x1 x2 x3 x4 x5 (k / 4) → f_Md_chain_j82_in23 G N (md G R M I (upA A 38 (ovr (s_bs (w5 x1 x2 x3 x4 x5)) (A 38) k))) M x1 x2 x3 x4 x5 (ii k) y (ii k) (M + 29) = some (.inl (md G R M I (upA A 38 (ovr (s_bs (w5 x1 x2 x3 x4 x5)) (A 38) (k + 1))), ii (k + 1))) := fun y hy => by
      unfold f_Md_chain_j82_in23 f_Md_byteOf
      rw [e5, bd_S, e6, md_st38 hk, bd_S, ii_1, upA_upA, upA_eq, show upd (ovr (s_bs (w5 x1 x2 x3 x4 x5)) (A 38) k) k (ho_sr y (ii (24 - 8 * (k % 4))) &&& 255) = ovr (s_bs (w5 x1 x2 x3 x4 x5)) (A 38) (k + 1) from ovr_up (by rw [hy]; rfl)]
    unfold f_Md_chain_l23
    dsimp only
    rw [if_neg (by rw [li20, ii_le (by decide) (by omega)]; omega), md_r38, bd_S]
    have le : ∀ b : Nat, b ≤ 20 → ((ii b ≤ ii k) ↔ b ≤ k) := fun b hb => by rw [ii_le (by omega) (by omega)]
    by_cases c4 : 4 ≤ k
    · rw [if_pos (show (4 : Int32) ≤ ii k from (le 4 (by omega)).mpr c4)]
      by_cases c8 : 8 ≤ k
      · rw [if_pos (show (8 : Int32) ≤ ii k from (le 8 (by omega)).mpr c8)]
        by_cases c12 : 12 ≤ k
        · rw [if_pos (show (12 : Int32) ≤ ii k from (le 12 (by omega)).mpr c12)]
          by_cases c16 : 16 ≤ k
          · rw [if_pos (show (16 : Int32) ≤ ii k from (le 16 (by omega)).mpr c16)]
            exact j82 _ (by unfold w5; rw [if_neg (by omega), if_neg (by omega), if_neg (by omega), if_neg (by omega)])
          · rw [if_neg (show ¬ (16 : Int32) ≤ ii k from fun h => c16 ((le 16 (by omega)).mp h))]
            exact j82 _ (by unfold w5; rw [if_neg (by omega), if_neg (by omega), if_neg (by omega), if_pos (by omega)])
        · rw [if_neg (show ¬ (12 : Int32) ≤ ii k from fun h => c12 ((le 12 (by omega)).mp h))]
          exact j82 _ (by unfold w5; rw [if_neg (by omega), if_neg (by omega), if_pos (by omega)])
      · rw [if_neg (show ¬ (8 : Int32) ≤ ii k from fun h => c8 ((le 8 (by omega)).mp h))]
        exact j82 _ (by unfold w5; rw [if_neg (by omega), if_pos (by omega)])
    · rw [if_neg (show ¬ (4 : Int32) ≤ ii k from fun h => c4 ((le 4 (by omega)).mp h))]
      exact j82 _ (by unfold w5; rw [if_pos (by omega)])
  · unfold f_Md_chain_l23
    dsimp only
    rw [if_pos (by decide)]
theorem ch_108 {c i : Nat} (h17 : I 17 = ii c) (hc : c < 8) (hi : i ≤ 64) (hN : 301 < N) : ho_it (f_Md_chain_l108_in100 G N M (ii i)) N (md G R M I A, 0) = some (md G R M I (upA A 20 (s_cp (A 20) (A 38) (1300 * c + 20 * i) 20))) := by
  refine it_for 20 (fun k => (md G R M I (upA A 20 (s_cp (A 20) (A 38) (1300 * c + 20 * i) k)), ii k)) _ (fun k hk => ?_) ?_ (by omega) (by rw [s_cp_0, upA_self]; rfl)
  · have a3 : (1300 * ii c + 20 * ii i) + ii k = ii (1300 * c + 20 * i + k) := by rw [show (1300 : Int32) = ii 1300 from rfl, li20, ii_mul, ii_mul, ii_add, ii_add]
    unfold f_Md_chain_l108_in100
    dsimp only
    rw [if_neg (by rw [li20, ii_le (by decide) (by omega)]; omega), md_r20, bd_S, md_i17, bd_S, h17, md_r38, bd_S, md_ld38 (by omega), bd_S, a3, md_st20 (by omega), bd_S, ii_1, upA_upA, upA_eq, upA_ne (by decide), s_cp_up rfl]
  · unfold f_Md_chain_l108_in100
    dsimp only
    rw [if_pos (by decide)]
theorem ch_100 {c : Nat} (ht : mtab A) (h17 : I 17 = ii c) (hc : c < 8) (hN : 301 < N) : ∃ I' A', ho_it (f_Md_chain_l100 G N M) N (md G R M I A, 64) = some (md G R M I' A') ∧ ikeep I I' ∧ (∀ j, j ≠ 20 → j ∉ [2, 3, 4, 5, 7, 9, 11, 38] → A' j = A j) ∧ (∀ q, (q < 1300 * c ∨ 1300 * c + 1300 ≤ q) → A' 20 q = A 20 q) ∧ ∀ t, t ≤ 64 → ∀ i, i < 20 → A' 20 (1300 * c + 20 * (64 - t) + i) = dnN t (A 38) i := by
  have key : ∃ σ', ho_it (f_Md_chain_l100 G N M) N (md G R M I A, 64) = some σ' ∧ ∃ I' A', σ' = md G R M I' A' ∧ ikeep I I' ∧ (∀ j, j ≠ 20 → j ∉ [2, 3, 4, 5, 7, 9, 11, 38] → A' j = A j) ∧ (∀ q, (q < 1300 * c ∨ 1300 * c + 1300 ≤ q) → A' 20 q = A 20 q) ∧ ∀ t, t ≤ 64 → ∀ i, i < 20 → A' 20 (1300 * c + 20 * (64 - t) + i) = dnN t (A 38) i := by
    refine it_ex 65 (fun t s => ∃ I' A', s = (md G R M I' A', ii (65 - t) + (-1)) ∧ ikeep I I' ∧ (∀ j, j ≠ 20 → j ∉ [2, 3, 4, 5, 7, 9, 11, 38] → A' j = A j) ∧ (∀ q, (q < 1300 * c ∨ 1300 * c + 1300 ≤ q) → A' 20 q = A 20 q) ∧ (t ≤ 64 → ∀ i, i < 20 → A' 38 i = dnN t (A 38) i) ∧ ∀ t', t' < t → ∀ i, i < 20 → A' 20 (1300 * c + 20 * (64 - t') + i) = dnN t' (A 38) i) _ ?_ ?_ (by omega) ⟨I, A, by rw [show (64 : Int32) = ii (65 - 0) + (-1) by decide], ikeep.rf, fun _ _ _ => rfl, fun _ _ => rfl, fun _ _ _ => rfl, fun t' h => absurd h (by omega)⟩
    · rintro t s ht' ⟨I1, A1, rfl, p1, p2, p3, p4, p5⟩
      have i17 : I1 17 = ii c := (p1 17 (by decide)).trans h17
      have tab1 : mtab (upA A1 20 (s_cp (A1 20) (A1 38) (1300 * c + 20 * (64 - t)) 20)) := by
        unfold mtab
        rw [upA_ne (by decide), upA_ne (by decide), p2 0 (by decide) (by decide), p2 1 (by decide) (by decide)]
        exact ht
      have ex : ii (65 - t) + (-1) = ii (64 - t) := by rw [ii_dec (by omega), show 65 - t - 1 = 64 - t by omega]
      -- after the copy
      have c20 : ∀ q, (q < 1300 * c ∨ 1300 * c + 1300 ≤ q) → s_cp (A1 20) (A1 38) (1300 * c + 20 * (64 - t)) 20 q = A 20 q := fun q hq => by
        unfold s_cp
        rw [if_neg (by omega)]
        exact p3 q hq
      have c21 : ∀ t', t' < t + 1 → ∀ i, i < 20 → s_cp (A1 20) (A1 38) (1300 * c + 20 * (64 - t)) 20 (1300 * c + 20 * (64 - t') + i) = dnN t' (A 38) i := fun t' h9 i hi => by
        unfold s_cp
        by_cases e : t' = t
        · rw [if_pos (by omega), show 1300 * c + 20 * (64 - t') + i - (1300 * c + 20 * (64 - t)) = i by omega, e]
          exact p4 (by omega) i hi
        · rw [if_neg (by omega)]
          exact p5 t' (by omega) i hi
      by_cases h0 : t = 64
      · have st : f_Md_chain_l100 G N M (md G R M I1 A1, ii (65 - t) + (-1)) = some (.inl (md G R M I1 (upA A1 20 (s_cp (A1 20) (A1 38) (1300 * c + 20 * (64 - t)) 20)), ii (65 - (t + 1)) + (-1))) := by
          unfold f_Md_chain_l100 f_Md_chain_j159_in100
          dsimp only
          rw [ex, if_neg (ii_nneg (by omega)), ch_108 i17 hc (by omega) hN, bd_S, if_pos (by rw [show (0 : Int32) = ii 0 from rfl, ii_le (by omega) (by decide)]; omega), show 65 - (t + 1) = 64 - t by omega]
        refine ⟨_, st, I1, _, rfl, p1, fun j h1 h2 => by rw [upA_ne h1, p2 j h1 h2], by rw [upA_eq]; exact c20, fun h => absurd h (by omega), by rw [upA_eq]; exact c21⟩
      · obtain ⟨I2, A2, q1, q2, q3, q4⟩ := Md_down_S (G := G) (R := R) (M := M) (I := I1) (A := upA A1 20 (s_cp (A1 20) (A1 38) (1300 * c + 20 * (64 - t)) 20)) (N := N) tab1 (by omega)
        have st : f_Md_chain_l100 G N M (md G R M I1 A1, ii (65 - t) + (-1)) = some (.inl (md G R M I2 A2, ii (65 - (t + 1)) + (-1))) := by
          unfold f_Md_chain_l100 f_Md_chain_j159_in100
          dsimp only
          rw [ex, if_neg (ii_nneg (by omega)), ch_108 i17 hc (by omega) hN, bd_S, if_neg (by rw [show (0 : Int32) = ii 0 from rfl, ii_le (by omega) (by decide)]; omega), md_f, bd_S, q1, md_mono, bd_S, show 65 - (t + 1) = 64 - t by omega]
        have z20 : A2 20 = s_cp (A1 20) (A1 38) (1300 * c + 20 * (64 - t)) 20 := (q3 20 (by decide)).trans upA_eq
        refine ⟨_, st, I2, A2, rfl, p1.tr q4, fun j h1 h2 => by rw [q3 j h2, upA_ne h1, p2 j h1 h2], by rw [z20]; exact c20, fun _ i hi => ?_, by rw [z20]; exact c21⟩
        rw [q2]
        unfold ovr
        rw [if_pos hi, upA_ne (by decide)]
        exact s_dn_congr (p4 (by omega)) i (by omega)
    · rintro s ⟨I1, A1, rfl, p1, p2, p3, p4, p5⟩
      refine ⟨_, ?_, I1, A1, rfl, p1, p2, p3, fun t ht' i hi => p5 t (by omega) i hi⟩
      unfold f_Md_chain_l100
      dsimp only
      rw [if_pos (by decide)]
  obtain ⟨σ', k1, I', A', rfl, k2⟩ := key
  exact ⟨I', A', k1, k2⟩
/-- chain -/
theorem J_chain {x1 x2 x3 x4 x5 : Int32} (hg : good G σ w O n C cc bf W PL ρ dr) (hr : roomy G O n) (ht : gtab G) (hN : 1001 < N) : J G N σ O n (f_Lw_chain G N σ O x1 x2 x3 x4 x5 (O + 226)) (fun s => f_Md_chain G N s (O + 195) x1 x2 x3 x4 x5) := by
  have g1 := hg.1
  have hcc := hg.2.2.1.2.1
  unfold f_Lw_chain
  by_cases h1 : cc < 8
  · obtain ⟨fi, la, f, hK, k1, k2, -⟩ := g1.isK h1
    obtain ⟨hw, hO, hz, ⟨L, B, hσ⟩, hck⟩ := g1.1
    have s1 := Kc_putTopKey_S (N := N) (L := L) (B := B) (x0 := x1) (x1 := x2) (x2 := x3) (x3 := x4) (x4 := x5) hK
    rw [← hσ] at s1
    have hK1 : isK G (wset G σ (O + 10 + 2 * cc) 325 (top5 f x1 x2 x3 x4 x5)) (O + 2) (O + 9 + 2 * cc) (O + 10 + 2 * cc) fi la (top5 f x1 x2 x3 x4 x5) := hK.ws
    obtain ⟨f2, L2, B2, r2, -, r3, r4⟩ := Kc_fillDown_S (N := N) (L := L) (B := B) (k := 64) (low := 0) hK1 (by omega) (by omega) (wset_low hw.1 (by omega)) ht (show gB G ≤ O + 2 by omega) (by omega)
    rw [wset_wset] at r2
    have hb5 : ∀ (f3 : Nat → Int32) (L3 : Int32) (B3 : Nat → Nat → Int32), (sl G (wset G σ (O + 10 + 2 * cc) 325 f3) (O + 2) L3 B3).2.2 O = some (.inr (5, [.ref (O + 1), .ref (O + 2), .ref (O + 7), .ref (O + 8), .int (ii cc), .ref (O + 25), .ref (O + 26)])) := fun f3 L3 B3 => by
      rw [sl_out (Or.inl (by omega))]
      show (ho_set σ _ _).2.2 O = _
      rw [set_ne (by omega)]
      exact g1.2.1
    have p1 : ho_p (sl G (wset G σ (O + 10 + 2 * cc) 325 f2) (O + 2) L2 B2) O 5 4 (.int (ii (cc + 1))) = some (ho_set (sl G (wset G σ (O + 10 + 2 * cc) 325 f2) (O + 2) L2 B2) O (.inr (5, [.ref (O + 1), .ref (O + 2), .ref (O + 7), .ref (O + 8), .int (ii (cc + 1)), .ref (O + 25), .ref (O + 26)]))) := c_p (hb5 f2 L2 B2) (show 4 < 7 by decide)
    have ho : OS G σ w O (f_Of_chain G N σ O x1 x2 x3 x4 x5) (.inr (ii cc)) C (cc + 1) bf (fun c => if c = cc then s_bs f2 else W c) PL ρ dr := by
      have fw : frm σ w (wset G σ (O + 10 + 2 * cc) 325 f2) w (fun a _ => a = O ∨ (O + 2 ≤ a ∧ a < O + 7) ∨ a = O + 10 + 2 * cc) := frm.set (Or.inr (Or.inr rfl))
      have fs := fw.sl (G := G) (L := L2) (B := B2) (fun a q1 q2 => Or.inr (Or.inl ⟨q1, q2⟩))
      have ff : frm σ w (ho_set (sl G (wset G σ (O + 10 + 2 * cc) 325 f2) (O + 2) L2 B2) O (.inr (5, [.ref (O + 1), .ref (O + 2), .ref (O + 7), .ref (O + 8), .int (ii (cc + 1)), .ref (O + 25), .ref (O + 26)]))) w (fun a _ => a = O ∨ (O + 2 ≤ a ∧ a < O + 7) ∨ a = O + 10 + 2 * cc) := fs.trans (frm.set (Or.inl rfl))
      have bs1 : bse G (sl G (wset G σ (O + 10 + 2 * cc) 325 f2) (O + 2) L2 B2) O C := g1.1.sl (Nat.le_refl _) (hw.set k2) (by
        show (ho_set σ _ _).2.2 (O + 1) = _
        rw [set_ne (by omega)])
      have f9 : frm (sl G (wset G σ (O + 10 + 2 * cc) 325 f2) (O + 2) L2 B2) w (ho_set (sl G (wset G σ (O + 10 + 2 * cc) 325 f2) (O + 2) L2 B2) O (.inr (5, [.ref (O + 1), .ref (O + 2), .ref (O + 7), .ref (O + 8), .int (ii (cc + 1)), .ref (O + 25), .ref (O + 26)]))) w (fun a _ => a = O) := frm.set rfl
      have w9 : wf G (ho_set (sl G (wset G σ (O + 10 + 2 * cc) 325 f2) (O + 2) L2 B2) O (.inr (5, [.ref (O + 1), .ref (O + 2), .ref (O + 7), .ref (O + 8), .int (ii (cc + 1)), .ref (O + 25), .ref (O + 26)]))) := bs1.1.set (hb5 f2 L2 B2)
      refine ⟨_, w, ?_, ?_, ff.mono fun a _ h => by intro hh; omega, Nat.le_add_right _ _, Nat.le_add_right _ _⟩
      · unfold f_Of_chain
        rw [c_I g1.2.1 rfl, bd_S, if_pos (by rw [show (8 : Int32) = ii 8 from rfl, ii_lt (by omega) (by decide)]; exact h1), c_R g1.2.1 rfl, bd_S, bd_S, g1.ch h1, bd_S, c_f k1, bd_S, s1, cv_S (by exact Nat.le_refl _) (by exact Nat.le_refl _), bd_S, c_R (hb5 _ L B) rfl, bd_S, hK1.f, bd_S, show (64 : Int32) = ii 64 from rfl, show (0 : Int32) = ii 0 from rfl, r2, cv_S (by exact Nat.le_refl _) (by exact Nat.le_refl _), bd_S, c_I (hb5 f2 L2 B2) rfl, bd_S, ii_1, p1, bd_S, c_I set_at rfl, bd_S, show ii (cc + 1) - 1 = ii cc from ii_sub (b := 1) (by omega)]
      · obtain ⟨c1, c2, c3, c4, c5, c6, c7, c8, c9⟩ := g1
        refine ⟨bs1.fr f9 w9 (fun a a1 a2 => by omega), set_at, c3.fr hw ff (by omega), c4.fr hw ff (by omega), fun c hc => ?_, c6.fr hw ff (by omega) (fun a ha => by omega) (fun a ha => by omega), c7.fr hw ff (by omega), c8.fr hw ff (fun a a1 a2 => by omega) (fun a o a1 a2 => by omega), c9.fr hw ff (by omega)⟩
        by_cases e : c = cc
        · subst e
          refine ⟨fi, la, f2, ?_, ?_, fun _ i _ => by dsimp only; rw [if_pos rfl]⟩
          · exact ff.at hw k1 (by omega)
          · rw [set_ne (by omega), sl_out (Or.inr (by omega))]
            exact set_at
        · obtain ⟨fi', la', f', y1, y2, y3⟩ := c5 c hc
          exact ⟨fi', la', f', ff.at hw y1 (by omega), ff.at hw y2 (by omega), fun hlt i hi => by dsimp only; rw [if_neg e]; exact y3 (by omega) i hi⟩
    obtain ⟨i1, i2, i3, i4, i5⟩ := hg.2.2.1.succ
    refine glue hg (lw_ok g1.2.1 ho) (fun I A hm R => ?_) ⟨i1, by omega, i3, i4, i5⟩ (by decide)
    have hm' := hm.i (I' := upI I 12 0) fun j h1 h2 => by rw [upI_nn (by omega)]
    obtain ⟨m1, m2, m6, m7, m8, m9, m10, m11⟩ := hm'
    obtain ⟨I3, A3, q1, q2, q3, q4, q5⟩ := ch_100 (G := G) (R := R) (M := O + 195) (N := N) (I := upI I 12 0) (A := upA A 38 (ovr (s_bs (w5 x1 x2 x3 x4 x5)) (A 38) 20)) (c := cc) (by
      unfold mtab
      rw [upA_ne (by decide), upA_ne (by decide)]
      exact m1) m6 h1 (by omega)
    have j17 : I3 17 = ii cc := (q2 17 (by decide)).trans m6
    have zj : ∀ j, j ≠ 20 → j ∉ [2, 3, 4, 5, 7, 9, 11, 38] → A3 j = A j := fun j z1 z2 => by
      rw [q3 j z1 z2, upA_ne]
      intro e
      exact z2 (by rw [e]; decide)
    refine ⟨upI I3 17 (ii (cc + 1)), A3, ii cc, ?_, by rw [upI_nn (by decide), q2 12 (by decide), upI_ee]; rfl, fun _ => rfl, ⟨⟨by rw [zj 0 (by decide) (by decide)]; exact m1.1, by rw [zj 1 (by decide) (by decide)]; exact m1.2⟩, ⟨by rw [upI_nn (by decide), q2 13 (by decide)]; exact m2.1, by rw [upI_nn (by decide), q2 14 (by decide)]; exact m2.2.1, by rw [upI_nn (by decide), q2 15 (by decide)]; exact m2.2.2.1, by rw [upI_nn (by decide), q2 16 (by decide)]; exact m2.2.2.2⟩, upI_ee, by rw [upI_nn (by decide), q2 18 (by decide)]; exact m7, by rw [zj 19 (by decide) (by decide)]; exact m8, fun c hc i hi => ?_, by rw [zj 21 (by decide) (by decide), zj 22 (by decide) (by decide)]; exact m10, fun r hr' => ⟨by rw [zj 23 (by decide) (by decide)]; exact (m11 r hr').1, (m11 r hr').2.eq2 fun j z1 z2 => zj j (by omega) (by simp only [List.mem_cons, List.not_mem_nil, or_false]; omega)⟩⟩⟩
    · unfold f_Md_chain
      rw [md_p12, bd_S, md_i17, bd_S, m6, if_pos (by rw [show (8 : Int32) = ii 8 from rfl, ii_inj (by omega) (by decide)]; omega), ch_23 (by omega), bd_S, q1, bd_S, md_i17, bd_S, j17, ii_1, md_p17, bd_S, md_i17, bd_S, upI_ee, show ii (cc + 1) - 1 = ii cc from ii_sub (b := 1) (by omega)]
    · by_cases e : c = cc
      · subst e
        dsimp only
        rw [if_pos rfl]
        have e38 : ∀ z, z < 20 → upA A 38 (ovr (s_bs (w5 x1 x2 x3 x4 x5)) (A 38) 20) 38 z = s_bs (w5 x1 x2 x3 x4 x5) z := fun z hz => by
          rw [upA_eq]
          unfold ovr
          rw [if_pos hz]
        have top : ∀ z, z < 20 → s_bs f2 (20 * 64 + z) = s_bs (w5 x1 x2 x3 x4 x5) z := fun z hz => by
          rw [bs_sh]
          refine s_bs_congr ?_
          rw [r3 _ (Or.inr (by omega))]
          exact top5_w5 _ (by omega)
        have dn := chain_dn (lo := 0) top r4 (64 - i / 20) (by omega) (i % 20) (Nat.mod_lt _ (by decide))
        rw [show 20 * (64 - (64 - i / 20)) + i % 20 = i by omega] at dn
        have md := q5 (64 - i / 20) (by omega) (i % 20) (Nat.mod_lt _ (by decide))
        rw [show 1300 * c + 20 * (64 - (64 - i / 20)) + i % 20 = 1300 * c + i by omega] at md
        rw [md, dn]
        exact dnN_congr e38 _ _ (Nat.mod_lt _ (by decide))
      · dsimp only
        rw [if_neg e, q4 _ (by omega), upA_ne (by decide)]
        exact m9 c (by omega) i hi
  · have h8 : cc = 8 := by omega
    have ho : f_Of_chain G N σ O x1 x2 x3 x4 x5 = (ho_thr G σ).bind fun σ1 => some (σ1, .inl 0) := by
      unfold f_Of_chain
      rw [c_I g1.2.1 rfl, bd_S, if_neg (by rw [show (8 : Int32) = ii 8 from rfl, ii_lt (by omega) (by decide)]; exact h1)]
    refine glue hg (lw_ex (k := 1) (v := 0) g1.2.1 (by rw [ho]; exact hg.th hr 0) (fun _ => rfl) (by decide)) (fun I A hm => ms_fail hm (by decide) fun R => ?_) hg.2.2.1.succ (by decide)
    unfold f_Md_chain
    rw [md_p12, bd_S, md_i17, bd_S, upI_nn (by decide), hm.2.2.1, if_neg (by rw [h8]; exact fun h => h rfl), md_f, bd_S, fail_S, md_mono2, bd2_S]
    rfl
end OW
