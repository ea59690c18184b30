/-! join -/
/-- class and model, of a call without an answer -/
def J2 (G : ho_G) (N : Nat) (σ : ho_H) (O n : Nat) (fL : Option (ho_H × Int32)) (fM : ho_H → Option ho_H) : Prop := ∃ (σ1 : ho_H) (k : Int32) (σ2 : ho_H), fL = some (σ1, k) ∧ (σ.1 ≤ σ1.1 ∧ σ.2.1 ≤ σ1.2.1) ∧ wf G σ1 ∧ (∃ fs, ho_f σ1 (O + 195) 6 = some fs) ∧ fM σ1 = some σ2 ∧ (σ1.1 ≤ σ2.1 ∧ σ1.2.1 ≤ σ2.2.1) ∧ (∃ fs, ho_f σ2 (O + 195) 6 = some fs) ∧ f_Md_thrown G N σ2 (O + 195) = some k ∧ ∃ w2 C cc bf W PL ρ dr, good G σ2 w2 O (n + 1) C cc bf W PL ρ dr
section JO
variable {G : ho_G} {σ σ' : ho_H} {w w' : Nat → Nat} {N O n M : Nat} {C C' : CK} {cc cc' : Nat} {bf bf' : Nat → Int32} {W W' : Nat → Nat → Int32} {PL PL' : List PQ} {ρ ρ' : Nat → RS} {dr dr' : Nat → Int32} {I I' : Nat → Int32} {A A' : Nat → Nat → Int32} {R : ho_H}
theorem glue2 {f : Option (ho_H × (Nat ⊕ Unit))} {o : Nat ⊕ Unit} {h : ho_H → Nat → Option (ho_H × Int32)} {fM : ho_H → Option ho_H} {k : Nat} (hg : good G σ w O n C cc bf W PL ρ dr) (hk : OS G σ w O f o C' cc' bf' W' PL' ρ' dr') (ho : ∀ σ2, sm_e (fun i4 => h σ2 i4) (fun _ => some (σ2, 0)) o = some (σ2, ii k)) (hm : ∀ I A, mdl I A C cc bf W PL ρ dr → ∀ R, ∃ I' A', fM (md G R (O + 195) I A) = some (md G R (O + 195) I' A') ∧ I' 12 = ii k ∧ mdl I' A' C' cc' bf' W' PL' ρ' dr') (hi : inv C' cc' PL' ρ' (n + 1)) : J2 G N σ O n ((ho_f σ O 5).bind fun _ => bd2 (ho_ck σ f) fun σ2 o3 => sm_e (fun i4 => h σ2 i4) (fun _ => some (σ2, 0)) o3) fM := by
  obtain ⟨g1, ⟨I, A, g2, g3⟩, g4, g5, g6⟩ := hg
  obtain ⟨σ1, w1, k1, k2, k3, k4, k5⟩ := hk
  have hz := g1.1.2.2.1
  have hO := g1.1.2.1
  have e1 : σ1 = md G σ1 (O + 195) I A := md_keep g2 fun a h1 h2 => (k3.2.2 a (by omega)).2 (fun h => h ⟨h1, by omega⟩)
  obtain ⟨I', A', m1, m2, m4⟩ := hm I A g3 σ1
  rw [← e1] at m1
  have hz1 : O + 227 ≤ σ1.1 := Nat.le_trans hz k3.1
  have f2 : frm σ1 w1 (md G σ1 (O + 195) I' A') w1 (fun a _ => O + 195 ≤ a ∧ a < O + 195 + 31) := md_frm
  have w2 : wf G (md G σ1 (O + 195) I' A') := md_wf k2.1.1 (by omega) (by omega)
  refine ⟨σ1, ii k, md G σ1 (O + 195) I' A', ?_, ⟨k3.1, k3.2.1⟩, k2.1.1, ⟨_, by rw [e1]; exact md_f⟩, m1, ⟨Nat.le_refl _, Nat.le_refl _⟩, ⟨_, md_f⟩, by rw [thrown_S, m2], w1, C', cc', bf', W', PL', ρ', dr', k2.fr f2 w2 (fun a h1 h2 h => by omega) (fun h => by omega) (fun a o h1 h2 h => by omega), ⟨I', A', md_idem, m4⟩, hi, ?_, ?_⟩
  · rw [c_f g1.2.1, bd_S, k1, ck_S k3.1 k3.2.1, bd2_S]
    exact ho σ1
  · have h9 : (md G σ1 (O + 195) I' A').1 = σ1.1 := rfl
    rw [h9]
    omega
  · exact lim k5 g6
theorem jo_52 {r : Nat} {y z : Int32} (hr : r < 8) (hN : 301 < N) : ho_it (f_Md_join_l52 G N M (ii r) y z) N (md G R M I A, 0) = some (md G R M I (upA A 24 (s_zf (A 24) (8 * r) 8))) := by
  have z0 : s_zf (A 24) (8 * r) 0 = A 24 := by
    funext q
    unfold s_zf
    rw [if_neg (by omega)]
  refine it_for 8 (fun k => (md G R M I (upA A 24 (s_zf (A 24) (8 * r) k)), ii k)) _ (fun k hk => ?_) ?_ (by omega) (by rw [z0, upA_self]; rfl)
  · have a3 : 8 * ii r + ii k = ii (8 * r + k) := by rw [show (8 : Int32) = ii 8 from rfl, ii_mul, ii_add]
    have e9 : upd (s_zf (A 24) (8 * r) k) (8 * r + k) 0 = s_zf (A 24) (8 * r) (k + 1) := by
      funext q
      unfold upd s_zf
      by_cases e : q = 8 * r + k
      · rw [if_pos e, if_pos (by omega)]
      · rw [if_neg e]
        by_cases e2 : 8 * r ≤ q ∧ q < 8 * r + k
        · rw [if_pos e2, if_pos (by omega)]
        · rw [if_neg e2, if_neg (by omega)]
    unfold f_Md_join_l52
    dsimp only
    rw [if_neg (by rw [show (8 : Int32) = ii 8 from rfl, ii_le (by decide) (by omega)]; omega), md_r24, bd_S, a3, md_st24 (by omega) nar0, bd_S, ii_1, upA_upA, upA_eq, e9]
  · unfold f_Md_join_l52
    dsimp only
    rw [if_pos (by decide)]
theorem jo_81 {r : Nat} {y z : Int32} (hr : r < 8) (hN : 301 < N) : ho_it (f_Md_join_l81 G N M (ii r) y z) N (md G R M I A, 0) = some (md G R M I (upA A 28 (s_zf (A 28) (8 * r) 8))) := by
  have z0 : s_zf (A 28) (8 * r) 0 = A 28 := by
    funext q
    unfold s_zf
    rw [if_neg (by omega)]
  refine it_for 8 (fun k => (md G R M I (upA A 28 (s_zf (A 28) (8 * r) k)), ii k)) _ (fun k hk => ?_) ?_ (by omega) (by rw [z0, upA_self]; rfl)
  · have a3 : 8 * ii r + ii k = ii (8 * r + k) := by rw [show (8 : Int32) = ii 8 from rfl, ii_mul, ii_add]
    have e9 : upd (s_zf (A 28) (8 * r) k) (8 * r + k) 0 = s_zf (A 28) (8 * r) (k + 1) := by
      funext q
      unfold upd s_zf
      by_cases e : q = 8 * r + k
      · rw [if_pos e, if_pos (by omega)]
      · rw [if_neg e]
        by_cases e2 : 8 * r ≤ q ∧ q < 8 * r + k
        · rw [if_pos e2, if_pos (by omega)]
        · rw [if_neg e2, if_neg (by omega)]
    unfold f_Md_join_l81
    dsimp only
    rw [if_neg (by rw [show (8 : Int32) = ii 8 from rfl, ii_le (by decide) (by omega)]; omega), md_r28, bd_S, a3, md_st28 (by omega), bd_S, ii_1, upA_upA, upA_eq, e9]
  · unfold f_Md_join_l81
    dsimp only
    rw [if_pos (by decide)]
theorem jo_160 {r c k g : Nat} (hr : r < 8) (hc : c < 8) (hk : k ≤ 64) (hg : g = 64 * c + k) (hN : 301 < N) : ho_it (f_Md_join_l160 G N M (ii r) (ii g) (ii c)) N (md G R M I A, 0) = some (md G R M I (upA A 27 (s_cp (A 27) (fun i => A 20 (1300 * c + 20 * k + i)) (20 * (8 * r + c)) 20))) := by
  have es : ii g - 64 * ii c = ii k := by rw [show (64 : Int32) = ii 64 from rfl, ii_mul, ii_sub (by omega), show g - 64 * c = k by omega]
  refine it_for 20 (fun i => (md G R M I (upA A 27 (s_cp (A 27) (fun i => A 20 (1300 * c + 20 * k + i)) (20 * (8 * r + c)) i)), ii i)) _ (fun i hi => ?_) ?_ (by omega) (by rw [s_cp_0, upA_self]; rfl)
  · have a3 : 20 * (8 * ii r + ii c) + ii i = ii (20 * (8 * r + c) + i) := by rw [show (8 : Int32) = ii 8 from rfl, li20, ii_mul, ii_add, ii_mul, ii_add]
    unfold f_Md_join_l160
    dsimp only
    rw [if_neg (by rw [li20, ii_le (by decide) (by omega)]; omega), md_r27, bd_S, md_f, bd_S, es, keyAt_S (by omega), bd_S, a3, md_st27 (by omega), bd_S, ii_1, upA_upA, upA_eq, upA_ne (by decide), s_cp_up rfl]
  · unfold f_Md_join_l160
    dsimp only
    rw [if_pos (by decide)]
/-- join -/
theorem J_join {x y : Int32} (hg : good G σ w O n C cc bf W PL ρ dr) (hr : roomy G O n) (hN : 1001 < N) : J2 G N σ O n (f_Lw_join G N σ O x y) (fun s => f_Md_join G N s (O + 195) x y) := by
  have g1 := hg.1
  have hcc := hg.2.2.1.2.1
  unfold f_Lw_join
  have fail1 : (f_Of_join G N σ O x y = (ho_thr G σ).bind fun σ1 => some (σ1, .inl 2)) → (∀ I A R, f_Md_join G N (md G R (O + 195) I A) (O + 195) x y = some (md G R (O + 195) (upI (upI I 12 0) 12 1) A)) → J2 G N σ O n ((ho_f σ O 5).bind fun _ => bd2 (ho_ck σ (f_Of_join G N σ O x y)) fun σ2 o3 => sm_e (fun i4 => if i4 = 2 then some (σ2, 1) else if i4 = 0 then some (σ2, 2) else none) (fun _ => some (σ2, 0)) o3) (fun s => f_Md_join G N s (O + 195) x y) := fun ho hm => glue2 (k := 1) hg (by rw [ho]; exact hg.th hr 2) (fun _ => rfl) (fun I A hmd R => ⟨_, A, hm I A R, upI_ee, hmd.i fun j q1 q2 => by rw [upI_nn (by omega), upI_nn (by omega)]⟩) hg.2.2.1.succ
  by_cases h1 : x < 0 ∨ 7 < x
  · refine fail1 ?_ fun I A R => ?_
    · unfold f_Of_join f_Of_join_j19
      rw [c_f g1.2.1, bd_S, isRec_S, if_pos h1, bd_S, if_pos rfl]
    · unfold f_Md_join f_Md_join_j26
      rw [md_p12, bd_S, within_0 h1, bd_S, if_pos rfl, md_p12, bd_S]
  · obtain ⟨r, hr8, rfl⟩ := rng2 (b := 7) (by decide) (fun h => h1 (Or.inl h)) (fun h => h1 (Or.inr h))
    have hr' : r < 8 := by omega
    by_cases h2 : y < 0 ∨ 511 < y
    · refine fail1 ?_ fun I A R => ?_
      · unfold f_Of_join f_Of_join_j19
        rw [c_f g1.2.1, bd_S, isRec_S, if_neg h1, bd_S, if_neg (show ¬ (1 : Int32) = 0 by decide)]
        by_cases h3 : y < 0
        · rw [if_pos h3]
        · rw [if_neg h3, if_neg]
          intro h4
          rw [show (512 : Int32) = ii (511 + 1) from rfl, lt_succ (by decide) h3] at h4
          rcases h2 with h2 | h2
          · exact h3 h2
          · exact h4 h2
      · unfold f_Md_join f_Md_join_j26
        rw [md_p12, bd_S, within_1 h1, bd_S, if_neg (by decide), within_0 h2, bd_S, if_neg (fun h => h rfl), md_p12, bd_S]
    · obtain ⟨g, hg5, rfl⟩ := rng2 (b := 511) (by decide) (fun h => h2 (Or.inl h)) (fun h => h2 (Or.inr h))
      have e64 : ho_rm (ii g) 64 = ii (g % 64) := by rw [show (64 : Int32) = ii 64 from rfl, ii_rm (by omega) (by decide)]
      have ed : ii g / 64 = ii (g / 64) := by rw [show (64 : Int32) = ii 64 from rfl, ii_div (by omega) (by decide)]
      have rc := g1.2.2.2.2.2.2.2.1 r hr'
      have a17 : ∀ I : Nat → Int32, I 17 = ii cc → upI I 12 0 17 = ii cc := fun I h => by rw [upI_nn (by decide)]; exact h
      by_cases c1 : g / 64 < cc
      · have c8 : g / 64 < 8 := by omega
        obtain ⟨σ1, s1, s2, s3, s4, s5, s6⟩ := begin_S (N := N) rc g1.1 (by omega)
        have g2 := g1.up hr' s4 s2 s3
        obtain ⟨hw2, hO2, hz2, ⟨L, B, hσ2⟩, hck2⟩ := id g2.1
        have rc2 := s3
        obtain ⟨fi, la, f, k1, k2, k3⟩ := rc2.2.2.2.2.2.2 (g / 64) c8
        have hK := rcv.isK s2 rc.1.1 k1 k2
        obtain ⟨fi', la', f', hK', k1', k2', k3'⟩ := g2.isK c8
        have lf := Kc_learnFrom_S (N := N) (L := L) (B := B) (k := g % 64) hK hK' (by omega)
        rw [← hσ2] at lf
        have fk : frm σ1 w (kset (wset G σ1 (O + 27 + 21 * r + 6 + 2 * (g / 64)) 325 (va_cpy f' f (5 * (g % 64)) (5 * (g % 64)) 5)) (O + 27 + 21 * r + 5 + 2 * (g / 64)) (O + 27 + 21 * r + 6 + 2 * (g / 64)) (ii (g % 64)) (ii (g % 64))) w (TC O (O + 27 + 21 * r) (g / 64)) := (frm.set (Or.inr (Or.inr rfl))).trans (frm.set (Or.inr (Or.inl rfl)))
        have fs := fk.sl (G := G) (L := L) (B := B) (fun a h1 h2 => Or.inl ⟨h1, h2⟩)
        have ww : wf G (kset (wset G σ1 (O + 27 + 21 * r + 6 + 2 * (g / 64)) 325 (va_cpy f' f (5 * (g % 64)) (5 * (g % 64)) 5)) (O + 27 + 21 * r + 5 + 2 * (g / 64)) (O + 27 + 21 * r + 6 + 2 * (g / 64)) (ii (g % 64)) (ii (g % 64))) := (hw2.set k2).set (by rw [set_ne (by omega)]; exact k1)
        have bs : bse G (sl G (kset (wset G σ1 (O + 27 + 21 * r + 6 + 2 * (g / 64)) 325 (va_cpy f' f (5 * (g % 64)) (5 * (g % 64)) 5)) (O + 27 + 21 * r + 5 + 2 * (g / 64)) (O + 27 + 21 * r + 6 + 2 * (g / 64)) (ii (g % 64)) (ii (g % 64))) (O + 2) L B) O C := s2.sl (Nat.le_refl _) ww (by
          show (ho_set (ho_set σ1 _ _) _ _).2.2 (O + 1) = _
          rw [set_ne (by omega), set_ne (by omega)])
        have rc3 := s3.chain (x := some (g % 64, g % 64, fun i => W (g / 64) (20 * (g % 64) + i))) (fi := ii (g % 64)) (la := ii (g % 64)) (f := va_cpy f' f (5 * (g % 64)) (5 * (g % 64)) 5) hw2 fs c8 (by rw [sl_out (Or.inr (by omega))]; exact set_at) (by
          rw [sl_out (Or.inr (by omega))]
          show (ho_set (ho_set σ1 _ _) _ _).2.2 (O + 27 + 21 * r + 6 + 2 * (g / 64)) = _
          rw [set_ne (by omega)]
          exact set_at) ⟨rfl, rfl, fun j j1 j2 i hi => by
            have hj : j = g % 64 := by omega
            subst hj
            rw [Nat.sub_self]
            show _ = W (g / 64) (20 * (g % 64) + i)
            rw [← k3' c1 _ (by omega)]
            refine s_bs_congr ?_
            unfold va_cpy
            rw [if_pos (by omega)]
            congr 1
            omega⟩
        have fT := s4.trans (fs.mono fun a _ ht => TC_TR c8 ht)
        have gn := g1.up hr' fT bs rc3
        have ho : OS G σ w O (f_Of_join G N σ O (ii r) (ii g)) (.inr ()) C cc bf W PL (fun i => if i = r then (fun c' => if c' = g / 64 then some (g % 64, g % 64, fun i => W (g / 64) (20 * (g % 64) + i)) else none, [], [], fun _ => 0) else ρ i) (fun i => if i = r then dr r else dr i) := by
          refine ⟨_, w, ?_, gn, fT.mono fun a _ ht => TR_TT (by omega) (by omega) ht, by show σ1.1 ≤ _; omega, by show σ1.2.1 ≤ _; omega⟩
          obtain ⟨fb, hfb⟩ := rc.f
          unfold f_Of_join
          rw [c_f g1.2.1, bd_S, isRec_S, if_neg h1, bd_S, if_neg (show ¬ (1 : Int32) = 0 by decide), if_neg (fun h => h2 (Or.inl h)), if_pos (by rw [show (512 : Int32) = ii 512 from rfl, ii_lt (by omega) (by decide)]; omega), c_I g1.2.1 rfl, bd_S, ed, if_pos (by rw [ii_lt (by omega) (by omega)]; exact c1), c_R g1.2.1 rfl, bd_S, g1.ld hr', bd_S, hfb, bd_S, s1, cv_S (by omega) (by omega), bd_S, c_R g2.2.1 rfl, bd_S, g2.ld hr', bd_S, s3.r2, bd_S, s3.kn c8, bd_S, c_R g2.2.1 rfl, bd_S, g2.ch c8, bd_S, c_f k1, bd_S, e64, lf, cv_S (by exact Nat.le_refl _) (by exact Nat.le_refl _), bd_S]
        have V1 : rsV ((fun c' => if c' = g / 64 then some (g % 64, g % 64, fun i => W (g / 64) (20 * (g % 64) + i)) else none, [], [], fun _ => 0) : RS) := by
          refine ⟨fun c' fi v K hc => ?_, fun i q hq => by simp at hq, by simp, fun i q hq => by simp at hq⟩
          dsimp only at hc
          by_cases e : c' = g / 64
          · rw [if_pos e] at hc
            cases hc
            omega
          · rw [if_neg e] at hc
            cases hc
        refine glue2 (k := 0) hg ho (fun _ => rfl) (fun I A hm R => ?_) (hg.2.2.1.up V1 (fun i q hq => by simp at hq) (by simp))
        have hm' := hm.i (I' := upI I 12 0) fun j h1 h2 => by rw [upI_nn (by omega)]
        obtain ⟨m1, m2, m6, m7, m8, m9, m10, m11⟩ := hm'
        have a8 : 8 * ii r + ii (g / 64) = ii (8 * r + g / 64) := by rw [show (8 : Int32) = ii 8 from rfl, ii_mul, ii_add]
        refine ⟨upI I 12 0, upA (upA (upA (upA (upA (upA (upA A 24 (s_zf (A 24) (8 * r) 8)) 28 (s_zf (A 28) (8 * r) 8)) 29 (upd (A 29) r 0)) 32 (upd (A 32) r 0)) 24 (upd (s_zf (A 24) (8 * r) 8) (8 * r + g / 64) 1)) 25 (upd (A 25) (8 * r + g / 64) (ii g))) 26 (upd (A 26) (8 * r + g / 64) (ii g)) |> fun X => upA X 27 (s_cp (A 27) (fun i => A 20 (1300 * (g / 64) + 20 * (g % 64) + i)) (20 * (8 * r + g / 64)) 20), ?_, upI_ee, ?_⟩
        · unfold f_Md_join
          rw [md_p12, bd_S, within_1 h1, bd_S, if_neg (show ¬ (1 : Int32) = 0 by decide), within_1 h2, bd_S, if_pos (show ¬ (1 : Int32) = 0 by decide), md_f, bd_S, (chainFor_S m6 hcc (by omega)).1 c1, bd_S, if_pos (by rw [show (0 : Int32) = ii 0 from rfl, ii_le (by decide) (by omega)]; omega), jo_52 hr' (by omega), bd_S, jo_81 hr' (by omega), bd_S, md_r29, bd_S, md_st29 hr', bd_S, md_r32, bd_S, md_st32 hr', bd_S, md_r24, bd_S, a8, md_st24 (by omega) nar1, bd_S, md_r25, bd_S, md_st25 (by omega), bd_S, md_r26, bd_S, md_st26 (by omega), bd_S, jo_160 (k := g % 64) hr' c8 (by omega) (by omega) (by omega), bd_S]
          rw [upA_ne (show (28 : Nat) ≠ 24 by decide), upA_ne (show (29 : Nat) ≠ 28 by decide), upA_ne (show (29 : Nat) ≠ 24 by decide), upA_ne (show (32 : Nat) ≠ 29 by decide), upA_ne (show (32 : Nat) ≠ 28 by decide), upA_ne (show (32 : Nat) ≠ 24 by decide), upA_ne (show (24 : Nat) ≠ 32 by decide), upA_ne (show (24 : Nat) ≠ 29 by decide), upA_ne (show (24 : Nat) ≠ 28 by decide), upA_eq, upA_ne (show (25 : Nat) ≠ 24 by decide), upA_ne (show (25 : Nat) ≠ 32 by decide), upA_ne (show (25 : Nat) ≠ 29 by decide), upA_ne (show (25 : Nat) ≠ 28 by decide), upA_ne (show (25 : Nat) ≠ 24 by decide), upA_ne (show (26 : Nat) ≠ 25 by decide), upA_ne (show (26 : Nat) ≠ 24 by decide), upA_ne (show (26 : Nat) ≠ 32 by decide), upA_ne (show (26 : Nat) ≠ 29 by decide), upA_ne (show (26 : Nat) ≠ 28 by decide), upA_ne (show (26 : Nat) ≠ 24 by decide), upA_ne (show (27 : Nat) ≠ 26 by decide), upA_ne (show (27 : Nat) ≠ 25 by decide), upA_ne (show (27 : Nat) ≠ 24 by decide), upA_ne (show (27 : Nat) ≠ 32 by decide), upA_ne (show (27 : Nat) ≠ 29 by decide), upA_ne (show (27 : Nat) ≠ 28 by decide), upA_ne (show (27 : Nat) ≠ 24 by decide), upA_ne (show (20 : Nat) ≠ 26 by decide), upA_ne (show (20 : Nat) ≠ 25 by decide), upA_ne (show (20 : Nat) ≠ 24 by decide), upA_ne (show (20 : Nat) ≠ 32 by decide), upA_ne (show (20 : Nat) ≠ 29 by decide), upA_ne (show (20 : Nat) ≠ 28 by decide), upA_ne (show (20 : Nat) ≠ 24 by decide)]
        · dsimp only
          generalize hX : upA (upA (upA (upA (upA (upA (upA (upA A 24 (s_zf (A 24) (8 * r) 8)) 28 (s_zf (A 28) (8 * r) 8)) 29 (upd (A 29) r 0)) 32 (upd (A 32) r 0)) 24 (upd (s_zf (A 24) (8 * r) 8) (8 * r + g / 64) 1)) 25 (upd (A 25) (8 * r + g / 64) (ii g))) 26 (upd (A 26) (8 * r + g / 64) (ii g))) 27 (s_cp (A 27) (fun i => A 20 (1300 * (g / 64) + 20 * (g % 64) + i)) (20 * (8 * r + g / 64)) 20) = X
          have x24 : X 24 = upd (s_zf (A 24) (8 * r) 8) (8 * r + g / 64) 1 := by rw [← hX, upA_ne (by decide), upA_ne (by decide), upA_ne (by decide), upA_eq]
          have x25 : X 25 = upd (A 25) (8 * r + g / 64) (ii g) := by rw [← hX, upA_ne (by decide), upA_ne (by decide), upA_eq]
          have x26 : X 26 = upd (A 26) (8 * r + g / 64) (ii g) := by rw [← hX, upA_ne (by decide), upA_eq]
          have x27 : X 27 = s_cp (A 27) (fun i => A 20 (1300 * (g / 64) + 20 * (g % 64) + i)) (20 * (8 * r + g / 64)) 20 := by rw [← hX, upA_eq]
          have x28 : X 28 = s_zf (A 28) (8 * r) 8 := by rw [← hX, upA_ne (by decide), upA_ne (by decide), upA_ne (by decide), upA_ne (by decide), upA_ne (by decide), upA_ne (by decide), upA_eq]
          have x29 : X 29 = upd (A 29) r 0 := by rw [← hX, upA_ne (by decide), upA_ne (by decide), upA_ne (by decide), upA_ne (by decide), upA_ne (by decide), upA_eq]
          have x32 : X 32 = upd (A 32) r 0 := by rw [← hX, upA_ne (by decide), upA_ne (by decide), upA_ne (by decide), upA_ne (by decide), upA_eq]
          have xj : ∀ j, j ≠ 24 → j ≠ 25 → j ≠ 26 → j ≠ 27 → j ≠ 28 → j ≠ 29 → j ≠ 32 → X j = A j := fun j q1 q2 q3 q4 q5 q6 q7 => by rw [← hX, upA_ne q4, upA_ne q3, upA_ne q2, upA_ne q1, upA_ne q7, upA_ne q6, upA_ne q5, upA_ne q1]
          have mf : mfr A X r := by
            intro j q hj hq
            by_cases j24 : j = 24
            · subst j24
              have hq' : q < 8 * r ∨ 8 * r + 8 ≤ q := hq
              rw [x24]
              unfold upd s_zf
              rw [if_neg (by omega), if_neg (by omega)]
            · by_cases j25 : j = 25
              · subst j25
                have hq' : q < 8 * r ∨ 8 * r + 8 ≤ q := hq
                rw [x25]
                unfold upd
                rw [if_neg (by omega)]
              · by_cases j26 : j = 26
                · subst j26
                  have hq' : q < 8 * r ∨ 8 * r + 8 ≤ q := hq
                  rw [x26]
                  unfold upd
                  rw [if_neg (by omega)]
                · by_cases j27 : j = 27
                  · subst j27
                    have hq' : q < 160 * r ∨ 160 * r + 160 ≤ q := hq
                    rw [x27]
                    unfold s_cp
                    rw [if_neg (by omega)]
                  · by_cases j28 : j = 28
                    · subst j28
                      have hq' : q < 8 * r ∨ 8 * r + 8 ≤ q := hq
                      rw [x28]
                      unfold s_zf
                      rw [if_neg (by omega)]
                    · by_cases j29 : j = 29
                      · subst j29
                        have hq' : q < 1 * r ∨ 1 * r + 1 ≤ q := hq
                        rw [x29]
                        unfold upd
                        rw [if_neg (by omega)]
                      · by_cases j32 : j = 32
                        · subst j32
                          have hq' : q < 1 * r ∨ 1 * r + 1 ≤ q := hq
                          rw [x32]
                          unfold upd
                          rw [if_neg (by omega)]
                        · rw [xj j j24 j25 j26 j27 j28 j29 j32]
          refine ⟨mf.tab m1, m2, m6, m7, by rw [mf.con (j := 19) rfl rfl]; exact m8, by rw [mf.con (j := 20) rfl rfl]; exact m9, by rw [mf.con (j := 21) rfl rfl, mf.con (j := 22) rfl rfl]; exact m10, fun i hi => ⟨?_, ?_⟩⟩
          · rw [mf.con (j := 23) rfl rfl]
            dsimp only
            by_cases e : i = r
            · rw [if_pos e, e]
              exact (m11 r hr').1
            · rw [if_neg e]
              exact (m11 i hi).1
          · dsimp only
            by_cases e : i = r
            · subst e
              rw [if_pos rfl]
              refine ⟨fun c' hc' => ?_, ⟨by rw [x29]; unfold upd; rw [if_pos rfl]; rfl, fun k q hq => by simp at hq⟩, ⟨by rw [x32]; unfold upd; rw [if_pos rfl]; rfl, fun k q hq => by simp at hq⟩, fun j hj => by rw [x28]; unfold s_zf; rw [if_pos (by omega)]⟩
              dsimp only
              rw [x24, x25, x26, x27]
              by_cases e2 : c' = g / 64
              · subst e2
                rw [if_pos rfl]
                have eg : g = 64 * (g / 64) + g % 64 := by omega
                refine ⟨by unfold upd; rw [if_pos rfl], by unfold upd; rw [if_pos rfl, ← eg], by unfold upd; rw [if_pos rfl, ← eg], fun z hz => ?_⟩
                unfold s_cp
                rw [if_pos (by omega), Nat.add_sub_cancel_left]
                dsimp only
                rw [Nat.add_assoc]
                exact m9 _ c1 _ (by omega)
              · rw [if_neg e2]
                show upd _ _ _ _ = 0
                unfold upd s_zf
                rw [if_neg (by omega), if_pos (by omega)]
            · rw [if_neg e]
              have iv := hg.2.2.1.2.2.2.2 i hi
              have hn := hr.2.2.2
              exact (m11 i hi).2.fr mf e iv.1 (by have := iv.2.2; omega)
      · have ho : f_Of_join G N σ O (ii r) (ii g) = (ho_thr G σ).bind fun σ1 => some (σ1, .inl 0) := by
          unfold f_Of_join
          rw [c_f g1.2.1, bd_S, isRec_S, if_neg h1, bd_S, if_neg (show ¬ (1 : Int32) = 0 by decide), if_neg (fun h => h2 (Or.inl h)), if_pos (by rw [show (512 : Int32) = ii 512 from rfl, ii_lt (by omega) (by decide)]; omega), c_I g1.2.1 rfl, bd_S, ed, if_neg (by rw [ii_lt (by omega) (by omega)]; exact c1)]
        refine glue2 (k := 2) hg (by rw [ho]; exact hg.th hr 0) (fun _ => rfl) (fun I A hmd R => ⟨upI (upI I 12 0) 12 2, A, ?_, upI_ee, hmd.i fun j q1 q2 => by rw [upI_nn (by omega), upI_nn (by omega)]⟩) hg.2.2.1.succ
        unfold f_Md_join
        rw [md_p12, bd_S, within_1 h1, bd_S, if_neg (show ¬ (1 : Int32) = 0 by decide), within_1 h2, bd_S, if_pos (show ¬ (1 : Int32) = 0 by decide), md_f, bd_S, (chainFor_S (a17 I hmd.2.2.1) hcc (by omega)).2.2 c1 (Or.inl (by decide)), bd_S, if_neg (by decide), md_p12, bd_S]
end JO
