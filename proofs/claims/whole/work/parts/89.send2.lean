/-! send, root -/
theorem sr_0 {x : Int32} : ho_sr x (ii 0) = x := by
  apply i_ext
  rw [bt_sr (n := 0) rfl (by decide)]
  exact BitVec.sshiftRight_zero
theorem pkhd_q {g kd : Int32} {k : Nat} : ∀ q, q < 4 → pkhd g kd k q = s_by g q := by
  intro q hq
  have hq' : q = 0 ∨ q = 1 ∨ q = 2 ∨ q = 3 := by omega
  rcases hq' with rfl | rfl | rfl | rfl
  · exact ur24
  · exact s_by_ur (w := g) (q := 1) (by decide)
  · exact s_by_ur (w := g) (q := 2) (by decide)
  · show g &&& 255 = s_by g 3
    unfold s_by
    rw [show ii (24 - 8 * 3) = ii 0 from rfl, sr_0]
theorem pkhd_0 {g kd : Int32} {k q : Nat} (h : 6 ≤ q) : pkhd g kd k q = 0 := by
  unfold pkhd upd
  rw [if_neg (by omega), if_neg (by omega), if_neg (by omega), if_neg (by omega), if_neg (by omega), if_neg (by omega)]
section SE
variable {G : ho_G} {σ σ' : ho_H} {w w' : Nat → Nat} {N O n M : Nat} {C : CK} {cc : Nat} {bf : Nat → Int32} {W : Nat → Nat → Int32} {PL : List PQ} {ρ : Nat → RS} {dr : Nat → Int32} {I I' : Nat → Int32} {A A' : Nat → Nat → Int32}
theorem mdl.pk {bn : Nat} {F : Nat → Int32} (hm : mdl I A C cc bf W PL ρ dr) (e : ∀ j, 13 ≤ j → j < 18 → I' j = I j) (h18 : I' 18 = ii (PL.length + 1)) (hj : ∀ j, fre j = false → j ≠ 21 → j ≠ 22 → A' j = A j) (h21 : A' 21 = upd (A 21) PL.length (ii bn)) (h22 : ∀ q, q < 68 * PL.length ∨ 68 * PL.length + bn ≤ q → A' 22 q = A 22 q) (hF : ∀ k, k < bn → A' 22 (68 * PL.length + k) = F k) (hB : ∀ (p : Nat) (q : PQ), PL[p]? = some q → pkB q) : mdl I' A' C cc bf W (PL ++ [(bn, F)]) ρ dr := by
  obtain ⟨m1, ⟨m2, m3, m4, m5⟩, m6, m7, m8, m9, m10, m11⟩ := hm
  refine ⟨⟨by rw [hj 0 rfl (by decide) (by decide)]; exact m1.1, by rw [hj 1 rfl (by decide) (by decide)]; exact m1.2⟩, ⟨by rw [e 13 (by omega) (by omega)]; exact m2, by rw [e 14 (by omega) (by omega)]; exact m3, by rw [e 15 (by omega) (by omega)]; exact m4, by rw [e 16 (by omega) (by omega)]; exact m5⟩, by rw [e 17 (by omega) (by omega)]; exact m6, by rw [h18]; simp, by rw [hj 19 rfl (by decide) (by decide)]; exact m8, by rw [hj 20 rfl (by decide) (by decide)]; exact m9, fun p q hq => ?_, fun r hr => ⟨by rw [hj 23 rfl (by decide) (by decide)]; exact (m11 r hr).1, (m11 r hr).2.eq2 fun j a b => hj j (by
    unfold fre
    refine decide_eq_false ?_
    simp only [List.mem_cons, List.not_mem_nil, or_false]
    omega) (by omega) (by omega)⟩⟩
  rw [h21]
  rcases getq hq with ⟨hp, hq⟩ | ⟨hp, hq⟩
  · have y := m10 p q hq
    have hb := hB p q hq
    refine ⟨?_, fun k hk => ?_⟩
    · unfold upd
      rw [if_neg (by omega)]
      exact y.1
    · have := hb.2.1
      rw [h22 _ (by omega)]
      exact y.2 k hk
  · rw [hp, hq]
    refine ⟨?_, hF⟩
    unfold upd
    rw [if_pos rfl]
theorem snd_87 {p m k : Nat} {F f : Nat → Int32} (h : mk G σ w O p m (36 + k) F) (g1 : cls G σ w O C cc bf W PL ρ dr) (hf : σ.2.2 (O + 7) = some (.inl (gc G 0, 8, .inl f))) (hk : k ≤ 32) (hN : 301 < N) : ho_it (f_Of_send_l87 G N O (ii k) p) N (σ, 0) = some (ho_set σ m (.inl (gc G 0, 36 + k, .inl (s_cp F (s_bs f) 6 k)))) := by
  obtain ⟨h1, h2, h3, h4, h5, h6, h7⟩ := h
  refine it_for k (fun i => (ho_set σ m (.inl (gc G 0, 36 + k, .inl (s_cp F (s_bs f) 6 i))), ii i)) _ (fun i hi => ?_) ?_ (by omega) (by rw [s_cp_0, set_self h2]; rfl)
  · have p1 : (ho_set σ m (.inl (gc G 0, 36 + k, .inl (s_cp F (s_bs f) 6 i)))).2.2 p = some (.inr (3, [.ref m])) := by rw [set_ne h7]; exact h1
    have o1 : (ho_set σ m (.inl (gc G 0, 36 + k, .inl (s_cp F (s_bs f) 6 i)))).2.2 O = some (.inr (5, [.ref (O + 1), .ref (O + 2), .ref (O + 7), .ref (O + 8), .int (ii cc), .ref (O + 25), .ref (O + 26)])) := by rw [set_ne (by omega)]; exact g1.2.1
    have b1 : f_Of_byteOf G N (ho_set σ m (.inl (gc G 0, 36 + k, .inl (s_cp F (s_bs f) 6 i)))) (O + 7) (ii i) = some (s_bs f i) := Of_byteOf_S (n := 8) (c_r (by rw [set_ne (by omega)]; exact hf)) (by omega) (by omega)
    unfold f_Of_send_l87
    dsimp only
    rw [if_neg (by rw [ii_le (by omega) (by omega)]; omega), c_R p1 rfl, bd_S, c_R o1 rfl, bd_S, b1, bd_S, show (6 : Int32) + ii i = ii (6 + i) from ii_add 6 i, c_st set_at (by omega) (by omega), bd_S, set_set, s_cp_up rfl, ii_1]
  · unfold f_Of_send_l87
    dsimp only
    rw [if_pos (by rw [ii_le (by omega) (by omega)]; exact Nat.le_refl _)]
theorem msnd_59 {R : ho_H} {k : Nat} (hk : k ≤ 32) (hN : 301 < N) : ho_it (f_Md_send_l59 G N M (ii k)) N (md G R M I A, 0) = some (md G R M I (upA A 37 (s_cp (A 37) (s_bs (A 19)) 6 k))) := by
  refine it_for k (fun i => (md G R M I (upA A 37 (s_cp (A 37) (s_bs (A 19)) 6 i)), ii i)) _ (fun i hi => ?_) ?_ (by omega) (by rw [s_cp_0, upA_self]; rfl)
  · have e4 : ii i / 4 = ii (i / 4) := by rw [show (4 : Int32) = ii 4 from rfl, ii_div (by omega) (by decide)]
    have e5 : ho_rm (ii i) 4 = ii (i % 4) := by rw [show (4 : Int32) = ii 4 from rfl, ii_rm (by omega) (by decide)]
    have e6 : (24 : Int32) - 8 * ii (i % 4) = ii (24 - 8 * (i % 4)) := by rw [show (8 : Int32) = ii 8 from rfl, show (24 : Int32) = ii 24 from rfl, ii_mul, ii_sub (by omega)]
    unfold f_Md_send_l59 f_Md_byteOf
    dsimp only
    rw [if_neg (by rw [ii_le (by omega) (by omega)]; omega), md_r37, bd_S, md_r19, bd_S, e4, md_ld19 (by omega), bd_S, e5, bd_S, e6, show (6 : Int32) + ii i = ii (6 + i) from ii_add 6 i, md_st37 (by omega), bd_S, ii_1, upA_upA, upA_eq, upA_ne (by decide), show upd (s_cp (A 37) (s_bs (A 19)) 6 i) (6 + i) (ho_sr (A 19 (i / 4)) (ii (24 - 8 * (i % 4))) &&& 255) = s_cp (A 37) (s_bs (A 19)) 6 (i + 1) from s_cp_up rfl]
  · unfold f_Md_send_l59
    dsimp only
    rw [if_pos (by rw [ii_le (by omega) (by omega)]; exact Nat.le_refl _)]
theorem mrt_47 {R : ho_H} {c : Nat} (hc : c + 1 < 8) (hN : 301 < N) : ho_it (f_Md_root_l47 G N M (ii c)) N (md G R M I A, 0) = some (md G R M I (upA A 37 (s_cp (A 37) (fun i => A 20 (1300 * (c + 1) + 20 * 0 + i)) 6 20))) := by
  refine it_for 20 (fun i => (md G R M I (upA A 37 (s_cp (A 37) (fun i => A 20 (1300 * (c + 1) + 20 * 0 + i)) 6 i)), ii i)) _ (fun i hi => ?_) ?_ (by omega) (by rw [s_cp_0, upA_self]; rfl)
  · have k0 : f_Md_keyAt G N (md G R M I (upA A 37 (s_cp (A 37) (fun i => A 20 (1300 * (c + 1) + 20 * 0 + i)) 6 i))) M (ii (c + 1)) 0 (ii i) = some (A 20 (1300 * (c + 1) + 20 * 0 + i)) := by
      have := keyAt_S (G := G) (R := R) (M := M) (N := N) (I := I) (A := upA A 37 (s_cp (A 37) (fun i => A 20 (1300 * (c + 1) + 20 * 0 + i)) 6 i)) (c := c + 1) (k := 0) (i := i) (by omega)
      rw [upA_ne (by decide)] at this
      exact this
    unfold f_Md_root_l47
    dsimp only
    rw [if_neg (by rw [li20, ii_le (by decide) (by omega)]; omega), md_r37, bd_S, md_f, bd_S, ii_1, k0, bd_S, show (6 : Int32) + ii i = ii (6 + i) from ii_add 6 i, md_st37 (by omega), bd_S, ii_1, upA_upA, upA_eq, s_cp_up rfl]
  · unfold f_Md_root_l47
    dsimp only
    rw [if_pos (by decide)]
theorem cls.Wb (g1 : cls G σ w O C cc bf W PL ρ dr) {c i : Nat} (hc : c < cc) (hcc : cc ≤ 8) (hi : i < 1300) : isb (W c i) := by
  obtain ⟨fi, la, f, -, -, -, k3⟩ := g1.isK (c := c) (by omega)
  rw [← k3 hc i hi]
  exact isb_bs
/-- send -/
theorem J_send {x : Int32} (hg : good G σ w O n C cc bf W PL ρ dr) (hr : roomy G O n) (ht : gtab G) (hA : gA G 4 < gB G) (hN : 1001 < N) : J G N σ O n (f_Lw_send G N σ O x (O + 226)) (fun s => f_Md_send G N s (O + 195) x) := by
  have g1 := hg.1
  obtain ⟨⟨lag, tk, er, tm, hck⟩, i2, i3, i4, i5⟩ := id hg.2.2.1
  have hz := hck.nz
  have hiv := hck.iv
  obtain ⟨hC, l1, l2, t1, t2, t3, t4⟩ := id hck
  have hC1 : C.1 = ii lag := by rw [hC]
  generalize hgg : tm / tk + 1 = g at *
  have hg1 : 1 ≤ g := hgg ▸ Nat.le_add_left 1 _
  have c8 : ch g < 8 := ch_lt t4
  unfold f_Lw_send
  by_cases h1 : x < 0 ∨ 32 < x
  · have ho : f_Of_send G N σ O x = (ho_thr G σ).bind fun σ1 => some (σ1, .inl 1) := by
      unfold f_Of_send f_Of_send_j10
      by_cases h2 : x < 0
      · rw [if_pos h2]
      · rcases h1 with h1 | h1
        · exact absurd h1 h2
        · rw [if_neg h2, if_neg (Int32.not_le.mpr h1)]
    refine glue hg (lw_ex (k := 1) (v := 0) g1.2.1 (by rw [ho]; exact hg.th hr 1) (fun _ => rfl) (by decide)) (fun I A hm => ms_fail hm (by decide) fun R => ?_) hg.2.2.1.succ (by decide)
    unfold f_Md_send
    rw [md_p12, bd_S, within_0 h1, bd_S, if_neg (fun h => h rfl), md_f, bd_S, fail_S, md_mono2, bd2_S]
    rfl
  · obtain ⟨k, hk, rfl⟩ := rng2 (b := 32) (by decide) (fun h => h1 (Or.inl h)) (fun h => h1 (Or.inr h))
    have mi : ∀ (I : Nat → Int32) (A : Nat → Nat → Int32), mdl I A C cc bf W PL ρ dr → ∀ R A', f_Md_interval G N (md G R (O + 195) (upI I 12 0) A') (O + 195) = some (ii g) := fun I A hm R A' => by
      obtain ⟨-, ⟨q1, q2, q3, q4⟩, -⟩ := hm
      unfold f_Md_interval
      rw [md_i16, bd_S, md_i14, bd_S, upI_nn (by decide), upI_nn (by decide), q2, q4, ho_nz_S hz, bd_S, hiv]
    obtain ⟨fs, hfs⟩ := g1.2.2.2.2.2.1.f
    by_cases h2 : ch g < cc
    · by_cases h3 : PL.length < 200
      · obtain ⟨f, o1, o2⟩ := g1.2.2.1
        obtain ⟨σ1, w1, -, n2, n3, n4, n5, n6, n7, n8⟩ := newp (N := N) (g := ii g) (kd := 0) (k := k) g1 hk (hg.r1 hr) (hg.r2 hr)
        have o1' : σ1.2.2 (O + 7) = some (.inl (gc G 0, 8, .inl f)) := n6.at g1.1.1 o1 (fun h => h)
        have lp := snd_87 (N := N) n5 n4 o1' hk (by omega)
        obtain ⟨g3, hm3, fr3⟩ := n5.set (F' := s_cp (pkhd (ii g) 0 k) (s_bs f) 6 k) n4
        have rr1 := hg.r1 hr
        have rr2 := hg.r2 hr
        have hh : ∀ q, q < 6 → s_cp (pkhd (ii g) 0 k) (s_bs f) 6 k q = pkhd (ii g) 0 k q := fun q hq => by
          unfold s_cp
          rw [if_neg (by omega)]
        obtain ⟨σ2, w2, F', e1, e2, e3, e4, e5, e6, e7, e8⟩ := post_S (N := N) (kn := 0) (lag := lag) (body := s_bs bf) g3 hm3 hk (fun q hq => by rw [hh q (by omega)]; exact pkhd_q q hq) (by rw [hh 4 (by decide)]; rfl) (by rw [hh 5 (by decide)]; rfl) (fun i hi => by
          unfold s_cp
          rw [if_pos (by omega), Nat.add_sub_cancel_left]
          exact s_bs_congr (o2 _ (by omega))) (fun i q1 q2 => by
          unfold s_cp
          rw [if_neg (by omega)]
          exact pkhd_0 (by omega)) hg1 t4 h2 i2 hC1 l2 l1 h3 ht hA (by show σ1.1 + 1 ≤ _; omega) (by show σ1.2.1 + 300 ≤ _; omega) (by omega)
        have s3 : (ho_set σ1 (σ.1 + 1) (.inl (gc G 0, 36 + k, .inl (s_cp (pkhd (ii g) 0 k) (s_bs f) 6 k)))).1 = σ1.1 := rfl
        have s3' : (ho_set σ1 (σ.1 + 1) (.inl (gc G 0, 36 + k, .inl (s_cp (pkhd (ii g) 0 k) (s_bs f) 6 k)))).2.1 = σ1.2.1 := rfl
        have hz0 := g1.1.2.2.1
        have ho : OS G σ w O (f_Of_send G N σ O (ii k)) (.inr (ii PL.length)) C cc bf W (PL ++ [(36 + k, F')]) ρ dr := by
          refine ⟨σ2, w2, ?_, e3, ⟨by omega, by omega, fun a ha => ⟨?_, fun hn => ?_⟩⟩, by omega, by omega⟩
          · unfold f_Of_send
            rw [if_neg (fun h => h1 (Or.inl h)), if_pos (Int32.not_lt.mp fun h => h1 (Or.inr h)), c_R g1.2.1 rfl, bd_S, bd_S, c_I g1.ck rfl, bd_S, c_f g1.ck, bd_S, interval_S g1 hz, bd_S, hiv, chainOf_S hg1 (by omega), bd_S, c_I g1.2.1 rfl, bd_S, if_pos (by rw [ii_lt (by omega) (by omega)]; exact h2), c_R g1.2.1 rfl, bd_S, hfs, bd_S, Al_size_S g1.2.2.2.2.2.1, bd_S, if_pos (by rw [show (200 : Int32) = ii 200 from rfl, ii_lt (by omega) (by decide)]; exact h3), n2, bd2_S, n3, bd_S, lp, bd_S, c_f g3.2.1, bd_S, e1, ck_S (by omega) (by omega), bd2_S]
          · rw [e5 a (by omega) (by omega) (by omega)]
            exact (n6.2.2 a ha).1
          · have hr9 : O + 195 ≤ a ∧ a < O + 226 := by
              apply Classical.byContradiction
              intro h9
              exact hn h9
            rw [e6 a hr9.1 hr9.2, set_ne (by omega)]
            exact (n6.2.2 a ha).2 (fun h => h)
        have hpB : pkB (36 + k, F') := e2.B hk (by decide) (fun i hi => isb_bs) (fun i hi => by
          by_cases hgl : g ≤ lag
          · rw [if_pos hgl]
            exact isb_ii (n := 0) (by decide)
          · rw [if_neg hgl]
            have n64 : nu (g - lag) ≤ 64 := nu_le
            exact g1.Wb (by unfold ch at h2 ⊢; omega) i2 (by omega))
        refine glue hg (lw_ok g1.2.1 ho) (fun I A hm R => ?_) ⟨⟨lag, tk, er, tm, hck⟩, i2, by simp; omega, fun p q hq => ?_, fun r hr' => ⟨(i5 r hr').1, (i5 r hr').2.1, by have := (i5 r hr').2.2; omega⟩⟩ (by decide)
        · have hm' := hm.i (I' := upI I 12 0) fun j h1 h2 => by rw [upI_nn (by omega)]
          have hx := mi I A hm
          obtain ⟨m1, ⟨m2, m3, m4, m5⟩, m6, m7, m8, m9, m10, m11⟩ := id hm'
          have n64 : nu g ≤ 64 := nu_le
          obtain ⟨I', A', p1, p2, p3, p4, p5, p6, F, p7, p8⟩ := pack_S (G := G) (R := R) (M := O + 195) (N := N) (I := upI I 12 0) (A := upA A 37 (s_cp (A 37) (s_bs (A 19)) 6 k)) (n := k) (P := PL.length) (g := g) (lag := lag) (kd := 0) (body := s_bs bf) hx (m2.trans hC1) m7 h3 hk hg1 t4 l2 (fun i hi => by
            rw [upA_eq]
            unfold s_cp
            rw [if_pos (by omega), Nat.add_sub_cancel_left]
            exact s_bs_congr (m8 _ (by omega))) (by
            unfold mtab
            rw [upA_ne (by decide), upA_ne (by decide)]
            exact m1) (by omega)
          have uq : ∀ z, z < 36 + k → F z = F' z := by
            refine pkS.uq (body := s_bs bf) (K := fun i => W (ch g) (20 * nu g + i)) (sh := fun i => if g ≤ lag then 0 else W (ch (g - lag)) (20 * nu (g - lag) + i)) ?_ e2
            obtain ⟨a1, a2, a3, a4, a5, a6⟩ := p7
            refine ⟨a1, a2, a3, a4, fun i hi => ?_, fun i hi => ?_⟩
            · rw [a5 i hi]
              refine s_cd_congr (fun z hz9 => ?_) (fun _ _ => rfl) i (by omega)
              rw [upA_ne (by decide), Nat.add_assoc, m9 _ h2 _ (by omega)]
            · rw [a6 i hi]
              dsimp only
              by_cases hgl : g ≤ lag
              · rw [if_pos hgl, if_pos hgl]
              · have n64' : nu (g - lag) ≤ 64 := nu_le
                rw [if_neg hgl, if_neg hgl, upA_ne (by decide), Nat.add_assoc, m9 _ (by unfold ch at h2 ⊢; omega) _ (by omega)]
          refine ⟨I', A', ii PL.length, ?_, by rw [p2 12 (by decide), upI_ee]; rfl, fun _ => rfl, hm'.pk (fun j q1 q2 => p2 j (by simp only [List.mem_cons, List.not_mem_nil, or_false]; omega)) p3 (fun j q1 q2 q3 => by rw [p4 j q1 q2 q3, upA_ne (fun e => by rw [e] at q1; cases q1)]) (by rw [p5, upA_ne (by decide)]) (fun q hq => by rw [p6 q hq, upA_ne (by decide)]) (fun z hz9 => by rw [p8 z hz9]; exact uq z hz9) i4⟩
          unfold f_Md_send
          rw [md_p12, bd_S, within_1 h1, bd_S, if_pos (show ¬ (1 : Int32) = 0 by decide), md_f, bd_S, hx, bd_S, mchain_S hg1 (by omega), bd_S, md_i17, bd_S, m6, if_pos (by rw [ii_lt (by omega) (by omega)]; exact h2), md_i18, bd_S, m7, if_pos (by rw [show (200 : Int32) = ii 200 from rfl, ii_inj (by omega) (by decide)]; omega), msnd_59 hk (by omega), bd_S, md_f, bd_S, p1, md_mono2, bd2_S]
        · rcases getP hq with hq | hq
          · exact i4 p q hq
          · rw [hq]
            exact hpB
      · have h200 : PL.length = 200 := by omega
        have ho : f_Of_send G N σ O (ii k) = (ho_thr G σ).bind fun σ1 => some (σ1, .inl 3) := by
          unfold f_Of_send
          rw [if_neg (fun h => h1 (Or.inl h)), if_pos (Int32.not_lt.mp fun h => h1 (Or.inr h)), c_R g1.2.1 rfl, bd_S, bd_S, c_I g1.ck rfl, bd_S, c_f g1.ck, bd_S, interval_S g1 hz, bd_S, hiv, chainOf_S hg1 (by omega), bd_S, c_I g1.2.1 rfl, bd_S, if_pos (by rw [ii_lt (by omega) (by omega)]; exact h2), c_R g1.2.1 rfl, bd_S, hfs, bd_S, Al_size_S g1.2.2.2.2.2.1, bd_S, if_neg (by rw [show (200 : Int32) = ii 200 from rfl, ii_lt (by omega) (by decide)]; exact h3)]
        refine glue hg (lw_ex (k := 3) (v := 0) g1.2.1 (by rw [ho]; exact hg.th hr 3) (fun _ => rfl) (by decide)) (fun I A hm => ms_fail hm (by decide) fun R => ?_) hg.2.2.1.succ (by decide)
        have hx := mi I A hm
        unfold f_Md_send
        rw [md_p12, bd_S, within_1 h1, bd_S, if_pos (show ¬ (1 : Int32) = 0 by decide), md_f, bd_S, hx, bd_S, mchain_S hg1 (by omega), bd_S, md_i17, bd_S, upI_nn (show (17 : Nat) ≠ 12 by decide), hm.2.2.1, if_pos (by rw [ii_lt (by omega) (by omega)]; exact h2), md_i18, bd_S, upI_nn (show (18 : Nat) ≠ 12 by decide), hm.2.2.2.1, h200, if_neg (fun h => h rfl), bd_S, fail_S, md_mono2, bd2_S]
        rfl
    · have ho : f_Of_send G N σ O (ii k) = (ho_thr G σ).bind fun σ1 => some (σ1, .inl 0) := by
        unfold f_Of_send
        rw [if_neg (fun h => h1 (Or.inl h)), if_pos (Int32.not_lt.mp fun h => h1 (Or.inr h)), c_R g1.2.1 rfl, bd_S, bd_S, c_I g1.ck rfl, bd_S, c_f g1.ck, bd_S, interval_S g1 hz, bd_S, hiv, chainOf_S hg1 (by omega), bd_S, c_I g1.2.1 rfl, bd_S, if_neg (by rw [ii_lt (by omega) (by omega)]; exact h2)]
      refine glue hg (lw_ex (k := 2) (v := 0) g1.2.1 (by rw [ho]; exact hg.th hr 0) (fun _ => rfl) (by decide)) (fun I A hm => ms_fail hm (by decide) fun R => ?_) hg.2.2.1.succ (by decide)
      have hx := mi I A hm
      unfold f_Md_send
      rw [md_p12, bd_S, within_1 h1, bd_S, if_pos (show ¬ (1 : Int32) = 0 by decide), md_f, bd_S, hx, bd_S, mchain_S hg1 (by omega), bd_S, md_i17, bd_S, upI_nn (show (17 : Nat) ≠ 12 by decide), hm.2.2.1, if_neg (by rw [ii_lt (by omega) (by omega)]; exact h2), bd_S, fail_S, md_mono2, bd2_S]
      rfl
/-- root -/
theorem J_root (hg : good G σ w O n C cc bf W PL ρ dr) (hr : roomy G O n) (ht : gtab G) (hA : gA G 4 < gB G) (hN : 1001 < N) : J G N σ O n (f_Lw_root G N σ O (O + 226)) (fun s => f_Md_root G N s (O + 195)) := by
  have g1 := hg.1
  obtain ⟨⟨lag, tk, er, tm, hck⟩, i2, i3, i4, i5⟩ := id hg.2.2.1
  have hz := hck.nz
  have hiv := hck.iv
  obtain ⟨hC, l1, l2, t1, t2, t3, t4⟩ := id hck
  have hC1 : C.1 = ii lag := by rw [hC]
  generalize hgg : tm / tk + 1 = g at *
  have hg1 : 1 ≤ g := hgg ▸ Nat.le_add_left 1 _
  have c8 : ch g < 8 := ch_lt t4
  unfold f_Lw_root
  have mi : ∀ (I : Nat → Int32) (A : Nat → Nat → Int32), mdl I A C cc bf W PL ρ dr → ∀ R A', f_Md_interval G N (md G R (O + 195) (upI I 12 0) A') (O + 195) = some (ii g) := fun I A hm R A' => by
    obtain ⟨-, ⟨q1, q2, q3, q4⟩, -⟩ := hm
    unfold f_Md_interval
    rw [md_i16, bd_S, md_i14, bd_S, upI_nn (by decide), upI_nn (by decide), q2, q4, ho_nz_S hz, bd_S, hiv]
  obtain ⟨fs, hfs⟩ := g1.2.2.2.2.2.1.f
  by_cases h2 : ch g + 1 < cc
  · by_cases h3 : PL.length < 200
    · obtain ⟨σ1, w1, -, n2, n3, n4, n5, n6, n7, n8⟩ := newp (N := N) (g := ii g) (kd := 1) (k := 20) g1 (by decide) (hg.r1 hr) (hg.r2 hr)
      obtain ⟨hw1, hO1, hz1, ⟨L1, B1, hσ1⟩, hck1⟩ := id n4.1
      obtain ⟨fi, la, f, hK, k1, k2, k3⟩ := n4.isK (c := ch g + 1) (by omega)
      have hmO := n5.2.2.2.2.2.1
      have wk := Kc_writeKey_S (N := N) (L := L1) (B := B1) (k := 0) (fr := 6) hK (by decide) (Or.inr (show O + 2 + 5 ≤ σ.1 + 1 by omega)) (by omega) (by omega) (c_a n5.2.1) (by decide) (by decide) (by omega)
      have es : sl G (wset G σ1 (σ.1 + 1) (36 + 20) (s_cp (pkhd (ii g) 1 20) (fun i => s_bs f (20 * 0 + i)) 6 20)) (O + 2) L1 B1 = ho_set σ1 (σ.1 + 1) (.inl (gc G 0, 36 + 20, .inl (s_cp (pkhd (ii g) 1 20) (fun i => s_bs f (20 * 0 + i)) 6 20))) := by
        have := sl_setO (G := G) (R := σ1) (S := O + 2) (L := L1) (B := B1) (a := σ.1 + 1) (e := .inl (gc G 0, 36 + 20, .inl (s_cp (pkhd (ii g) 1 20) (fun i => s_bs f (20 * 0 + i)) 6 20))) (Or.inr (by omega))
        rw [← hσ1] at this
        exact this.symm
      rw [es, ← hσ1] at wk
      obtain ⟨g3, hm3, fr3⟩ := n5.set (F' := s_cp (pkhd (ii g) 1 20) (fun i => s_bs f (20 * 0 + i)) 6 20) n4
      have rr1 := hg.r1 hr
      have rr2 := hg.r2 hr
      have hh : ∀ q, q < 6 → s_cp (pkhd (ii g) 1 20) (fun i => s_bs f (20 * 0 + i)) 6 20 q = pkhd (ii g) 1 20 q := fun q hq => by
        unfold s_cp
        rw [if_neg (by omega)]
      obtain ⟨σ2, w2, F', e1, e2, e3, e4, e5, e6, e7, e8⟩ := post_S (N := N) (kn := 1) (lag := lag) (body := fun i => W (ch g + 1) i) g3 hm3 (by decide) (fun q hq => by rw [hh q (by omega)]; exact pkhd_q q hq) (by rw [hh 4 (by decide)]; rfl) (by rw [hh 5 (by decide)]; rfl) (fun i hi => by
        unfold s_cp
        rw [if_pos (by omega), Nat.add_sub_cancel_left]
        dsimp only
        rw [show 20 * 0 + i = i by omega]
        exact k3 h2 i (by omega)) (fun i q1 q2 => by
        unfold s_cp
        rw [if_neg (by omega)]
        exact pkhd_0 (by omega)) hg1 t4 (by omega) i2 hC1 l2 l1 h3 ht hA (by show σ1.1 + 1 ≤ _; omega) (by show σ1.2.1 + 300 ≤ _; omega) (by omega)
      have s3 : (ho_set σ1 (σ.1 + 1) (.inl (gc G 0, 36 + 20, .inl (s_cp (pkhd (ii g) 1 20) (fun i => s_bs f (20 * 0 + i)) 6 20)))).1 = σ1.1 := rfl
      have s3' : (ho_set σ1 (σ.1 + 1) (.inl (gc G 0, 36 + 20, .inl (s_cp (pkhd (ii g) 1 20) (fun i => s_bs f (20 * 0 + i)) 6 20)))).2.1 = σ1.2.1 := rfl
      have hz0 := g1.1.2.2.1
      have ho : OS G σ w O (f_Of_root G N σ O) (.inr (ii PL.length)) C cc bf W (PL ++ [(36 + 20, F')]) ρ dr := by
        refine ⟨σ2, w2, ?_, e3, ⟨by omega, by omega, fun a ha => ⟨?_, fun hn => ?_⟩⟩, by omega, by omega⟩
        · unfold f_Of_root
          rw [c_R g1.2.1 rfl, bd_S, bd_S, c_I g1.ck rfl, bd_S, c_f g1.ck, bd_S, interval_S g1 hz, bd_S, hiv, chainOf_S hg1 (by omega), bd_S, c_I g1.2.1 rfl, bd_S, ii_1, if_pos (by rw [ii_lt (by omega) (by omega)]; exact h2), c_R g1.2.1 rfl, bd_S, hfs, bd_S, Al_size_S g1.2.2.2.2.2.1, bd_S, if_pos (by rw [show (200 : Int32) = ii 200 from rfl, ii_lt (by omega) (by decide)]; exact h3), n2, bd2_S, show (20 : Int32) = ii 20 from rfl, n3, bd_S, c_R n4.2.1 rfl, bd_S, n4.ch (by omega), bd_S, c_R n5.1 rfl, bd_S, c_f k1, bd_S, show (0 : Int32) = ii 0 from rfl, show (6 : Int32) = ii 6 from rfl, wk, cv_S (by exact Nat.le_refl _) (by exact Nat.le_refl _), bd_S, c_f g3.2.1, bd_S, e1, ck_S (by omega) (by omega), bd2_S]
        · rw [e5 a (by omega) (by omega) (by omega)]
          exact (n6.2.2 a ha).1
        · have hr9 : O + 195 ≤ a ∧ a < O + 226 := by
            apply Classical.byContradiction
            intro h9
            exact hn h9
          rw [e6 a hr9.1 hr9.2, set_ne (by omega)]
          exact (n6.2.2 a ha).2 (fun h => h)
      have hpB : pkB (36 + 20, F') := e2.B (by decide) (by decide) (fun i hi => g1.Wb h2 i2 (by omega)) (fun i hi => by
        by_cases hgl : g ≤ lag
        · rw [if_pos hgl]
          exact isb_ii (n := 0) (by decide)
        · rw [if_neg hgl]
          have n64 : nu (g - lag) ≤ 64 := nu_le
          exact g1.Wb (by unfold ch at h2 ⊢; omega) i2 (by omega))
      refine glue hg (lw_ok g1.2.1 ho) (fun I A hm R => ?_) ⟨⟨lag, tk, er, tm, hck⟩, i2, by simp; omega, fun p q hq => ?_, fun r hr' => ⟨(i5 r hr').1, (i5 r hr').2.1, by have := (i5 r hr').2.2; omega⟩⟩ (by decide)
      · have hm' := hm.i (I' := upI I 12 0) fun j h1 h2 => by rw [upI_nn (by omega)]
        have hx := mi I A hm
        obtain ⟨m1, ⟨m2, m3, m4, m5⟩, m6, m7, m8, m9, m10, m11⟩ := id hm'
        have n64 : nu g ≤ 64 := nu_le
        obtain ⟨I', A', p1, p2, p3, p4, p5, p6, F, p7, p8⟩ := pack_S (G := G) (R := R) (M := O + 195) (N := N) (I := upI I 12 0) (A := upA A 37 (s_cp (A 37) (fun i => A 20 (1300 * (ch g + 1) + 20 * 0 + i)) 6 20)) (n := 20) (P := PL.length) (g := g) (lag := lag) (kd := 1) (body := fun i => W (ch g + 1) i) hx (m2.trans hC1) m7 h3 (by decide) hg1 t4 l2 (fun i hi => by
          rw [upA_eq]
          unfold s_cp
          rw [if_pos (by omega), Nat.add_sub_cancel_left]
          dsimp only
          rw [show 1300 * (ch g + 1) + 20 * 0 + i = 1300 * (ch g + 1) + i by omega]
          exact m9 _ h2 i (by omega)) (by
          unfold mtab
          rw [upA_ne (by decide), upA_ne (by decide)]
          exact m1) (by omega)
        have uq : ∀ z, z < 36 + 20 → F z = F' z := by
          refine pkS.uq (body := fun i => W (ch g + 1) i) (K := fun i => W (ch g) (20 * nu g + i)) (sh := fun i => if g ≤ lag then 0 else W (ch (g - lag)) (20 * nu (g - lag) + i)) ?_ e2
          obtain ⟨a1, a2, a3, a4, a5, a6⟩ := p7
          refine ⟨a1, a2, a3, a4, fun i hi => ?_, fun i hi => ?_⟩
          · rw [a5 i hi]
            refine s_cd_congr (fun z hz9 => ?_) (fun _ _ => rfl) i (by omega)
            rw [upA_ne (by decide), Nat.add_assoc, m9 _ (by omega) _ (by omega)]
          · rw [a6 i hi]
            dsimp only
            by_cases hgl : g ≤ lag
            · rw [if_pos hgl, if_pos hgl]
            · have n64' : nu (g - lag) ≤ 64 := nu_le
              rw [if_neg hgl, if_neg hgl, upA_ne (by decide), Nat.add_assoc, m9 _ (by unfold ch at h2 ⊢; omega) _ (by omega)]
        refine ⟨I', A', ii PL.length, ?_, by rw [p2 12 (by decide), upI_ee]; rfl, fun _ => rfl, hm'.pk (fun j q1 q2 => p2 j (by simp only [List.mem_cons, List.not_mem_nil, or_false]; omega)) p3 (fun j q1 q2 q3 => by rw [p4 j q1 q2 q3, upA_ne (fun e => by rw [e] at q1; cases q1)]) (by rw [p5, upA_ne (by decide)]) (fun q hq => by rw [p6 q hq, upA_ne (by decide)]) (fun z hz9 => by rw [p8 z hz9]; exact uq z hz9) i4⟩
        unfold f_Md_root
        rw [md_p12, bd_S, md_f, bd_S, hx, bd_S, mchain_S hg1 (by omega), bd_S, md_i17, bd_S, m6, ii_1, if_pos (by rw [ii_lt (by omega) (by omega)]; exact h2), md_i18, bd_S, m7, if_pos (by rw [show (200 : Int32) = ii 200 from rfl, ii_inj (by omega) (by decide)]; omega), mrt_47 (by omega) (by omega), bd_S, md_f, bd_S, show (20 : Int32) = ii 20 from rfl, p1, md_mono2, bd2_S]
      · rcases getP hq with hq | hq
        · exact i4 p q hq
        · rw [hq]
          exact hpB
    · have h200 : PL.length = 200 := by omega
      have ho : f_Of_root G N σ O = (ho_thr G σ).bind fun σ1 => some (σ1, .inl 3) := by
        unfold f_Of_root
        rw [c_R g1.2.1 rfl, bd_S, bd_S, c_I g1.ck rfl, bd_S, c_f g1.ck, bd_S, interval_S g1 hz, bd_S, hiv, chainOf_S hg1 (by omega), bd_S, c_I g1.2.1 rfl, bd_S, ii_1, if_pos (by rw [ii_lt (by omega) (by omega)]; exact h2), c_R g1.2.1 rfl, bd_S, hfs, bd_S, Al_size_S g1.2.2.2.2.2.1, bd_S, if_neg (by rw [show (200 : Int32) = ii 200 from rfl, ii_lt (by omega) (by decide)]; exact h3)]
      refine glue hg (lw_ex (k := 2) (v := 0) g1.2.1 (by rw [ho]; exact hg.th hr 3) (fun _ => rfl) (by decide)) (fun I A hm => ms_fail hm (by decide) fun R => ?_) hg.2.2.1.succ (by decide)
      have hx := mi I A hm
      unfold f_Md_root
      rw [md_p12, bd_S, md_f, bd_S, hx, bd_S, mchain_S hg1 (by omega), bd_S, md_i17, bd_S, upI_nn (show (17 : Nat) ≠ 12 by decide), hm.2.2.1, ii_1, if_pos (by rw [ii_lt (by omega) (by omega)]; exact h2), md_i18, bd_S, upI_nn (show (18 : Nat) ≠ 12 by decide), hm.2.2.2.1, h200, if_neg (fun h => h rfl), bd_S, fail_S, md_mono2, bd2_S]
      rfl
  · have ho : f_Of_root G N σ O = (ho_thr G σ).bind fun σ1 => some (σ1, .inl 0) := by
      unfold f_Of_root
      rw [c_R g1.2.1 rfl, bd_S, bd_S, c_I g1.ck rfl, bd_S, c_f g1.ck, bd_S, interval_S g1 hz, bd_S, hiv, chainOf_S hg1 (by omega), bd_S, c_I g1.2.1 rfl, bd_S, ii_1, if_neg (by rw [ii_lt (by omega) (by omega)]; exact h2)]
    refine glue hg (lw_ex (k := 1) (v := 0) g1.2.1 (by rw [ho]; exact hg.th hr 0) (fun _ => rfl) (by decide)) (fun I A hm => ms_fail hm (by decide) fun R => ?_) hg.2.2.1.succ (by decide)
    have hx := mi I A hm
    unfold f_Md_root
    rw [md_p12, bd_S, md_f, bd_S, hx, bd_S, mchain_S hg1 (by omega), bd_S, md_i17, bd_S, upI_nn (show (17 : Nat) ≠ 12 by decide), hm.2.2.1, ii_1, if_neg (by rw [ii_lt (by omega) (by omega)]; exact h2), bd_S, fail_S, md_mono2, bd2_S]
    rfl
end SE
