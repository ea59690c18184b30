/-! the model: judge, arrive -/
section MS
variable {G : ho_G} {R : ho_H} {M N : Nat} {I : Nat → Int32} {A : Nat → Nat → Int32}
theorem broken_S {q : PQ} (hq : pkB q) (hc : ∀ i, i < q.1 → A 37 i = q.2 i) : (pkok q.1 (nN q) (kN q) (s_wd q.2 0) → f_Md_isBroken G N (md G R M I A) M (ii q.1) = some 0) ∧ (¬ pkok q.1 (nN q) (kN q) (s_wd q.2 0) → f_Md_isBroken G N (md G R M I A) M (ii q.1) = some 1) := by
  have h1 := hq.1
  have h2 := hq.2.1
  obtain ⟨e5, n256⟩ := hq.n
  obtain ⟨e4, k256⟩ := hq.k
  have v1 : s_wd (A 37) 0 = s_wd q.2 0 := s_wd_congr (hc _ (by omega)) (hc _ (by omega)) (hc _ (by omega)) (hc _ (by omega))
  have v2 : A 37 5 = ii (nN q) := (hc 5 (by omega)).trans e5
  have v3 : A 37 4 = ii (kN q) := (hc 4 (by omega)).trans e4
  unfold f_Md_isBroken f_Md_isBroken_j71 f_Md_isBroken_j60 f_Md_isBroken_j71 f_Md_isBroken_j76
  rw [md_f, bd_S, copyI_S, bd_S, v1, md_r37, bd_S, show (5 : Int32) = ii 5 from rfl, md_ld37 (by decide), bd_S, v2, show (36 : Int32) + ii (nN q) = ii (36 + nN q) from ii_add 36 _]
  unfold pkok
  by_cases c1 : q.1 = 36 + nN q
  · rw [if_neg (by rw [c1]; exact fun h => h rfl), bd_S, show (4 : Int32) = ii 4 from rfl, md_ld37 (by decide), bd_S, v3]
    by_cases c2 : kN q ≤ 1
    · rw [if_neg (by rw [show (1 : Int32) = ii 1 from rfl, ii_lt (by decide) (by omega)]; omega), bd_S, md_ld37 (by decide), bd_S, v2]
      by_cases c3 : nN q ≤ 32
      · rw [if_neg (by rw [show (32 : Int32) = ii 32 from rfl, ii_lt (by decide) (by omega)]; omega), bd_S, md_ld37 (by decide), bd_S, v3]
        have last : (¬ s_wd q.2 0 < 1 ∧ s_wd q.2 0 ≤ 512 → ((f_Md_within G N (md G R M I A) (s_wd q.2 0) 1 512).bind fun v11 => if ¬ v11 = 0 then (ho_bz 0).bind fun _ => some 0 else (ho_bz 1).bind fun _ => some 1) = some (0 : Int32)) ∧ (¬ (¬ s_wd q.2 0 < 1 ∧ s_wd q.2 0 ≤ 512) → ((f_Md_within G N (md G R M I A) (s_wd q.2 0) 1 512).bind fun v11 => if ¬ v11 = 0 then (ho_bz 0).bind fun _ => some 0 else (ho_bz 1).bind fun _ => some 1) = some (1 : Int32)) := by
          rw [within_S, bd_S]
          refine ⟨fun h => ?_, fun h => ?_⟩
          · rw [if_neg (show ¬ (s_wd q.2 0 < 1 ∨ 512 < s_wd q.2 0) from fun hh => by rcases hh with hh | hh; exact h.1 hh; exact absurd h.2 (Int32.not_le.mpr hh))]
            rfl
          · rw [if_pos (show s_wd q.2 0 < 1 ∨ 512 < s_wd q.2 0 by
              by_cases hh : s_wd q.2 0 < 1
              · exact Or.inl hh
              · exact Or.inr (Int32.not_le.mp fun h2 => h ⟨hh, h2⟩))]
            rfl
        by_cases c4 : kN q = 1
        · rw [if_neg (by rw [c4]; decide), bd_S, md_ld37 (by decide), bd_S, v2]
          by_cases c5 : nN q = 20
          · rw [if_neg (by rw [c5]; decide)]
            exact ⟨fun h => last.1 ⟨h.2.2.2.2.1, h.2.2.2.2.2⟩, fun h => last.2 fun hh => h ⟨c1, c3, c2, fun _ => c5, hh.1, hh.2⟩⟩
          · rw [if_pos (by rw [show (20 : Int32) = ii 20 from rfl, ii_inj (by omega) (by decide)]; exact c5)]
            exact ⟨fun h => absurd (h.2.2.2.1 c4) c5, fun _ => rfl⟩
        · rw [if_pos (by rw [show (1 : Int32) = ii 1 from rfl, ii_inj (by omega) (by decide)]; exact c4)]
          exact ⟨fun h => last.1 ⟨h.2.2.2.2.1, h.2.2.2.2.2⟩, fun h => last.2 fun hh => h ⟨c1, c3, c2, fun h4 => absurd h4 c4, hh.1, hh.2⟩⟩
      · rw [if_pos (by rw [show (32 : Int32) = ii 32 from rfl, ii_lt (by decide) (by omega)]; omega)]
        exact ⟨fun h => absurd h.2.1 c3, fun _ => rfl⟩
    · rw [if_pos (by rw [show (1 : Int32) = ii 1 from rfl, ii_lt (by decide) (by omega)]; omega)]
      exact ⟨fun h => absurd h.2.2.1 c2, fun _ => rfl⟩
  · rw [if_pos (by rw [ii_inj (by omega) (by omega)]; exact c1)]
    exact ⟨fun h => absurd h.1 c1, fun _ => rfl⟩
theorem judge_151 {r L n : Nat} (hL : A 29 r = ii L) (hr : r < 8) (hL2 : L < 16) (hn : n ≤ 68) (hN : 301 < N) : ho_it (f_Md_judge_l151 G N M (ii r) (ii n)) N (md G R M I A, 0) = some (md G R M I (upA A 31 (s_cp (A 31) (A 37) (68 * (16 * r + L)) n))) := by
  refine it_for n (fun k => (md G R M I (upA A 31 (s_cp (A 31) (A 37) (68 * (16 * r + L)) k)), ii k)) _ (fun k hk => ?_) ?_ (by omega) (by rw [s_cp_0, upA_self]; rfl)
  · unfold f_Md_judge_l151
    dsimp only
    rw [if_neg (by rw [ii_le (by omega) (by omega)]; omega), md_r31, bd_S, md_r29, bd_S, md_ld29 hr, bd_S, md_f, bd_S, upA_ne (show (29 : Nat) ≠ 31 by decide), hL, heldAt_e, bd_S, md_r37, bd_S, md_ld37 (show k < 68 by omega), bd_S, ii_add, md_st31 (show 68 * (16 * r + L) + k < 8704 by omega), bd_S, ii_1, upA_upA, upA_eq, upA_ne (by decide), s_cp_up rfl]
  · unfold f_Md_judge_l151
    dsimp only
    rw [if_pos (by rw [ii_le (by omega) (by omega)]; exact Nat.le_refl _)]
theorem judge2_S {r : Nat} {s : RS} {q : PQ} {C : Int32 × Int32 × Int32 × Int32} {dr : Int32} (hm : mrc A r s) (hs : rsV s) (hq : pkV q) (hc : ∀ i, i < q.1 → A 37 i = q.2 i) (hdr : A 23 r = dr) (i13 : I 13 = C.1) (i14 : I 14 = C.2.1) (i15 : I 15 = C.2.2.1) (i16 : I 16 = C.2.2.2) (hr : r < 8) (ho : s.2.2.1.length ≤ 1000) (hN : 1001 < N) : ∃ A', f_Md_judge_j33 G N (md G R M I A) M (ii r) (ii q.1) = some (md G R M I A', ii (arr2 C dr s q).1) ∧ mrc A' r (arr2 C dr s q).2 ∧ mfr A A' r := by
  have g1 := hq.g1
  have g2 := hq.g2
  have n32 := hq.n32
  have hln := hq.ln
  have hl16 := hs.2.2.1
  have c8 : ch (gN q) < 8 := ch_lt g2
  obtain ⟨v1, v2, -⟩ := cpV hq hc
  have a8 : 8 * ii r + ii (ch (gN q)) = ii (8 * r + ch (gN q)) := by rw [show (8 : Int32) = ii 8 from rfl, ii_mul, ii_add]
  unfold f_Md_judge_j33 f_Md_judge_j106
  rw [md_f, bd_S, copyI_S, bd_S, v1, mchain_S g1 (by omega), bd_S, md_i16, bd_S, md_r23, bd_S, md_ld23 hr, bd_S, md_i15, bd_S, md_i13, bd_S, md_i14, bd_S, hdr, i13, i14, i15, i16]
  unfold arr2
  by_cases hl : late C dr (s_wd q.2 0) = true
  · have hl' := of_decide_eq_true hl
    rw [hq.i] at hl'
    rw [if_pos (Int32.not_lt.mp hl'), if_pos (Or.inl hl)]
    exact ⟨A, rfl, hm, mfr.refl⟩
  · have hl' : (C.2.2.2 + dr) + C.2.2.1 < ((ii (gN q) + C.1) - 1) * C.2.1 := by
      apply Classical.byContradiction
      intro h
      refine hl (decide_eq_true ?_)
      rw [hq.i]
      exact h
    rw [if_neg (Int32.not_le.mpr hl'), md_r24, bd_S, a8, md_ld24 (by omega), bd_S]
    have rest : due s.1 (gN q) = false → ∃ A', f_Md_judge_j108 G N (md G R M I A) M (ii r) (ii q.1) = some (md G R M I A', ii (if twins s.2.1 q = true then ((3, s) : Nat × RS) else if s.2.1.length < 16 then (0, (s.1, s.2.1 ++ [q], s.2.2)) else (4, s)).1) ∧ mrc A' r (if twins s.2.1 q = true then ((3, s) : Nat × RS) else if s.2.1.length < 16 then (0, (s.1, s.2.1 ++ [q], s.2.2)) else (4, s)).2 ∧ mfr A A' r := by
      intro hnd
      unfold f_Md_judge_j108
      rw [md_f, bd_S, isTwice_S hm hs hq hc hnd hr ho hN, bd_S]
      by_cases htw : twins s.2.1 q = true
      · rw [if_pos htw, if_pos htw, if_neg (by decide)]
        exact ⟨A, rfl, hm, mfr.refl⟩
      · obtain ⟨m1, m2, m3, m4⟩ := hm
        rw [if_neg htw, if_neg htw, if_pos rfl, md_r29, bd_S, md_ld29 hr, bd_S, m2.1]
        by_cases h16 : s.2.1.length < 16
        · have a16 : 16 * ii r + ii s.2.1.length = ii (16 * r + s.2.1.length) := by rw [show (16 : Int32) = ii 16 from rfl, ii_mul, ii_add]
          rw [if_pos (by rw [show (16 : Int32) = ii 16 from rfl, ii_inj (by omega) (by decide)]; omega), if_pos h16, md_r30, bd_S, bd_S, md_ld29 hr, bd_S, m2.1, a16, md_st30 (by omega), bd_S, judge_151 (L := s.2.1.length) (by rw [upA_ne (by decide)]; exact m2.1) hr h16 (by omega) (by omega), bd_S, md_r29, bd_S, md_ld29 hr, bd_S, upA_ne (show (29 : Nat) ≠ 31 by decide), upA_ne (show (29 : Nat) ≠ 30 by decide), m2.1, md_st29 hr, bd_S, ii_1]
          refine ⟨_, rfl, ⟨?_, ⟨?_, fun k x hx => ?_⟩, ?_, ?_⟩, ?_⟩
          · exact m1.eq (by rw [upA_ne (by decide), upA_ne (by decide), upA_ne (by decide)]) (by rw [upA_ne (by decide), upA_ne (by decide), upA_ne (by decide)]) (by rw [upA_ne (by decide), upA_ne (by decide), upA_ne (by decide)]) (by rw [upA_ne (by decide), upA_ne (by decide), upA_ne (by decide)])
          · rw [upA_eq]
            unfold upd
            rw [if_pos rfl]
            simp
          · rw [upA_ne (show (30 : Nat) ≠ 29 by decide), upA_ne (show (30 : Nat) ≠ 31 by decide), upA_eq, upA_ne (show (31 : Nat) ≠ 29 by decide), upA_eq, upA_ne (show (31 : Nat) ≠ 30 by decide), upA_ne (show (37 : Nat) ≠ 30 by decide)]
            rcases getq hx with ⟨hi, hx⟩ | ⟨hi, hx⟩
            · have hvx := (hs.2.1 k x hx).1
              have lx := hvx.ln
              have nx := hvx.n32
              have y := m2.2 k x hx
              refine ⟨?_, fun i hi' => ?_⟩
              · unfold upd
                rw [if_neg (by omega)]
                exact y.1
              · unfold s_cp
                rw [if_neg (by omega)]
                exact y.2 i hi'
            · rw [hi, hx]
              refine ⟨?_, fun i hi' => ?_⟩
              · unfold upd
                rw [if_pos rfl]
              · unfold s_cp
                rw [if_pos (by omega), Nat.add_sub_cancel_left]
                exact hc i hi'
          · exact m3.eq (by rw [upA_ne (by decide), upA_ne (by decide), upA_ne (by decide)]) (by rw [upA_ne (by decide), upA_ne (by decide), upA_ne (by decide)]) (by rw [upA_ne (by decide), upA_ne (by decide), upA_ne (by decide)])
          · exact m4.eq (by rw [upA_ne (by decide), upA_ne (by decide), upA_ne (by decide)])
          · refine ((mfr.upd1 (j := 30) ?_ ?_).trans (mfr.cp (j := 31) ?_ ?_)).trans (mfr.upW fun x hx => ?_)
            · show 16 * r ≤ _; omega
            · show _ < 16 * r + 16; omega
            · show 1088 * r ≤ _; omega
            · show _ ≤ 1088 * r + 1088; omega
            · have hx' : x < 1 * r ∨ 1 * r + 1 ≤ x := hx
              rw [upA_ne (show (29 : Nat) ≠ 31 by decide), upA_ne (show (29 : Nat) ≠ 30 by decide)]
              unfold upd
              rw [if_neg (by omega)]
        · rw [if_neg (by rw [show (16 : Int32) = ii 16 from rfl, ii_inj (by omega) (by decide)]; omega), if_neg h16]
          exact ⟨A, rfl, ⟨m1, m2, m3, m4⟩, mfr.refl⟩
    rcases mdue hm.1 hs.1 g1 g2 with ⟨d1, d2 | ⟨d2, d3⟩⟩ | ⟨d1, d2, d3⟩
    · rw [if_neg (show ¬ (late C dr (s_wd q.2 0) = true ∨ due s.1 (gN q) = true) from fun h => by rcases h with h | h; exact hl h; rw [d1] at h; cases h), d2, if_pos rfl]
      exact rest d1
    · rw [if_neg (show ¬ (late C dr (s_wd q.2 0) = true ∨ due s.1 (gN q) = true) from fun h => by rcases h with h | h; exact hl h; rw [d1] at h; cases h), d2, if_neg (show ¬ (1 : Int32) = 0 by decide), md_r26, bd_S, md_ld26 (by omega), bd_S, if_pos d3]
      exact rest d1
    · rw [if_pos (show late C dr (s_wd q.2 0) = true ∨ due s.1 (gN q) = true from Or.inr d1), d2, if_neg (show ¬ (1 : Int32) = 0 by decide), md_r26, bd_S, md_ld26 (by omega), bd_S, if_neg d3]
      exact ⟨A, rfl, hm, mfr.refl⟩
theorem judge_S {r lag : Nat} {s : RS} {q : PQ} {C : Int32 × Int32 × Int32 × Int32} {dr : Int32} (hm : mrc A r s) (hs : rsV s) (hn : ndV s.1 s.2.1) (hq : pkB q) (hc : ∀ i, i < q.1 → A 37 i = q.2 i) (hdr : A 23 r = dr) (i13 : I 13 = C.1) (i14 : I 14 = C.2.1) (i15 : I 15 = C.2.2.1) (i16 : I 16 = C.2.2.2) (hC : C.1 = ii lag) (hlag : lag ≤ 8) (hr : r < 8) (ho : s.2.1.length + s.2.2.1.length ≤ 1000) (ht : mtab A) (hN : 1001 < N) : ∃ I' A', f_Md_judge G N (md G R M I A) M (ii r) (ii q.1) = some (md G R M I' A', ii (arr lag C dr s q).1) ∧ mrc A' r (arr lag C dr s q).2 ∧ mfr A A' r ∧ ikeep I I' := by
  have hbr := broken_S (G := G) (R := R) (M := M) (N := N) (I := I) hq hc
  unfold f_Md_judge arr
  rw [md_f, bd_S]
  by_cases hok : pkok q.1 (nN q) (kN q) (s_wd q.2 0)
  · have ho' : q.1 = 36 + nN q ∧ nN q ≤ 32 ∧ kN q ≤ 1 ∧ (kN q = 1 → nN q = 20) ∧ ¬ s_wd q.2 0 < 1 ∧ s_wd q.2 0 ≤ 512 := hok
    have hv : pkV q := pkV_of hq hok
    rw [hbr.1 hok, bd_S, if_pos rfl, if_pos ho', bd_S]
    obtain ⟨I1, A1, a1, a2, a3, a4, a5, a6⟩ := look_S (G := G) (R := R) (M := M) (N := N) hm.1 hs.1 hv hc (i13.trans hC) hlag hr ht (by omega)
    rw [a1, md_mono2, bd2_S]
    have m1 : mrc A1 r ((tkey lag s.1 q).2, s.2) := ⟨a2, hm.2.1.eq (a5 29 rfl (by decide) (by decide)) (a5 30 rfl (by decide) (by decide)) (a5 31 rfl (by decide) (by decide)), hm.2.2.1.eq (a5 32 rfl (by decide) (by decide)) (a5 33 rfl (by decide) (by decide)) (a5 36 rfl (by decide) (by decide)), hm.2.2.2.eq (a5 28 rfl (by decide) (by decide))⟩
    have V1 := tkey_rs (lag := lag) (q := q) hs
    have j13 : I1 13 = C.1 := (a4 13 (by decide)).trans i13
    have j14 : I1 14 = C.2.1 := (a4 14 (by decide)).trans i14
    have j15 : I1 15 = C.2.2.1 := (a4 15 (by decide)).trans i15
    have j16 : I1 16 = C.2.2.2 := (a4 16 (by decide)).trans i16
    have e23 : A1 23 r = dr := by rw [a5 23 rfl (by decide) (by decide)]; exact hdr
    have tk : (tkey lag s.1 q).1 = 0 ∨ (tkey lag s.1 q).1 = 1 ∨ (tkey lag s.1 q).1 = 2 := by
      unfold tkey
      split
      · exact Or.inl rfl
      · split
        · exact Or.inl rfl
        · split
          · exact Or.inl rfl
          · split
            · split
              · exact Or.inl rfl
              · exact Or.inr (Or.inr rfl)
            · split
              · exact Or.inr (Or.inl rfl)
              · exact Or.inr (Or.inr rfl)
    rcases tk with tk | tk | tk
    · have e0 := tkey_0 (lag := lag) (kn := s.1) (q := q) (by rw [tk]; decide)
      rw [e0] at m1
      rw [tk, if_pos (by decide), if_pos (by decide), if_neg (by decide), e0]
      have es : (s.1, s.2) = s := rfl
      rw [es] at m1 ⊢
      rw [relN_nd hn]
      obtain ⟨A2, b1, b2, b3⟩ := judge2_S (G := G) (R := R) (M := M) (N := N) (I := I1) (C := C) (dr := dr) m1 hs hv (by rw [a6]; exact hc) e23 j13 j14 j15 j16 hr (by omega) hN
      exact ⟨I1, A2, b1, b2, a3.trans b3, a4⟩
    · rw [tk, if_pos (by decide), if_neg (fun h => h rfl), if_neg (by decide), md_f, bd_S]
      obtain ⟨I2, A2, c1, c2, c3, c4, c5⟩ := release_S (G := G) (R := R) (M := M) (N := N) (I := I1) m1 V1 hr (by show s.2.1.length + s.2.2.1.length < 1024; omega) (a3.tab ht) (by omega)
      rw [c1, md_mono, bd_S]
      have V2 := relN_V 16 _ V1
      have V2' : (relN 16 ((tkey lag s.1 q).2, s.2)).2.1.length + (relN 16 ((tkey lag s.1 q).2, s.2)).2.2.1.length ≤ s.2.1.length + s.2.2.1.length := V2.2
      have h68 := hq.2.1
      obtain ⟨A3, b1, b2, b3⟩ := judge2_S (G := G) (R := R) (M := M) (N := N) (I := I2) (C := C) (dr := dr) c2 V2.1 hv (fun i hi => by rw [c5 i (by omega), a6]; exact hc i hi) (by
        have := c3.con (j := 23) rfl rfl
        rw [this]
        exact e23) ((c4 13 (by decide)).trans j13) ((c4 14 (by decide)).trans j14) ((c4 15 (by decide)).trans j15) ((c4 16 (by decide)).trans j16) hr (by omega) hN
      exact ⟨I2, A3, b1, b2, (a3.trans c3).trans b3, a4.tr c4⟩
    · have e0 := tkey_0 (lag := lag) (kn := s.1) (q := q) (by rw [tk]; decide)
      rw [e0] at m1
      rw [tk, if_neg (fun h => h rfl), if_pos rfl]
      exact ⟨I1, A1, rfl, m1, a3, a4⟩
  · have ho' : ¬ (q.1 = 36 + nN q ∧ nN q ≤ 32 ∧ kN q ≤ 1 ∧ (kN q = 1 → nN q = 20) ∧ ¬ s_wd q.2 0 < 1 ∧ s_wd q.2 0 ≤ 512) := hok
    rw [hbr.2 hok, bd_S, if_neg (by decide), if_neg ho']
    exact ⟨I, A, rfl, hm, mfr.refl, ikeep.rf⟩
end MS
