/-! the model: release, isTwice, judge -/
section MR
variable {G : ho_G} {R : ho_H} {M N : Nat} {I : Nat → Int32} {A : Nat → Nat → Int32}
theorem heldI_S {r k : Nat} {s : RS} {q : PQ} (hm : mhd A r s.2.1) (hs : rsV s) (hqk : s.2.1[k]? = some q) (hr : r < 8) : f_Md_heldInterval G N (md G R M I A) M (ii r) (ii k) = some (ii (gN q)) := by
  have hk : k < s.2.1.length := (List.getElem?_eq_some_iff.mp hqk).1
  have hl16 := hs.2.2.1
  have hq : pkV q := (hs.2.1 k q hqk).1
  have hln := hq.ln
  have y := (hm.2 k q hqk).2
  have b0 : A 31 (68 * (16 * r + k)) = q.2 0 := y 0 (by omega)
  have b1 := y 1 (by omega)
  have b2 := y 2 (by omega)
  have b3 := y 3 (by omega)
  unfold f_Md_heldInterval
  rw [md_f, bd_S, heldAt_e, bd_S, md_r31, bd_S, md_ld31 (by omega), bd_S, bd_S, show ii (68 * (16 * r + k)) + 1 = ii (68 * (16 * r + k) + 1) from ii_add _ 1, md_ld31 (by omega), bd_S, bd_S, show ii (68 * (16 * r + k)) + 2 = ii (68 * (16 * r + k) + 2) from ii_add _ 2, md_ld31 (by omega), bd_S, bd_S, show ii (68 * (16 * r + k)) + 3 = ii (68 * (16 * r + k) + 3) from ii_add _ 3, md_ld31 (by omega), bd_S, b0, b1, b2, b3, ← hq.i]
  rfl
/-- is the key of an interval known -/
theorem mdue {r g : Nat} {kn : KN} (hk : mkn A r kn) (hv : knV kn) (h1 : 1 ≤ g) (h2 : g ≤ 512) : (due kn g = false ∧ (A 24 (8 * r + ch g) = 0 ∨ (A 24 (8 * r + ch g) = 1 ∧ A 26 (8 * r + ch g) < ii g))) ∨ (due kn g = true ∧ A 24 (8 * r + ch g) = 1 ∧ ¬ A 26 (8 * r + ch g) < ii g) := by
  have hgc : g = 64 * ch g + nu g := by unfold ch nu; omega
  have hkc := hk (ch g) (ch_lt h2)
  unfold due
  cases e : kn (ch g) with
  | none =>
    rw [e] at hkc
    exact Or.inl ⟨rfl, Or.inl hkc⟩
  | some x =>
    obtain ⟨fi, v, K⟩ := x
    rw [e] at hkc
    have hv' := hv _ _ _ _ e
    by_cases hn : nu g ≤ v
    · refine Or.inr ⟨decide_eq_true hn, hkc.1, ?_⟩
      rw [hkc.2.2.1, ii_lt (by omega) (by omega)]
      omega
    · refine Or.inl ⟨decide_eq_false hn, Or.inr ⟨hkc.1, ?_⟩⟩
      rw [hkc.2.2.1, ii_lt (by omega) (by omega)]
      omega
theorem isDue_S {r k : Nat} {s : RS} {q : PQ} (hk : mkn A r s.1) (hm : mhd A r s.2.1) (hs : rsV s) (hqk : s.2.1[k]? = some q) (hr : r < 8) : f_Md_isDue G N (md G R M I A) M (ii r) (ii k) = some (if due s.1 (gN q) = true then 1 else 0) := by
  have hq : pkV q := (hs.2.1 k q hqk).1
  have g1 := hq.g1
  have g2 := hq.g2
  have c8 : ch (gN q) < 8 := ch_lt g2
  have a8 : 8 * ii r + ii (ch (gN q)) = ii (8 * r + ch (gN q)) := by rw [show (8 : Int32) = ii 8 from rfl, ii_mul, ii_add]
  unfold f_Md_isDue f_Md_isDue_j43 f_Md_isDue_j44
  rw [md_f, bd_S, heldI_S hm hs hqk hr, bd_S, mchain_S g1 (by omega), bd_S, md_r24, bd_S, a8, md_ld24 (by omega), bd_S]
  rcases mdue hk hs.1 g1 g2 with ⟨d1, d2 | ⟨d2, d3⟩⟩ | ⟨d1, d2, d3⟩
  · rw [d1, d2, if_pos rfl]
    rfl
  · rw [d1, d2, if_neg (by decide), md_r26, bd_S, md_ld26 (by omega), bd_S, if_pos d3]
    rfl
  · rw [d1, d2, if_neg (by decide), md_r26, bd_S, md_ld26 (by omega), bd_S, if_neg d3]
    rfl
theorem rel_37 {r : Nat} {s : RS} (hk : mkn A r s.1) (hm : mhd A r s.2.1) (hs : rsV s) (hr : r < 8) (hN : 301 < N) : ho_it (f_Md_release_l37_in28 G N (md G R M I A) M (ii r)) N ((-1), 0) = some (match (bst s.1 s.2.1 s.2.1.length).1 with
  | none => -1
  | some k => ii k) := by
  have hl : s.2.1.length ≤ 16 := hs.2.2.1
  refine it_for s.2.1.length (fun k => ((match (bst s.1 s.2.1 k).1 with
    | none => -1
    | some k => ii k), ii k)) _ (fun k hk' => ?_) ?_ (by omega) rfl
  · obtain ⟨q, hq⟩ : ∃ q, s.2.1[k]? = some q := ⟨_, List.getElem?_eq_getElem hk'⟩
    have hv := (hs.2.1 k q hq).1
    have gq := hv.g2
    have eb : bst s.1 s.2.1 (k + 1) = if gN q < (bst s.1 s.2.1 k).2 ∧ due s.1 (gN q) = true then (some k, gN q) else bst s.1 s.2.1 k := by
      rw [bst, hq]
    unfold f_Md_release_l37_in28 f_Md_release_j81_in28_in37 f_Md_release_j78_in28_in37 f_Md_release_j81_in28_in37
    dsimp only
    rw [md_r29, bd_S, md_ld29 hr, bd_S, hm.1, if_neg (by rw [ii_le (by omega) (by omega)]; omega), md_f, bd_S, isDue_S hk hm hs hq hr, bd_S, eb, ii_1]
    by_cases hd : due s.1 (gN q) = true
    · rw [if_pos hd, if_neg (show ¬ (1 : Int32) = 0 by decide)]
      cases e : (bst s.1 s.2.1 k).1 with
      | none =>
        have := (bst_none k e).1
        rw [if_pos (show gN q < (bst s.1 s.2.1 k).2 ∧ due s.1 (gN q) = true from ⟨by omega, hd⟩)]
        dsimp only
        rw [if_pos (by decide)]
      | some j =>
        obtain ⟨x, x1, x2, -, x4⟩ := bst_some k j e
        have gx := (hs.2.1 j x x1).1.g2
        dsimp only
        rw [if_neg (ii_nneg (by omega)), bd_S, heldI_S hm hs hq hr, bd_S, bd_S, heldI_S hm hs x1 hr, bd_S, x4]
        by_cases hlt : gN q < gN x
        · rw [if_neg (by rw [ii_le (by omega) (by omega)]; omega), if_pos ⟨hlt, hd⟩]
        · rw [if_pos (by rw [ii_le (by omega) (by omega)]; omega), if_neg (fun h => hlt h.1), e]
    · rw [if_neg hd, if_pos rfl, if_neg (fun h => hd h.2)]
  · unfold f_Md_release_l37_in28
    dsimp only
    rw [md_r29, bd_S, md_ld29 hr, bd_S, hm.1, if_pos (by rw [ii_le (by omega) (by omega)]; omega)]
theorem rel_2 {x : Int32} (hN : 301 < N) : ho_it (f_Md_release_l2 G N M x) N (md G R M I A, 0) = some (md G R M I (upA A 39 (ovr (A 37) (A 39) 68))) := by
  refine it_for 68 (fun k => (md G R M I (upA A 39 (ovr (A 37) (A 39) k)), ii k)) _ (fun k hk => ?_) ?_ (by omega) (by rw [upA_up0]; rfl)
  · have e0 : ((68 : Int32) ≤ ii k) = False := by rw [show (68 : Int32) = ii 68 from rfl, ii_le (by omega) (by omega)]; exact eq_false (by omega)
    simp only [f_Md_release_l2, e0, ↓reduceIte, md_r39, md_r37, bd_S, md_ld37 (show k < 68 by omega), md_st39 (show k < 68 by omega), ii_1]
    rw [upA_upA, upA_eq, upA_ne (by decide), ovr_up rfl]
  · simp only [f_Md_release_l2]
    rw [if_pos (by decide)]
theorem rel_112 (hN : 301 < N) : ho_it (f_Md_release_l112 G N M) N (md G R M I A, 0) = some (md G R M I (upA A 37 (ovr (A 39) (A 37) 68))) := by
  refine it_for 68 (fun k => (md G R M I (upA A 37 (ovr (A 39) (A 37) k)), ii k)) _ (fun k hk => ?_) ?_ (by omega) (by rw [upA_up0]; rfl)
  · have e0 : ((68 : Int32) ≤ ii k) = False := by rw [show (68 : Int32) = ii 68 from rfl, ii_le (by omega) (by omega)]; exact eq_false (by omega)
    simp only [f_Md_release_l112, e0, ↓reduceIte, md_r39, md_r37, bd_S, md_ld39 (show k < 68 by omega), md_st37 (show k < 68 by omega), ii_1]
    rw [upA_upA, upA_eq, upA_ne (by decide), ovr_up rfl]
  · simp only [f_Md_release_l112]
    rw [if_pos (by decide)]
theorem mrc.eq {A' : Nat → Nat → Int32} {r : Nat} {s : RS} (h : mrc A r s) (e : ∀ j, fre j = false → A' j = A j) : mrc A' r s := ⟨h.1.eq (e 24 rfl) (e 25 rfl) (e 26 rfl) (e 27 rfl), h.2.1.eq (e 29 rfl) (e 30 rfl) (e 31 rfl), h.2.2.1.eq (e 32 rfl) (e 33 rfl) (e 36 rfl), h.2.2.2.eq (e 28 rfl)⟩
theorem upF_eq {j : Nat} {f : Nat → Int32} (h : fre j = true) : ∀ i, fre i = false → upA A j f i = A i := fun i hi => upA_ne fun e => by rw [e, h] at hi; cases hi
theorem release_S {r : Nat} {s : RS} (hm : mrc A r s) (hs : rsV s) (hr : r < 8) (ho : s.2.1.length + s.2.2.1.length < 1024) (ht : mtab A) (hN : 301 < N) : ∃ I' A', f_Md_release G N (md G R M I A) M (ii r) = some (md G R M I' A') ∧ mrc A' r (relN 16 s) ∧ mfr A A' r ∧ ikeep I I' ∧ ∀ i, i < 68 → A' 37 i = A 37 i := by
  have hl16 := hs.2.2.1
  have key : ∃ σ', ho_it (f_Md_release_l28 G N M (ii r)) N (md G R M I (upA A 39 (ovr (A 37) (A 39) 68)), 1) = some σ' ∧ ∃ I' A', σ' = md G R M I' A' ∧ mrc A' r (relN 16 s) ∧ mfr A A' r ∧ ikeep I I' ∧ A' 39 = ovr (A 37) (A 39) 68 := by
    refine it_ex2 18 (fun t st => ∃ I' A', mfr A A' r ∧ ikeep I I' ∧ A' 39 = ovr (A 37) (A 39) 68 ∧ ((st = (md G R M I' A', 1) ∧ mrc A' r (relN t s) ∧ (relN t s).2.1.length + t = s.2.1.length) ∨ (st = (md G R M I' A', 0) ∧ mrc A' r (relN 16 s)))) _ ?_ ?_ (by omega) ⟨I, _, mfr.upF rfl, ikeep.rf, upA_eq, Or.inl ⟨rfl, hm.eq (upF_eq rfl), rfl⟩⟩
    · rintro t st ht' ⟨I1, A1, p1, p2, p3, ⟨rfl, p4, p5⟩ | ⟨rfl, p4⟩⟩
      · refine Or.inl ?_
        have V := relN_V t s hs
        unfold f_Md_release_l28 f_Md_release_j96_in28 f_Md_release_j107_in28
        dsimp only
        rw [if_neg (show ¬ (1 : Int32) = 0 by decide), rel_37 p4.1 p4.2.1 V.1 hr hN, bd_S]
        rcases rel1_cases V.1 with ⟨e0, e1, e2⟩ | ⟨k, q, e0, e1, e2, e3⟩
        · rw [e0]
          dsimp only
          rw [if_pos (by decide), if_pos rfl]
          refine ⟨_, rfl, I1, A1, p1, p2, p3, Or.inr ⟨rfl, ?_⟩⟩
          have e : relN 16 s = relN t s := by
            rw [show 16 = t + (16 - t) by omega, relN_p]
            exact relN_nd e2 _
          rw [e]
          exact p4
        · have hk : k < (relN t s).2.1.length := (List.getElem?_eq_some_iff.mp e1).1
          rw [e0]
          dsimp only
          rw [if_neg (ii_nneg (by have := V.1.2.2.1; omega)), if_neg (show ¬ (1 : Int32) = 0 by decide), md_f, bd_S]
          obtain ⟨I2, A2, y1, y2, y3, y4, y5⟩ := goOut_S (G := G) (R := R) (M := M) (I := I1) p4 V.1 e1 e2 hr (by have := V.2; omega) (p1.tab ht) hN
          rw [y1, md_mono, bd_S]
          refine ⟨_, rfl, I2, A2, p1.trans y3, p2.tr y4, y5.trans p3, Or.inl ⟨rfl, by rw [relN_s, e3]; exact y2, ?_⟩⟩
          rw [relN_s, e3]
          have := (relQ_V V.1 e1 e2).2.1
          omega
      · refine Or.inr ⟨_, ?_, I1, A1, rfl, p4, p1, p2, p3⟩
        unfold f_Md_release_l28
        dsimp only
        rw [if_pos rfl]
    · rintro st ⟨I1, A1, p1, p2, p3, ⟨rfl, p4, p5⟩ | ⟨rfl, p4⟩⟩
      · omega
      · refine ⟨_, ?_, I1, A1, rfl, p4, p1, p2, p3⟩
        unfold f_Md_release_l28
        dsimp only
        rw [if_pos rfl]
  obtain ⟨σ', k1, I', A', rfl, k2, k3, k4, k5⟩ := key
  unfold f_Md_release
  rw [rel_2 hN, bd_S, k1, bd_S, rel_112 hN, bd_S]
  refine ⟨I', _, rfl, k2.eq (upF_eq rfl), k3.trans (mfr.upF rfl), k4, fun i hi => ?_⟩
  rw [upA_eq, k5]
  unfold ovr
  rw [if_pos hi, if_pos hi]
/-- is it there already -/
theorem tw_62 {at_ n c : Nat} {x y z u : Int32} (h5 : A 31 (at_ + 5) = ii n) (ha : at_ + 68 ≤ 8704) (hn : n ≤ 32) (hc : c + 10 ≤ 68) (hN : 301 < N) : ho_it (f_Md_isTwice_l62_in21 G N (md G R M I A) M x y (ii c) z u (ii at_)) N (0, 0) = some 0 ∧ ∃ b, ho_it (f_Md_isTwice_l62_in21 G N (md G R M I A) M x y (ii c) z u (ii at_)) N (1, 0) = some b ∧ ((b = 1 ∧ ∀ k, k < 10 → A 31 (at_ + 6 + n + k) = A 37 (c + k)) ∨ (b = 0 ∧ ¬ ∀ k, k < 10 → A 31 (at_ + 6 + n + k) = A 37 (c + k))) := by
  have e0 : ∀ k, k < 10 → ((10 : Int32) ≤ ii k) = False := fun k hk => by rw [show (10 : Int32) = ii 10 from rfl, ii_le (by omega) (by omega)]; exact eq_false (by omega)
  have a5 : ii at_ + 5 = ii (at_ + 5) := ii_add _ 5
  have a6 : ii at_ + 6 = ii (at_ + 6) := ii_add _ 6
  refine it_cmp (n := 10) (fun k => A 31 (at_ + 6 + n + k) = A 37 (c + k)) (fun k hk hp => ?_) (fun k hk hp => ?_) (fun k hk => ?_) (fun b => ?_) (by omega)
  · simp only [f_Md_isTwice_l62_in21, f_Md_isTwice_j113_in21_in62, f_Md_isTwice_j114_in21_in62, e0 k hk, ↓reduceIte, show ¬ (1 : Int32) = 0 by decide, md_r31, md_r37, bd_S, a5, a6, md_ld31 (show at_ + 5 < 8704 by omega), h5, ii_add, md_ld31 (show at_ + 6 + n + k < 8704 by omega), md_ld37 (show c + k < 68 by omega), ii_1, hp, not_true_eq_false]
  · simp only [f_Md_isTwice_l62_in21, f_Md_isTwice_j113_in21_in62, f_Md_isTwice_j114_in21_in62, e0 k hk, ↓reduceIte, show ¬ (1 : Int32) = 0 by decide, md_r31, md_r37, bd_S, a5, a6, md_ld31 (show at_ + 5 < 8704 by omega), h5, ii_add, md_ld31 (show at_ + 6 + n + k < 8704 by omega), md_ld37 (show c + k < 68 by omega), ii_1, hp, not_false_eq_true]
  · simp only [f_Md_isTwice_l62_in21, f_Md_isTwice_j113_in21_in62, f_Md_isTwice_j114_in21_in62, e0 k hk, ↓reduceIte, ii_1]
  · simp only [f_Md_isTwice_l62_in21]
    rw [if_pos (by decide)]
theorem tw_190 {k0 c : Nat} {x y z : Int32} (hN : 301 < N) : ho_it (f_Md_isTwice_l190_in152 G N (md G R M I A) M x y (ii c) z (ii k0)) N (0, 0) = some 0 := by
  refine it_for 10 (fun k => (0, ii k)) 0 (fun k hk => ?_) ?_ (by omega) rfl
  · have e0 : ((10 : Int32) ≤ ii k) = False := by rw [show (10 : Int32) = ii 10 from rfl, ii_le (by omega) (by omega)]; exact eq_false (by omega)
    simp only [f_Md_isTwice_l190_in152, f_Md_isTwice_j231_in152_in190, f_Md_isTwice_j232_in152_in190, e0, ↓reduceIte, ii_1]
  · simp only [f_Md_isTwice_l190_in152]
    rw [if_pos (by decide)]
theorem isTwice_S {r : Nat} {s : RS} {q : PQ} (hm : mrc A r s) (hs : rsV s) (hq : pkV q) (hc : ∀ i, i < q.1 → A 37 i = q.2 i) (hnd : due s.1 (gN q) = false) (hr : r < 8) (ho : s.2.2.1.length ≤ 1000) (hN : 1001 < N) : f_Md_isTwice G N (md G R M I A) M (ii r) = some (if twins s.2.1 q = true then 1 else 0) := by
  have hl16 := hs.2.2.1
  have n32 := hq.n32
  have hln := hq.ln
  obtain ⟨v1, v2, -⟩ := cpV hq hc
  obtain ⟨m1, m2, m3, m4⟩ := hm
  unfold f_Md_isTwice
  rw [md_f, bd_S, copyI_S, bd_S, v1, md_r37, bd_S, show (5 : Int32) = ii 5 from rfl, md_ld37 (by decide), bd_S, v2, show (6 : Int32) + ii (nN q) = ii (6 + nN q) from ii_add 6 _]
  -- among the held ones
  have key : ∃ b, ho_it (f_Md_isTwice_l21 G N (md G R M I A) M (ii r) (ii (gN q)) (ii (6 + nN q))) N (0, 0) = some b ∧ ((b = 1 ∧ ∃ (j : Nat) (x : PQ), s.2.1[j]? = some x ∧ (s_wd x.2 0 = s_wd q.2 0 ∧ ∀ i : Nat, i < 10 → x.2 (6 + nN x + i) = q.2 (6 + nN q + i))) ∨ (b = 0 ∧ ∀ (j : Nat) (x : PQ), s.2.1[j]? = some x → ¬ (s_wd x.2 0 = s_wd q.2 0 ∧ ∀ i : Nat, i < 10 → x.2 (6 + nN x + i) = q.2 (6 + nN q + i)))) := by
    refine it_ex s.2.1.length (fun k st => (st = (1, ii k) ∧ ∃ (j : Nat) (x : PQ), s.2.1[j]? = some x ∧ (s_wd x.2 0 = s_wd q.2 0 ∧ ∀ i : Nat, i < 10 → x.2 (6 + nN x + i) = q.2 (6 + nN q + i))) ∨ (st = (0, ii k) ∧ ∀ (j : Nat) (x : PQ), j < k → s.2.1[j]? = some x → ¬ (s_wd x.2 0 = s_wd q.2 0 ∧ ∀ i : Nat, i < 10 → x.2 (6 + nN x + i) = q.2 (6 + nN q + i)))) _ ?_ ?_ (by omega) (Or.inr ⟨rfl, fun j x hj => absurd hj (by omega)⟩)
    · intro k st hk hst
      obtain ⟨x, hx⟩ : ∃ x, s.2.1[k]? = some x := ⟨_, List.getElem?_eq_getElem hk⟩
      have hvx := (hs.2.1 k x hx).1
      have lx := hvx.ln
      have nx := hvx.n32
      have gx := hvx.g2
      have gq := hq.g2
      have y := (m2.2 k x hx).2
      have h5 : A 31 (68 * (16 * r + k) + 5) = ii (nN x) := (y 5 (by omega)).trans hvx.n5
      -- the comparison of codes
      have cmp : ∀ z : Int32, ∃ b, ho_it (f_Md_isTwice_l62_in21 G N (md G R M I A) M (ii r) (ii (gN q)) (ii (6 + nN q)) z (ii k) (ii (68 * (16 * r + k)))) N ((if gN x = gN q then 1 else 0), 0) = some b ∧ ((b = 1 ∧ (s_wd x.2 0 = s_wd q.2 0 ∧ ∀ i : Nat, i < 10 → x.2 (6 + nN x + i) = q.2 (6 + nN q + i))) ∨ (b = 0 ∧ ¬ (s_wd x.2 0 = s_wd q.2 0 ∧ ∀ i : Nat, i < 10 → x.2 (6 + nN x + i) = q.2 (6 + nN q + i)))) := by
        intro z
        obtain ⟨t0, b, t1, t2⟩ := tw_62 (G := G) (R := R) (M := M) (N := N) (I := I) (A := A) (at_ := 68 * (16 * r + k)) (n := nN x) (c := 6 + nN q) (x := ii r) (y := ii (gN q)) (z := z) (u := ii k) h5 (by omega) nx (by omega) (by omega)
        have ee : (∀ i, i < 10 → A 31 (68 * (16 * r + k) + 6 + nN x + i) = A 37 (6 + nN q + i)) ↔ ∀ i : Nat, i < 10 → x.2 (6 + nN x + i) = q.2 (6 + nN q + i) := by
          have e1 : ∀ i, i < 10 → A 31 (68 * (16 * r + k) + 6 + nN x + i) = x.2 (6 + nN x + i) := fun i hi => by
            rw [show 68 * (16 * r + k) + 6 + nN x + i = 68 * (16 * r + k) + (6 + nN x + i) by omega]
            exact y _ (by omega)
          have e2 : ∀ i, i < 10 → A 37 (6 + nN q + i) = q.2 (6 + nN q + i) := fun i hi => hc _ (by omega)
          exact ⟨fun h i hi => by rw [← e1 i hi, h i hi, e2 i hi], fun h i hi => by rw [e1 i hi, h i hi, e2 i hi]⟩
        have eg : s_wd x.2 0 = s_wd q.2 0 ↔ gN x = gN q := by
          rw [hvx.i, hq.i, ii_inj (by omega) (by omega)]
        by_cases hg : gN x = gN q
        · rw [if_pos hg]
          refine ⟨b, t1, ?_⟩
          rcases t2 with ⟨rfl, t2⟩ | ⟨rfl, t2⟩
          · exact Or.inl ⟨rfl, eg.mpr hg, ee.mp t2⟩
          · exact Or.inr ⟨rfl, fun h => t2 (ee.mpr h.2)⟩
        · rw [if_neg hg]
          exact ⟨0, t0, Or.inr ⟨rfl, fun h => hg (eg.mp h.1)⟩⟩
      -- one turn
      have turn : ∀ z : Int32, f_Md_isTwice_l21 G N (md G R M I A) M (ii r) (ii (gN q)) (ii (6 + nN q)) (z, ii k) = (ho_it (f_Md_isTwice_l62_in21 G N (md G R M I A) M (ii r) (ii (gN q)) (ii (6 + nN q)) z (ii k) (ii (68 * (16 * r + k)))) N ((if gN x = gN q then 1 else 0), 0)).bind fun x17 => if ¬ z = 0 then some (.inl (1, ii (k + 1))) else if x17 = 0 then some (.inl (0, ii (k + 1))) else some (.inl (1, ii (k + 1))) := by
        intro z
        unfold f_Md_isTwice_l21 f_Md_isTwice_j57_in21 f_Md_isTwice_j132_in21 f_Md_isTwice_j137_in21
        dsimp only
        rw [md_r29, bd_S, md_ld29 hr, bd_S, m2.1, if_neg (by rw [ii_le (by omega) (by omega)]; omega), md_f, bd_S, heldAt_e, bd_S, bd_S, heldI_S m2 hs hx hr, bd_S, ii_1]
        by_cases hg : gN x = gN q
        · rw [if_neg (by rw [hg]; exact fun h => h rfl), if_pos hg]
        · rw [if_pos (by rw [ii_inj (by omega) (by omega)]; exact hg), if_neg hg]
      rcases hst with ⟨rfl, hst⟩ | ⟨rfl, hst⟩
      · obtain ⟨b, c1, -⟩ := cmp 1
        exact ⟨_, by rw [turn 1, c1, bd_S, if_pos (by decide)], Or.inl ⟨rfl, hst⟩⟩
      · obtain ⟨b, c1, c2⟩ := cmp 0
        rcases c2 with ⟨rfl, c2⟩ | ⟨rfl, c2⟩
        · exact ⟨_, by rw [turn 0, c1, bd_S, if_neg (fun h => h rfl), if_neg (by decide)], Or.inl ⟨rfl, k, x, hx, c2⟩⟩
        · refine ⟨_, by rw [turn 0, c1, bd_S, if_neg (fun h => h rfl), if_pos rfl], Or.inr ⟨rfl, fun j x' hj hx' => ?_⟩⟩
          by_cases e : j = k
          · subst e
            rw [hx] at hx'
            rw [← Option.some.inj hx']
            exact c2
          · exact hst j x' (by omega) hx'
    · intro st hst
      have fin : ∀ z : Int32, f_Md_isTwice_l21 G N (md G R M I A) M (ii r) (ii (gN q)) (ii (6 + nN q)) (z, ii s.2.1.length) = some (.inr z) := fun z => by
        unfold f_Md_isTwice_l21
        dsimp only
        rw [md_r29, bd_S, md_ld29 hr, bd_S, m2.1, if_pos (by rw [ii_le (by omega) (by omega)]; omega)]
      rcases hst with ⟨rfl, hst⟩ | ⟨rfl, hst⟩
      · exact ⟨1, fin 1, Or.inl ⟨rfl, hst⟩⟩
      · exact ⟨0, fin 0, Or.inr ⟨rfl, fun j x hx => hst j x (List.getElem?_eq_some_iff.mp hx).1 hx⟩⟩
  obtain ⟨b, k1, k2⟩ := key
  rw [k1, bd_S]
  -- among the released ones: none
  have outs : ∀ z : Int32, (z = 0 ∨ z = 1) → ho_it (f_Md_isTwice_l152 G N (md G R M I A) M (ii r) (ii (gN q)) (ii (6 + nN q))) N (z, 1024 * ii r) = some z := by
    intro z hz
    refine it_for s.2.2.1.length (fun k => (z, ii (1024 * r + k))) _ (fun k hk => ?_) ?_ (by omega) ?_
    · obtain ⟨x, hx⟩ : ∃ x, s.2.2.1[k]? = some x := ⟨_, List.getElem?_eq_getElem hk⟩
      have hvx := hs.2.2.2 k x hx
      have gx := hvx.1.g2
      have gq := hq.g2
      have hne : ¬ gN x = gN q := fun e => by
        have := hvx.2
        rw [e, hnd] at this
        cases this
      have a1 : 1024 * ii r + ii s.2.2.1.length = ii (1024 * r + s.2.2.1.length) := by rw [show (1024 : Int32) = ii 1024 from rfl, ii_mul, ii_add]
      unfold f_Md_isTwice_l152 f_Md_isTwice_j185_in152 f_Md_isTwice_j250_in152 f_Md_isTwice_j255_in152
      dsimp only
      rw [md_r32, bd_S, md_ld32 hr, bd_S, m3.1, a1, if_neg (by rw [ii_le (by omega) (by omega)]; omega), md_r33, bd_S, md_ld33 (by omega), bd_S, (m3.2 k x hx).1, if_pos (by rw [ii_inj (by omega) (by omega)]; exact hne), tw_190 (by omega), bd_S, ii_1, Nat.add_assoc]
      rcases hz with rfl | rfl
      · rw [if_neg (fun h => h rfl), if_pos rfl]
      · rw [if_pos (by decide)]
    · have a1 : 1024 * ii r + ii s.2.2.1.length = ii (1024 * r + s.2.2.1.length) := by rw [show (1024 : Int32) = ii 1024 from rfl, ii_mul, ii_add]
      unfold f_Md_isTwice_l152
      dsimp only
      rw [md_r32, bd_S, md_ld32 hr, bd_S, m3.1, a1, if_pos (by rw [ii_le (by omega) (by omega)]; omega)]
    · rw [show (1024 : Int32) = ii 1024 from rfl, ii_mul]
      rfl
  rcases k2 with ⟨rfl, j, x, hx, k2⟩ | ⟨rfl, k2⟩
  · have ht : twins s.2.1 q = true := by
      unfold twins
      rw [List.any_eq_true]
      exact ⟨x, List.mem_of_getElem? hx, decide_eq_true k2⟩
    rw [outs 1 (Or.inr rfl), bd_S, if_pos ht]
    rfl
  · have ht : ¬ twins s.2.1 q = true := by
      intro h
      unfold twins at h
      rw [List.any_eq_true] at h
      obtain ⟨x, hx1, hx2⟩ := h
      obtain ⟨k, hk, e⟩ := List.getElem_of_mem hx1
      exact k2 k x (by rw [List.getElem?_eq_getElem hk, e]) (of_decide_eq_true hx2)
    rw [outs 0 (Or.inl rfl), bd_S, if_neg ht]
    rfl
end MR
