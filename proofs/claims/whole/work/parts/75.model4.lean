/-! the model: goOut -/
section MQ
variable {G : ho_G} {R : ho_H} {M N : Nat} {I : Nat → Int32} {A : Nat → Nat → Int32}
theorem heldAt_e {σ : ho_H} {a r k : Nat} : f_Md_heldAt G N σ a (ii r) (ii k) = some (ii (68 * (16 * r + k))) := by
  unfold f_Md_heldAt
  rw [show (16 : Int32) = ii 16 from rfl, show (68 : Int32) = ii 68 from rfl, ii_mul, ii_add, ii_mul]
theorem go_15 {r k n : Nat} (hr : r < 8) (hk : k < 16) (hn : n ≤ 68) (hN : 301 < N) : ho_it (f_Md_goOut_l15 G N M (ii r) (ii k) (ii n)) N (md G R M I A, 0) = some (md G R M I (upA A 37 (ovr (fun i => A 31 (68 * (16 * r + k) + i)) (A 37) n))) := by
  refine it_for n (fun z => (md G R M I (upA A 37 (ovr (fun i => A 31 (68 * (16 * r + k) + i)) (A 37) z)), ii z)) _ (fun z hz => ?_) ?_ (by omega) (by rw [upA_up0]; rfl)
  · have e0 : (ii n ≤ ii z) = False := by rw [ii_le (by omega) (by omega)]; exact eq_false (by omega)
    simp only [f_Md_goOut_l15, e0, ↓reduceIte, md_r37, md_r31, md_f, bd_S, heldAt_e, ii_add, md_ld31 (show 68 * (16 * r + k) + z < 8704 by omega), md_st37 (show z < 68 by omega), ii_1]
    rw [upA_upA, upA_eq, upA_ne (by decide), ovr_up rfl]
  · simp only [f_Md_goOut_l15]
    rw [if_pos (by rw [ii_le (by omega) (by omega)]; exact Nat.le_refl _)]
theorem go_101 {r k : Nat} (hr : r < 8) (hk : k < 15) (hN : 301 < N) : ho_it (f_Md_goOut_l101_in61 G N M (ii r) (ii k)) N (md G R M I A, 0) = some (md G R M I (upA A 31 (s_cp (A 31) (fun i => A 31 (68 * (16 * r + (k + 1)) + i)) (68 * (16 * r + k)) 68))) := by
  refine it_for 68 (fun z => (md G R M I (upA A 31 (s_cp (A 31) (fun i => A 31 (68 * (16 * r + (k + 1)) + i)) (68 * (16 * r + k)) z)), ii z)) _ (fun z hz => ?_) ?_ (by omega) (by rw [s_cp_0, upA_self]; rfl)
  · have e0 : ((68 : Int32) ≤ ii z) = False := by rw [show (68 : Int32) = ii 68 from rfl, ii_le (by omega) (by omega)]; exact eq_false (by omega)
    have e1 : s_cp (A 31) (fun i => A 31 (68 * (16 * r + (k + 1)) + i)) (68 * (16 * r + k)) z (68 * (16 * r + (k + 1)) + z) = A 31 (68 * (16 * r + (k + 1)) + z) := by
      unfold s_cp
      rw [if_neg (by omega)]
    simp only [f_Md_goOut_l101_in61, e0, ↓reduceIte, md_r31, md_f, bd_S, ii_1, heldAt_e, ii_add, md_ld31 (show 68 * (16 * r + (k + 1)) + z < 8704 by omega), md_st31 (show 68 * (16 * r + k) + z < 8704 by omega)]
    rw [upA_upA, upA_eq, e1, s_cp_up rfl]
  · simp only [f_Md_goOut_l101_in61]
    rw [if_pos (by decide)]
theorem go_61 {r k L : Nat} (hr : r < 8) (hk : k ≤ L) (hL : L < 16) (h29 : A 29 r = ii L) (hN : 301 < N) : ∃ A', ho_it (f_Md_goOut_l61 G N M (ii r)) N (md G R M I A, ii k) = some (md G R M I A') ∧ (∀ j, j ≠ 30 → j ≠ 31 → A' j = A j) ∧ (∀ q, A' 30 q = if 16 * r + k ≤ q ∧ q < 16 * r + L then A 30 (q + 1) else A 30 q) ∧ (∀ q, A' 31 q = if 68 * (16 * r + k) ≤ q ∧ q < 68 * (16 * r + L) then A 31 (q + 68) else A 31 q) := by
  have key : ∃ σ', ho_it (f_Md_goOut_l61 G N M (ii r)) N (md G R M I A, ii k) = some σ' ∧ ∃ A', σ' = md G R M I A' ∧ (∀ j, j ≠ 30 → j ≠ 31 → A' j = A j) ∧ (∀ q, A' 30 q = if 16 * r + k ≤ q ∧ q < 16 * r + L then A 30 (q + 1) else A 30 q) ∧ (∀ q, A' 31 q = if 68 * (16 * r + k) ≤ q ∧ q < 68 * (16 * r + L) then A 31 (q + 68) else A 31 q) := by
    refine it_ex (L - k) (fun j s => ∃ A', s = (md G R M I A', ii (k + j)) ∧ (∀ j, j ≠ 30 → j ≠ 31 → A' j = A j) ∧ (∀ q, A' 30 q = if 16 * r + k ≤ q ∧ q < 16 * r + (k + j) then A 30 (q + 1) else A 30 q) ∧ (∀ q, A' 31 q = if 68 * (16 * r + k) ≤ q ∧ q < 68 * (16 * r + (k + j)) then A 31 (q + 68) else A 31 q)) _ ?_ ?_ (by omega) ⟨A, rfl, fun _ _ _ => rfl, fun q => by rw [if_neg (by omega)], fun q => by rw [if_neg (by omega)]⟩
    · rintro j s hj ⟨A1, rfl, p1, p2, p3⟩
      have e0 : (ii L ≤ ii (k + j)) = False := by rw [ii_le (by omega) (by omega)]; exact eq_false (by omega)
      have a1 : 16 * ii r + ii (k + j) = ii (16 * r + (k + j)) := by rw [show (16 : Int32) = ii 16 from rfl, ii_mul, ii_add]
      refine ⟨(md G R M I (upA (upA A1 30 (upd (A1 30) (16 * r + (k + j)) (A1 30 (16 * r + (k + j) + 1)))) 31 (s_cp (upA A1 30 (upd (A1 30) (16 * r + (k + j)) (A1 30 (16 * r + (k + j) + 1))) 31) (fun i => upA A1 30 (upd (A1 30) (16 * r + (k + j)) (A1 30 (16 * r + (k + j) + 1))) 31 (68 * (16 * r + (k + j + 1)) + i)) (68 * (16 * r + (k + j))) 68)), ii (k + j + 1)), ?_, ?_⟩
      · unfold f_Md_goOut_l61
        dsimp only
        rw [md_r29, bd_S, md_ld29 hr, bd_S, p1 29 (by decide) (by decide), h29, if_neg (by rw [ii_le (by omega) (by omega)]; omega), md_r30, bd_S, bd_S, a1, ii_1, md_ld30 (by omega), bd_S, md_st30 (by omega), bd_S, go_101 hr (by omega) hN, bd_S, ii_1]
      · refine ⟨_, rfl, fun j' h1 h2 => by rw [upA_ne h2, upA_ne h1, p1 j' h1 h2], fun q => ?_, fun q => ?_⟩
        · rw [upA_ne (by decide), upA_eq]
          unfold upd
          by_cases e : q = 16 * r + (k + j)
          · rw [if_pos e, if_pos (by omega), p2, if_neg (by omega), e]
          · rw [if_neg e, p2]
            by_cases e2 : 16 * r + k ≤ q ∧ q < 16 * r + (k + j)
            · rw [if_pos e2, if_pos (by omega)]
            · rw [if_neg e2, if_neg (by omega)]
        · rw [upA_eq, upA_ne (by decide)]
          unfold s_cp
          by_cases e : 68 * (16 * r + (k + j)) ≤ q ∧ q < 68 * (16 * r + (k + j)) + 68
          · rw [if_pos e, if_pos (by omega)]
            show A1 31 (68 * (16 * r + (k + j + 1)) + (q - 68 * (16 * r + (k + j)))) = _
            rw [p3, if_neg (by omega)]
            congr 1
            omega
          · rw [if_neg e, p3]
            by_cases e2 : 68 * (16 * r + k) ≤ q ∧ q < 68 * (16 * r + (k + j))
            · rw [if_pos e2, if_pos (by omega)]
            · rw [if_neg e2, if_neg (by omega)]
    · rintro s ⟨A1, rfl, p1, p2, p3⟩
      rw [show k + (L - k) = L by omega] at p2 p3 ⊢
      refine ⟨_, ?_, A1, rfl, p1, p2, p3⟩
      unfold f_Md_goOut_l61
      dsimp only
      rw [md_r29, bd_S, md_ld29 hr, bd_S, p1 29 (by decide) (by decide), h29, if_pos (by rw [ii_le (by omega) (by omega)]; exact Nat.le_refl _)]
  obtain ⟨σ', k1, A', rfl, k2⟩ := key
  exact ⟨A', k1, k2⟩
theorem go_225 {n : Nat} {x y z : Int32} (h : n ≤ 32) (hN : 301 < N) : ∃ b, ho_it (f_Md_goOut_l225 G N (md G R M I A) M x (ii n) y z) N (1, 0) = some b ∧ ((b = 1 ∧ ∀ k, k < 10 → A 11 k = A 37 (6 + n + k)) ∨ (b = 0 ∧ ¬ ∀ k, k < 10 → A 11 k = A 37 (6 + n + k))) := by
  have a3 : ∀ k, (6 + ii n) + ii k = ii (6 + n + k) := fun k => by rw [show (6 : Int32) = ii 6 from rfl, ii_add, ii_add]
  have e0 : ∀ k, k < 10 → ((10 : Int32) ≤ ii k) = False := fun k hk => by rw [show (10 : Int32) = ii 10 from rfl, ii_le (by omega) (by omega)]; exact eq_false (by omega)
  refine (it_cmp (n := 10) (fun k => A 11 k = A 37 (6 + n + k)) (fun k hk hp => ?_) (fun k hk hp => ?_) (fun k hk => ?_) (fun b => ?_) (by omega)).2
  · simp only [f_Md_goOut_l225, f_Md_goOut_j264_in225, f_Md_goOut_j265_in225, e0 k hk, ↓reduceIte, show ¬ (1 : Int32) = 0 by decide, md_r11, md_r37, bd_S, a3, md_ld37 (show 6 + n + k < 68 by omega), md_ld11 (show k < 32 by omega), ii_1, hp, not_true_eq_false]
  · simp only [f_Md_goOut_l225, f_Md_goOut_j264_in225, f_Md_goOut_j265_in225, e0 k hk, ↓reduceIte, show ¬ (1 : Int32) = 0 by decide, md_r11, md_r37, bd_S, a3, md_ld37 (show 6 + n + k < 68 by omega), md_ld11 (show k < 32 by omega), ii_1, hp, not_false_eq_true]
  · simp only [f_Md_goOut_l225, f_Md_goOut_j264_in225, f_Md_goOut_j265_in225, e0 k hk, ↓reduceIte, ii_1]
  · simp only [f_Md_goOut_l225]
    rw [if_pos (by decide)]
theorem go_389 {sl : Nat} (h : sl + 1 < 64) (hN : 301 < N) : ho_it (f_Md_goOut_l389 G N M (ii sl)) N (md G R M I A, 0) = some (md G R M I (upA A 27 (s_cp (A 27) (fun i => A 37 (6 + i)) (20 * (sl + 1)) 20))) := by
  refine it_for 20 (fun k => (md G R M I (upA A 27 (s_cp (A 27) (fun i => A 37 (6 + i)) (20 * (sl + 1)) k)), ii k)) _ (fun k hk => ?_) ?_ (by omega) (by rw [s_cp_0, upA_self]; rfl)
  · have e0 : ((20 : Int32) ≤ ii k) = False := by rw [li20, ii_le (by omega) (by omega)]; exact eq_false (by omega)
    have a3 : 20 * ii (sl + 1) + ii k = ii (20 * (sl + 1) + k) := by rw [li20, ii_mul, ii_add]
    have a4 : (6 : Int32) + ii k = ii (6 + k) := by rw [show (6 : Int32) = ii 6 from rfl, ii_add]
    simp only [f_Md_goOut_l389, e0, ↓reduceIte, md_r27, md_r37, bd_S, a3, a4, md_ld37 (show 6 + k < 68 by omega), md_st27 (show 20 * (sl + 1) + k < 1280 by omega), ii_1]
    rw [upA_upA, upA_eq, upA_ne (by decide), s_cp_up rfl]
  · simp only [f_Md_goOut_l389]
    rw [if_pos (by decide)]
theorem fre_of {j : Nat} (hj : fre j = false) (hm : j ∈ [2, 3, 4, 5, 7, 9, 11, 38]) : False := by
  have : fre j = true := decide_eq_true (by
    simp only [List.mem_cons, List.not_mem_nil, or_false] at hm ⊢
    omega)
  rw [this] at hj
  cases hj
theorem goOut_S {r k : Nat} {s : RS} {q : PQ} (hm : mrc A r s) (hs : rsV s) (hqk : s.2.1[k]? = some q) (hd : due s.1 (gN q) = true) (hr : r < 8) (ho : s.2.2.1.length < 1024) (ht : mtab A) (hN : 301 < N) : ∃ I' A', f_Md_goOut G N (md G R M I A) M (ii r) (ii k) = some (md G R M I' A') ∧ mrc A' r (relQ s k q) ∧ mfr A A' r ∧ ikeep I I' ∧ A' 39 = A 39 := by
  obtain ⟨m1, m2, m3, m4⟩ := hm
  have hk : k < s.2.1.length := (List.getElem?_eq_some_iff.mp hqk).1
  have hl16 := hs.2.2.1
  have hq : pkV q := (hs.2.1 k q hqk).1
  have g1 := hq.g1
  have g2 := hq.g2
  have n32 := hq.n32
  have hln := hq.ln
  have c8 : ch (gN q) < 8 := ch_lt g2
  have hgc : gN q = 64 * ch (gN q) + nu (gN q) := by unfold ch nu; omega
  -- the chain
  obtain ⟨fi, v, K, ek, hdv⟩ : ∃ fi v K, s.1 (ch (gN q)) = some (fi, v, K) ∧ nu (gN q) ≤ v := by
    unfold due at hd
    cases e : s.1 (ch (gN q)) with
    | none => rw [e] at hd; cases hd
    | some x =>
      obtain ⟨fi, v, K⟩ := x
      rw [e] at hd
      exact ⟨fi, v, K, rfl, of_decide_eq_true hd⟩
  have hkc := m1 (ch (gN q)) c8
  rw [ek] at hkc
  obtain ⟨k1, k2, k3, k4⟩ := hkc
  have hv := hs.1 _ _ _ _ ek
  have a16 : 16 * ii r + ii k = ii (16 * r + k) := by rw [show (16 : Int32) = ii 16 from rfl, ii_mul, ii_add]
  have a8 : 8 * ii r + ii (ch (gN q)) = ii (8 * r + ch (gN q)) := by rw [show (8 : Int32) = ii 8 from rfl, ii_mul, ii_add]
  unfold f_Md_goOut
  rw [md_r30, bd_S, a16, md_ld30 (by omega), bd_S, (m2.2 k q hqk).1, go_15 hr (by omega) (by omega) hN, bd_S, md_r29, bd_S, md_ld29 hr, bd_S, upA_ne (show (29 : Nat) ≠ 37 by decide), m2.1, show ii s.2.1.length - 1 = ii (s.2.1.length - 1) from ii_sub (b := 1) (by omega), md_st29 hr, bd_S]
  generalize hA1 : upA A 37 (ovr (fun i => A 31 (68 * (16 * r + k) + i)) (A 37) q.1) = A1
  have z1 : ∀ j, j ≠ 37 → A1 j = A j := fun j hj => by rw [← hA1, upA_ne hj]
  have c1 : ∀ i, i < q.1 → A1 37 i = q.2 i := fun i hi => by
    rw [← hA1, upA_eq]
    unfold ovr
    rw [if_pos hi]
    exact (m2.2 k q hqk).2 i hi
  have f1 : mfr A A1 r := by rw [← hA1]; exact mfr.upF rfl
  obtain ⟨A3, d1, d2, d3, d4⟩ := go_61 (G := G) (R := R) (M := M) (I := I) (A := upA A1 29 (upd (A1 29) r (ii (s.2.1.length - 1)))) (r := r) (k := k) (L := s.2.1.length - 1) hr (by omega) (by omega) (by rw [upA_eq]; unfold upd; rw [if_pos rfl]) hN
  rw [d1, bd_S]
  have z3 : ∀ j, j ≠ 37 → j ≠ 29 → j ≠ 30 → j ≠ 31 → A3 j = A j := fun j h1 h2 h3 h4 => by rw [d2 j h3 h4, upA_ne h2, z1 j h1]
  have c3 : ∀ i, i < q.1 → A3 37 i = q.2 i := fun i hi => by rw [d2 37 (by decide) (by decide), upA_ne (by decide), c1 i hi]
  have f3 : mfr A A3 r := by
    refine (f1.trans (mfr.upd1 (j := 29) (i := r) (x := ii (s.2.1.length - 1)) (by show 1 * r ≤ r; omega) (by show r < 1 * r + 1; omega))).trans fun j x hj hx => ?_
    by_cases e30 : j = 30
    · subst e30
      have hx' : x < 16 * r ∨ 16 * r + 16 ≤ x := hx
      rw [d3, if_neg (by omega)]
    · by_cases e31 : j = 31
      · subst e31
        have hx' : x < 1088 * r ∨ 1088 * r + 1088 ≤ x := hx
        rw [d4, if_neg (by omega)]
      · rw [d2 j e30 e31]
  have h3 : mhd A3 r (s.2.1.eraseIdx k) := by
    have el : (s.2.1.eraseIdx k).length = s.2.1.length - 1 := by rw [List.length_eraseIdx, if_pos hk]
    refine ⟨?_, fun j x hx => ?_⟩
    · rw [d2 29 (by decide) (by decide), upA_eq, el]
      unfold upd
      rw [if_pos rfl]
    · have hj : j < (s.2.1.eraseIdx k).length := (List.getElem?_eq_some_iff.mp hx).1
      rw [List.getElem?_eraseIdx] at hx
      rw [d3, upA_ne (show (30 : Nat) ≠ 29 by decide), z1 30 (by decide)]
      by_cases hjk : j < k
      · rw [if_pos hjk] at hx
        have y := m2.2 j x hx
        have hvx := (hs.2.1 j x hx).1
        refine ⟨by rw [if_neg (by omega)]; exact y.1, fun i hi => ?_⟩
        have := hvx.ln
        have := hvx.n32
        rw [d4, if_neg (by omega), upA_ne (show (31 : Nat) ≠ 29 by decide), z1 31 (by decide)]
        exact y.2 i hi
      · rw [if_neg hjk] at hx
        have y := m2.2 (j + 1) x hx
        have hvx := (hs.2.1 (j + 1) x hx).1
        refine ⟨by rw [if_pos (by omega)]; exact y.1, fun i hi => ?_⟩
        have := hvx.ln
        have := hvx.n32
        rw [d4, if_pos (by omega), upA_ne (show (31 : Nat) ≠ 29 by decide), z1 31 (by decide), show 68 * (16 * r + j) + i + 68 = 68 * (16 * r + (j + 1)) + i by omega]
        exact y.2 i hi
  obtain ⟨v1, v2, v3⟩ := cpV hq c3
  rw [md_r37, bd_S, show (5 : Int32) = ii 5 from rfl, md_ld37 (by decide), bd_S, v2, md_f, bd_S, copyI_S, bd_S, v1, mchain_S g1 (by omega), bd_S, bd_S, a8, loadLatest_S (by omega) hN, md_mono, bd_S]
  have t4 : mtab (upA A3 38 (ovr (fun i => A3 27 (20 * (8 * r + ch (gN q)) + i)) (A3 38) 20)) := (f3.trans (mfr.upF rfl)).tab ht
  generalize hA4 : upA A3 38 (ovr (fun i => A3 27 (20 * (8 * r + ch (gN q)) + i)) (A3 38) 20) = A4 at t4
  have z4 : ∀ j, j ≠ 38 → A4 j = A3 j := fun j hj => by rw [← hA4, upA_ne hj]
  have e38 : ∀ i, i < 20 → A4 38 i = K i := fun i hi => by
    rw [← hA4, upA_eq]
    unfold ovr
    rw [if_pos hi, z3 27 (by decide) (by decide) (by decide) (by decide)]
    exact k4 i hi
  have e26 : A4 26 (8 * r + ch (gN q)) = ii (64 * ch (gN q) + v) := by rw [z4 26 (by decide), z3 26 (by decide) (by decide) (by decide) (by decide)]; exact k3
  obtain ⟨I5, A5, p1, p2, p3, p4⟩ := md_downs (G := G) (R := R) (M := M) (N := N) (I := I) (A := A4) (f := f_Md_goOut_l188 G N M (ii r) (ii (nN q)) (ii (gN q)) (ii (8 * r + ch (gN q)))) (gN q) (v - nu (gN q)) t4 (fun I' A' j hkp hj => by
    unfold f_Md_goOut_l188
    dsimp only
    rw [md_r26, bd_S, md_ld26 (by omega), bd_S, hkp 26 (by decide), e26, if_neg (by rw [ii_le (by omega) (by omega)]; omega), md_f, bd_S]) (fun I' A' hkp => by
    unfold f_Md_goOut_l188
    dsimp only
    rw [md_r26, bd_S, md_ld26 (by omega), bd_S, hkp 26 (by decide), e26, if_pos (by rw [ii_le (by omega) (by omega)]; omega)]) hN (by omega)
  rw [p1, bd_S, md_f, bd_S, show (6 : Int32) + ii (nN q) = ii (6 + nN q) from ii_add 6 _]
  obtain ⟨I6, A6, q1, q2, q3, q4, q5⟩ := Md_codeOfCopy_S (G := G) (R := R) (M := M) (N := N) (I := I5) (A := A5) (n := 6 + nN q) (by omega) (p3.tab t4) (by omega)
  rw [q1, md_mono, bd_S]
  have zj : ∀ j, fre j = false → A6 j = A3 j := fun j hj => by
    rw [q4 j (fun hm => fre_of hj hm), p3 j (fun hm => fre_of hj hm), z4 j (fun e => by rw [e] at hj; cases hj)]
  have z37 : A6 37 = A3 37 := by rw [q4 37 (by decide), p3 37 (by decide), z4 37 (by decide)]
  have z39 : A6 39 = A 39 := by rw [q4 39 (by decide), p3 39 (by decide), z4 39 (by decide), z3 39 (by decide) (by decide) (by decide) (by decide)]
  have c6 : ∀ i, i < q.1 → A6 37 i = q.2 i := fun i hi => by rw [z37, c3 i hi]
  have f6 : mfr A A6 r := by
    refine ((f3.trans ?_).trans (mfr.keep p3)).trans (mfr.keep q4)
    rw [← hA4]
    exact mfr.upF rfl
  have ik : ikeep I I6 := p4.tr q5
  have n1 : mkn A6 r s.1 := m1.eq (by rw [zj 24 rfl, z3 24 (by decide) (by decide) (by decide) (by decide)]) (by rw [zj 25 rfl, z3 25 (by decide) (by decide) (by decide) (by decide)]) (by rw [zj 26 rfl, z3 26 (by decide) (by decide) (by decide) (by decide)]) (by rw [zj 27 rfl, z3 27 (by decide) (by decide) (by decide) (by decide)])
  have n2 : mhd A6 r (s.2.1.eraseIdx k) := h3.eq (zj 29 rfl) (zj 30 rfl) (zj 31 rfl)
  have n3 : mot A6 r s.2.2.1 := m3.eq (by rw [zj 32 rfl, z3 32 (by decide) (by decide) (by decide) (by decide)]) (by rw [zj 33 rfl, z3 33 (by decide) (by decide) (by decide) (by decide)]) (by rw [zj 36 rfl, z3 36 (by decide) (by decide) (by decide) (by decide)])
  have n4 : mcn A6 r s.2.2.2 := m4.eq (by rw [zj 28 rfl, z3 28 (by decide) (by decide) (by decide) (by decide)])
  obtain ⟨bb, b1, b2⟩ := go_225 (G := G) (R := R) (M := M) (N := N) (I := I6) (A := A6) (n := nN q) (x := ii r) (y := ii (gN q)) (z := ii (8 * r + ch (gN q))) n32 hN
  rw [b1, bd_S]
  have hcode : (∀ z, z < 10 → A6 11 z = A6 37 (6 + nN q + z)) ↔ codeOK s.1 q = true := by
    unfold codeOK
    rw [decide_eq_true_iff]
    have e9 : ∀ i, i < 32 → A6 11 i = s_cd (keyOf s.1 (gN q)) q.2 (6 + nN q) i := fun i hi => by
      rw [q2 i hi]
      refine s_cd_congr (fun z hz => ?_) (fun z hz => ?_) i hi
      · rw [p2 z hz]
        unfold keyOf
        rw [ek]
        exact dnN_congr e38 _ z hz
      · rw [p3 37 (by decide), z4 37 (by decide)]
        exact c3 z (by omega)
    exact ⟨fun hh i hi => by rw [← e9 i (by omega), hh i hi, c6 _ (by omega)], fun hh i hi => by rw [e9 i (by omega), ← hh i hi, c6 _ (by omega)]⟩
  unfold relQ
  rcases b2 with ⟨rfl, b2⟩ | ⟨rfl, b2⟩
  · rw [if_pos (show ¬ (1 : Int32) = 0 by decide), if_pos (hcode.mp b2), md_f, bd_S]
    obtain ⟨A7, y1, y2, y3, y4⟩ := keep_S (G := G) (R := R) (M := M) (N := N) (I := I6) n3 hq c6 (fun z x hx => (hs.2.2.2 z x hx).1) hr ho hN
    rw [y1, md_mono, bd_S, md_r37, bd_S, show (4 : Int32) = ii 4 from rfl, md_ld37 (by decide), bd_S, y4 37 (by decide) (by decide) (by decide) (by decide) (by decide), (cpV hq c6).2.2]
    have w1 : mkn A7 r s.1 := n1.eq (y4 24 (by decide) (by decide) (by decide) (by decide) (by decide)) (y4 25 (by decide) (by decide) (by decide) (by decide) (by decide)) (y4 26 (by decide) (by decide) (by decide) (by decide) (by decide)) (y4 27 (by decide) (by decide) (by decide) (by decide) (by decide))
    have w2 : mhd A7 r (s.2.1.eraseIdx k) := n2.eq (y4 29 (by decide) (by decide) (by decide) (by decide) (by decide)) (y4 30 (by decide) (by decide) (by decide) (by decide) (by decide)) (y4 31 (by decide) (by decide) (by decide) (by decide) (by decide))
    have w4 : mcn A7 r s.2.2.2 := n4.eq (y4 28 (by decide) (by decide) (by decide) (by decide) (by decide))
    have w39 : A7 39 = A 39 := (y4 39 (by decide) (by decide) (by decide) (by decide) (by decide)).trans z39
    have stay : learn s.1 q = s.1 → ∃ I' A', some (md G R M I6 A7) = some (md G R M I' A') ∧ mrc A' r (learn s.1 q, s.2.1.eraseIdx k, s.2.2.1 ++ [q], s.2.2.2) ∧ mfr A A' r ∧ ikeep I I' ∧ A' 39 = A 39 := fun e => ⟨I6, A7, rfl, ⟨by rw [e]; exact w1, w2, y2, w4⟩, f6.trans y3, ik, w39⟩
    unfold f_Md_goOut_j427
    have hk1 := hq.2.2.1
    by_cases h1 : kN q = 1
    · rw [if_neg (by rw [h1]; decide), mchain_S g1 (by omega), bd_S, ii_1]
      by_cases h8 : ch (gN q) + 1 < 8
      · rw [if_neg (by rw [show (8 : Int32) = ii 8 from rfl, ii_le (by decide) (by omega)]; omega), md_r24, bd_S, ii_1, md_ld24 (by omega), bd_S]
        have hkn := w1 (ch (gN q) + 1) h8
        cases en : s.1 (ch (gN q) + 1) with
        | some x =>
          obtain ⟨fi', v', K'⟩ := x
          rw [en] at hkn
          rw [show 8 * r + ch (gN q) + 1 = 8 * r + (ch (gN q) + 1) by omega, hkn.1, if_pos (by decide)]
          refine stay ?_
          unfold learn
          rw [if_neg]
          rintro ⟨-, -, hh⟩
          rw [en] at hh
          cases hh
        | none =>
          rw [en] at hkn
          have hz : A7 24 (8 * r + (ch (gN q) + 1)) = 0 := hkn
          have a64 : (64 : Int32) * ii (ch (gN q) + 1) = ii (64 * (ch (gN q) + 1)) := by rw [show (64 : Int32) = ii 64 from rfl, ii_mul]
          rw [show 8 * r + ch (gN q) + 1 = 8 * r + (ch (gN q) + 1) by omega, hz, if_neg (fun h => h rfl), bd_S, md_st24 (by omega) nar1, bd_S, md_r25, bd_S, mchain_S g1 (by omega), bd_S, ii_1, a64, md_st25 (by omega), bd_S, md_r26, bd_S, mchain_S g1 (by omega), bd_S, ii_1, a64, md_st26 (by omega), bd_S, go_389 (by omega) hN, bd_S]
          generalize hc : ch (gN q) + 1 = c at *
          refine ⟨I6, _, rfl, ⟨?_, ?_, ?_, ?_⟩, ?_, ik, ?_⟩
          · have el : learn s.1 q = fun c' => if c' = c then some (0, 0, fun i => q.2 (6 + i)) else s.1 c' := by
              unfold learn
              rw [hc, if_pos ⟨h1, h8, by rw [en]; rfl⟩]
            rw [el]
            intro c' hc'
            dsimp only
            rw [upA_ne (show (24 : Nat) ≠ 27 by decide), upA_ne (show (24 : Nat) ≠ 26 by decide), upA_ne (show (24 : Nat) ≠ 25 by decide), upA_eq, upA_ne (show (25 : Nat) ≠ 27 by decide), upA_ne (show (25 : Nat) ≠ 26 by decide), upA_eq, upA_ne (show (25 : Nat) ≠ 24 by decide), upA_ne (show (26 : Nat) ≠ 27 by decide), upA_eq, upA_ne (show (26 : Nat) ≠ 25 by decide), upA_ne (show (26 : Nat) ≠ 24 by decide), upA_eq, upA_ne (show (27 : Nat) ≠ 26 by decide), upA_ne (show (27 : Nat) ≠ 25 by decide), upA_ne (show (27 : Nat) ≠ 24 by decide), upA_ne (show (37 : Nat) ≠ 26 by decide), upA_ne (show (37 : Nat) ≠ 25 by decide), upA_ne (show (37 : Nat) ≠ 24 by decide), y4 37 (by decide) (by decide) (by decide) (by decide) (by decide), show 8 * r + ch (gN q) + 1 = 8 * r + c by omega]
            have hkc' := w1 c' hc'
            by_cases e : c' = c
            · subst e
              rw [if_pos rfl]
              refine ⟨?_, ?_, ?_, fun i hi => ?_⟩
              · unfold upd
                rw [if_pos rfl]
              · unfold upd
                rw [if_pos rfl]
                rfl
              · unfold upd
                rw [if_pos rfl]
                rfl
              · unfold s_cp
                rw [if_pos (by omega), Nat.add_sub_cancel_left]
                exact c6 _ (by omega)
            · rw [if_neg e]
              cases ek' : s.1 c' with
              | none =>
                rw [ek'] at hkc'
                show upd _ _ _ _ = 0
                unfold upd
                rw [if_neg (by omega)]
                exact hkc'
              | some x =>
                obtain ⟨fi', v', K'⟩ := x
                rw [ek'] at hkc'
                refine ⟨?_, ?_, ?_, fun i hi => ?_⟩
                · unfold upd
                  rw [if_neg (by omega)]
                  exact hkc'.1
                · unfold upd
                  rw [if_neg (by omega)]
                  exact hkc'.2.1
                · unfold upd
                  rw [if_neg (by omega)]
                  exact hkc'.2.2.1
                · unfold s_cp
                  rw [if_neg (by omega)]
                  exact hkc'.2.2.2 i hi
          · exact w2.eq (by rw [upA_ne (by decide), upA_ne (by decide), upA_ne (by decide), upA_ne (by decide)]) (by rw [upA_ne (by decide), upA_ne (by decide), upA_ne (by decide), upA_ne (by decide)]) (by rw [upA_ne (by decide), upA_ne (by decide), upA_ne (by decide), upA_ne (by decide)])
          · exact y2.eq (by rw [upA_ne (by decide), upA_ne (by decide), upA_ne (by decide), upA_ne (by decide)]) (by rw [upA_ne (by decide), upA_ne (by decide), upA_ne (by decide), upA_ne (by decide)]) (by rw [upA_ne (by decide), upA_ne (by decide), upA_ne (by decide), upA_ne (by decide)])
          · exact w4.eq (by rw [upA_ne (by decide), upA_ne (by decide), upA_ne (by decide), upA_ne (by decide)])
          · refine ((((f6.trans y3).trans (mfr.upd1 (j := 24) ?_ ?_)).trans (mfr.upd1 (j := 25) ?_ ?_)).trans (mfr.upd1 (j := 26) ?_ ?_)).trans (mfr.cp (j := 27) ?_ ?_)
            · show 8 * r ≤ _; omega
            · show _ < 8 * r + 8; omega
            · show 8 * r ≤ _; omega
            · show _ < 8 * r + 8; omega
            · show 8 * r ≤ _; omega
            · show _ < 8 * r + 8; omega
            · show 160 * r ≤ _; omega
            · show _ ≤ 160 * r + 160; omega
          · rw [upA_ne (by decide), upA_ne (by decide), upA_ne (by decide), upA_ne (by decide), w39]
      · rw [if_pos (by rw [show (8 : Int32) = ii 8 from rfl, ii_le (by decide) (by omega)]; omega)]
        refine stay ?_
        unfold learn
        rw [if_neg]
        rintro ⟨-, hh, -⟩
        exact h8 hh
    · rw [if_pos (by rw [show (1 : Int32) = ii 1 from rfl, ii_inj (by omega) (by decide)]; exact h1)]
      refine stay ?_
      unfold learn
      rw [if_neg]
      rintro ⟨hh, -⟩
      exact h1 hh
  · have a86 : 8 * ii r + ii 6 = ii (8 * r + 6) := by rw [show (8 : Int32) = ii 8 from rfl, ii_mul, ii_add]
    rw [if_neg (fun h => h rfl), if_neg (fun h => b2 (hcode.mpr h)), md_r28, bd_S, show (6 : Int32) = ii 6 from rfl, a86, md_ld28 (by omega), bd_S, md_st28 (by omega), bd_S]
    refine ⟨I6, _, rfl, ⟨n1.eq (upA_ne (by decide)) (upA_ne (by decide)) (upA_ne (by decide)) (upA_ne (by decide)), n2.eq (upA_ne (by decide)) (upA_ne (by decide)) (upA_ne (by decide)), n3.eq (upA_ne (by decide)) (upA_ne (by decide)) (upA_ne (by decide)), fun j hj => ?_⟩, f6.trans (mfr.upd1 (j := 28) (by show 8 * r ≤ _; omega) (by show _ < 8 * r + 8; omega)), ik, by rw [upA_ne (by decide), z39]⟩
    rw [upA_eq]
    unfold upd
    dsimp only
    by_cases e : j = 6
    · rw [if_pos (by omega), if_pos e, n4 6 (by decide)]
    · rw [if_neg (by omega), if_neg e]
      exact n4 j hj
end MQ
