/-! the model: a held one goes out -/
section MP
variable {G : ho_G} {R : ho_H} {M N : Nat} {I : Nat → Int32} {A : Nat → Nat → Int32}
theorem keep_25 {n k0 : Nat} {x : Int32} (hn : n ≤ 32) (hk : k0 < 8192) (hN : 301 < N) : ho_it (f_Md_keep_l25 G N M x (ii n) (ii k0)) N (md G R M I A, 0) = some (md G R M I (upA A 34 (s_cp (A 34) (fun i => A 37 (6 + n + i)) (10 * k0) 10))) := by
  refine it_for 10 (fun k => (md G R M I (upA A 34 (s_cp (A 34) (fun i => A 37 (6 + n + i)) (10 * k0) k)), ii k)) _ (fun k hk' => ?_) ?_ (by omega) (by rw [s_cp_0, upA_self]; rfl)
  · have e0 : ((10 : Int32) ≤ ii k) = False := by rw [show (10 : Int32) = ii 10 from rfl, ii_le (by omega) (by omega)]; exact eq_false (by omega)
    have a3 : (6 + ii n) + ii k = ii (6 + n + k) := by rw [show (6 : Int32) = ii 6 from rfl, ii_add, ii_add]
    have a4 : 10 * ii k0 + ii k = ii (10 * k0 + k) := by rw [show (10 : Int32) = ii 10 from rfl, ii_mul, ii_add]
    simp only [f_Md_keep_l25, e0, ↓reduceIte, md_r34, md_r37, bd_S, a3, a4, md_ld37 (show 6 + n + k < 68 by omega), md_st34 (show 10 * k0 + k < 81920 by omega), ii_1]
    rw [upA_upA, upA_eq, upA_ne (by decide), s_cp_up rfl]
  · simp only [f_Md_keep_l25]
    rw [if_pos (by decide)]
theorem keep_97 {r n L : Nat} (hL : A 32 r = ii L) (hr : r < 8) (hL2 : L < 100) (hn : n ≤ 32) (hN : 301 < N) : ho_it (f_Md_keep_l97 G N M (ii r) (ii n)) N (md G R M I A, 0) = some (md G R M I (upA A 36 (s_cp (A 36) (A 37) (68 * (100 * r + L)) (36 + n)))) := by
  refine it_for (36 + n) (fun k => (md G R M I (upA A 36 (s_cp (A 36) (A 37) (68 * (100 * r + L)) k)), ii k)) _ (fun k hk => ?_) ?_ (by omega) (by rw [s_cp_0, upA_self]; rfl)
  · have e0 : ((36 : Int32) + ii n ≤ ii k) = False := by rw [show (36 : Int32) = ii 36 from rfl, ii_add, ii_le (by omega) (by omega)]; exact eq_false (by omega)
    have a3 : 68 * (100 * ii r + ii L) + ii k = ii (68 * (100 * r + L) + k) := by rw [show (100 : Int32) = ii 100 from rfl, show (68 : Int32) = ii 68 from rfl, ii_mul, ii_add, ii_mul, ii_add]
    simp only [f_Md_keep_l97, e0, ↓reduceIte, md_r36, md_r32, md_r37, bd_S, md_ld32 (show r < 8 by omega), upA_ne (show (32 : Nat) ≠ 36 by decide), hL, a3, md_ld37 (show k < 68 by omega), md_st36 (show 68 * (100 * r + L) + k < 54400 by omega), ii_1]
    rw [upA_upA, upA_eq, upA_ne (by decide), s_cp_up rfl]
  · simp only [f_Md_keep_l97]
    rw [if_pos (by rw [show (36 : Int32) = ii 36 from rfl, ii_add, ii_le (by omega) (by omega)]; exact Nat.le_refl _)]
theorem keep_S {r : Nat} {o : List PQ} {q : PQ} (hm : mot A r o) (hq : pkV q) (hc : ∀ i, i < q.1 → A 37 i = q.2 i) (hov : ∀ (k : Nat) (x : PQ), o[k]? = some x → pkV x) (hr : r < 8) (ho : o.length < 1024) (hN : 301 < N) : ∃ A', f_Md_keep G N (md G R M I A) M (ii r) (ii (gN q)) (ii (nN q)) = some (md G R M I A') ∧ mot A' r (o ++ [q]) ∧ mfr A A' r ∧ ∀ j, j ≠ 32 → j ≠ 33 → j ≠ 34 → j ≠ 35 → j ≠ 36 → A' j = A j := by
  have n32 := hq.n32
  have hln := hq.ln
  obtain ⟨m1, m2⟩ := hm
  have a1 : 1024 * ii r + ii o.length = ii (1024 * r + o.length) := by rw [show (1024 : Int32) = ii 1024 from rfl, ii_mul, ii_add]
  unfold f_Md_keep f_Md_keep_j141
  rw [md_r32, bd_S, md_ld32 hr, bd_S, m1, md_r33, bd_S, a1, md_st33 (by omega), bd_S, keep_25 n32 (by omega) hN, bd_S, md_r32, bd_S, md_ld32 hr, bd_S]
  generalize hA1 : upA A 33 (upd (A 33) (1024 * r + o.length) (ii (gN q))) = A1
  have z1 : ∀ j, j ≠ 33 → A1 j = A j := fun j hj => by rw [← hA1, upA_ne hj]
  have f1 : mfr A A1 r := by
    rw [← hA1]
    refine mfr.upd1 (j := 33) ?_ ?_
    · show 1024 * r ≤ _; omega
    · show _ < 1024 * r + 1024; omega
  generalize hA2 : upA A1 34 (s_cp (A1 34) (fun i => A1 37 (6 + nN q + i)) (10 * (1024 * r + o.length)) 10) = A2
  have z2 : ∀ j, j ≠ 33 → j ≠ 34 → A2 j = A j := fun j h1 h2 => by rw [← hA2, upA_ne h2, z1 j h1]
  have f2 : mfr A A2 r := by
    rw [← hA2]
    refine f1.trans (mfr.cp (j := 34) ?_ ?_)
    · show 10240 * r ≤ _; omega
    · show _ ≤ 10240 * r + 10240; omega
  have y33 : A2 33 = upd (A 33) (1024 * r + o.length) (ii (gN q)) := by rw [← hA2, upA_ne (by decide), ← hA1, upA_eq]
  rw [z2 32 (by decide) (by decide), m1]
  -- the end: one more is out
  have fin : ∀ A3 : Nat → Nat → Int32, A3 32 = A 32 → A3 33 = upd (A 33) (1024 * r + o.length) (ii (gN q)) → mfr A A3 r → (∀ j, j ≠ 33 → j ≠ 34 → j ≠ 35 → j ≠ 36 → A3 j = A j) → (∀ (k : Nat) (x : PQ), o[k]? = some x → k < 100 → ∀ i, i < x.1 → A3 36 (68 * (100 * r + k) + i) = x.2 i) → (o.length < 100 → ∀ i, i < q.1 → A3 36 (68 * (100 * r + o.length) + i) = q.2 i) → ∃ A', ((some (M + 23)).bind fun b12 => (ho_ldI G (md G R M I A3) b12 (ii r)).bind fun v13 => (ho_stI G (md G R M I A3) b12 (ii r) (v13 + 1)).bind fun σ14 => some σ14) = some (md G R M I A') ∧ mot A' r (o ++ [q]) ∧ mfr A A' r ∧ ∀ j, j ≠ 32 → j ≠ 33 → j ≠ 34 → j ≠ 35 → j ≠ 36 → A' j = A j := by
    intro A3 e1 e2 e3 e4 e5 e6
    refine ⟨upA A3 32 (upd (A3 32) r (ii (o.length + 1))), ?_, ⟨?_, fun k x hx => ?_⟩, e3.trans (mfr.upd1 (j := 32) (by show 1 * r ≤ r; omega) (by show r < 1 * r + 1; omega)), fun j h1 h2 h3 h4 h5 => by rw [upA_ne h1, e4 j h2 h3 h4 h5]⟩
    · rw [bd_S, md_ld32 hr, bd_S, e1, m1, md_st32 hr, bd_S, ii_1, e1]
    · rw [upA_eq]
      unfold upd
      rw [if_pos rfl]
      simp
    · rw [upA_ne (show (33 : Nat) ≠ 32 by decide), upA_ne (show (36 : Nat) ≠ 32 by decide), e2]
      rcases getq hx with ⟨hi, hx⟩ | ⟨hi, hx⟩
      · refine ⟨?_, e5 k x hx⟩
        unfold upd
        rw [if_neg (by omega)]
        exact (m2 k x hx).1
      · rw [hi, hx]
        refine ⟨?_, e6⟩
        unfold upd
        rw [if_pos rfl]
  by_cases h100 : 100 ≤ o.length
  · rw [if_pos (by rw [show (100 : Int32) = ii 100 from rfl, ii_le (by decide) (by omega)]; exact h100)]
    exact fin A2 (z2 32 (by decide) (by decide)) y33 f2 (fun j h1 h2 _ _ => z2 j h1 h2) (fun k x hx hk => by rw [z2 36 (by decide) (by decide)]; exact (m2 k x hx).2 hk) (fun h => absurd h (by omega))
  · have a2 : 100 * ii r + ii o.length = ii (100 * r + o.length) := by rw [show (100 : Int32) = ii 100 from rfl, ii_mul, ii_add]
    have a3 : (36 : Int32) + ii (nN q) = ii (36 + nN q) := by rw [show (36 : Int32) = ii 36 from rfl, ii_add]
    rw [if_neg (by rw [show (100 : Int32) = ii 100 from rfl, ii_le (by decide) (by omega)]; exact h100), md_r35, bd_S, bd_S, md_ld32 hr, bd_S, z2 32 (by decide) (by decide), m1, a2, a3, md_st35 (by omega), bd_S, keep_97 (L := o.length) (by rw [upA_ne (by decide), z2 32 (by decide) (by decide)]; exact m1) hr (by omega) n32 hN, bd_S, md_r32]
    refine fin _ ?_ ?_ ?_ (fun j h1 h2 h3 h4 => ?_) (fun k x hx hk i hi => ?_) (fun _ i hi => ?_)
    · rw [upA_ne (by decide), upA_ne (by decide), z2 32 (by decide) (by decide)]
    · rw [upA_ne (by decide), upA_ne (by decide), y33]
    · refine (f2.trans (mfr.upd1 (j := 35) ?_ ?_)).trans (mfr.cp (j := 36) ?_ ?_)
      · show 100 * r ≤ _; omega
      · show _ < 100 * r + 100; omega
      · show 6800 * r ≤ _; omega
      · show _ ≤ 6800 * r + 6800; omega
    · rw [upA_ne h4, upA_ne h3, z2 j h1 h2]
    · rw [upA_eq, upA_ne (show (36 : Nat) ≠ 35 by decide), z2 36 (by decide) (by decide)]
      have hk9 : k < o.length := (List.getElem?_eq_some_iff.mp hx).1
      have hx1 : x.1 ≤ 68 := by
        have hvx := hov k x hx
        have := hvx.ln
        have := hvx.n32
        omega
      unfold s_cp
      rw [if_neg (by omega)]
      exact (m2 k x hx).2 hk i hi
    · rw [upA_eq, upA_ne (show (37 : Nat) ≠ 35 by decide), z2 37 (by decide) (by decide)]
      unfold s_cp
      rw [if_pos (by omega), Nat.add_sub_cancel_left]
      exact hc i hi
end MP
