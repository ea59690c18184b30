theorem li0 : (0 : Int32) = ii 0 := rfl
theorem li1 : (1 : Int32) = ii 1 := rfl
theorem li2 : (2 : Int32) = ii 2 := rfl
theorem li3 : (3 : Int32) = ii 3 := rfl
theorem li4 : (4 : Int32) = ii 4 := rfl
theorem li5 : (5 : Int32) = ii 5 := rfl
theorem li6 : (6 : Int32) = ii 6 := rfl
theorem li7 : (7 : Int32) = ii 7 := rfl
theorem li8 : (8 : Int32) = ii 8 := rfl
theorem s_r_ge {kc w : Int32} {h : Nat → Int32} {i : Nat} (hi : ¬ i < 8) : s_r kc w h i = h i := by
  obtain ⟨n, rfl⟩ : ∃ n, i = n + 8 := ⟨i - 8, by omega⟩
  rfl
theorem s_r_congr {kc w : Int32} {h h' : Nat → Int32} (e : ∀ i, i < 8 → h i = h' i) {i : Nat} (hi : i < 8) : s_r kc w h i = s_r kc w h' i := by
  have e0 := e 0 (by decide)
  have e1 := e 1 (by decide)
  have e2 := e 2 (by decide)
  have e3 := e 3 (by decide)
  have e4 := e 4 (by decide)
  have e5 := e 5 (by decide)
  have e6 := e 6 (by decide)
  have e7 := e 7 (by decide)
  have ht : s_t kc w h = s_t kc w h' := by unfold s_t; rw [e4, e5, e6, e7]
  have hu : s_u h = s_u h' := by unfold s_u; rw [e0, e1, e2]
  match i, hi with
  | 0, _ => show s_t kc w h + s_u h = s_t kc w h' + s_u h'; rw [ht, hu]
  | 1, _ => exact e0
  | 2, _ => exact e1
  | 3, _ => exact e2
  | 4, _ => show h 3 + s_t kc w h = h' 3 + s_t kc w h'; rw [e3, ht]
  | 5, _ => exact e4
  | 6, _ => exact e5
  | 7, _ => exact e6
  | n + 8, h => exact absurd h (by omega)
theorem s_rs_congr {W W' h h' : Nat → Int32} (e : ∀ i, i < 8 → h i = h' i) (n : Nat) (ew : ∀ k, k < n → W k = W' k) : ∀ i, i < 8 → s_rs W h n i = s_rs W' h' n i := by
  induction n with
  | zero => exact e
  | succ n ih =>
    intro i hi
    show s_r _ (W n) _ i = s_r _ (W' n) _ i
    rw [ew n (by omega)]
    exact s_r_congr (ih (fun k hk => ew k (by omega))) hi
section SH2
variable {G : ho_G} {R : ho_H} {M N : Nat} {I : Nat → Int32} {A : Nat → Nat → Int32}
theorem Md_block_l190_S {k : Nat} (hk : k < 64) (hN : 64 < N) : f_Md_block_l190 G N M (md G R M I A, ii k) = some (.inl (md G R M I (upA A 4 (s_r (A 0 k) (A 2 k) (A 4))), ii (k + 1))) := by
  have e0 : ((64 : Int32) ≤ ii k) = False := by rw [show (64 : Int32) = ii 64 from rfl, ii_le (by decide) (by omega)]; exact eq_false (by omega)
  have a4 : ii k + ii 1 = ii (k + 1) := ii_add _ 1
  simp only [f_Md_block_l190, e0, ↓reduceIte, f_Md_turned, md_r4, md_r0, md_r2, bd_S, li0, li1, li2, li4, li5, li6, li7, md_ld4 (show 0 < 8 by decide), md_ld4 (show 1 < 8 by decide), md_ld4 (show 2 < 8 by decide), md_ld4 (show 4 < 8 by decide), md_ld4 (show 5 < 8 by decide), md_ld4 (show 6 < 8 by decide), md_ld4 (show 7 < 8 by decide), md_ld0 hk, md_ld2 hk]
  rw [show ii 7 = 7 from rfl, Md_block_s hN]
  simp only [bd_S, md_r4, md_ld4 (show 4 < 8 by decide), md_st4 (show 4 < 8 by decide), md_st4 (show 0 < 8 by decide), a4, upA_upA, upA_eq]
  congr 5
  funext i
  unfold upd
  match i with
  | 0 => rfl
  | 1 => rfl
  | 2 => rfl
  | 3 => rfl
  | 4 => rfl
  | 5 => rfl
  | 6 => rfl
  | 7 => rfl
  | n + 8 =>
    rw [if_neg (by omega), if_neg (by omega), s_r_ge (by omega)]
    unfold s_sh
    rw [if_neg (by omega)]
theorem Md_block_r (hc : ∀ k, k < 64 → A 0 k = tb1.getD k 0) (hN : 64 < N) : ho_it (f_Md_block_l190 G N M) N (md G R M I A, 0) = some (md G R M I (upA A 4 (s_rs (A 2) (A 4) 64))) := by
  refine it_for 64 (fun k => (md G R M I (upA A 4 (s_rs (A 2) (A 4) k)), ii k)) _ (fun k hk => ?_) ?_ hN (by show _ = (md G R M I (upA A 4 (A 4)), _); rw [upA_self]; rfl)
  · rw [Md_block_l190_S hk hN, upA_upA, upA_eq, upA_ne (by decide), upA_ne (by decide), hc k hk]
    rfl
  · simp only [f_Md_block_l190]
    rw [if_pos (show (64 : Int32) ≤ ii 64 by decide)]
theorem Md_block_S {fr : Nat} (hc : ∀ k, k < 64 → A 0 k = tb1.getD k 0) (hf : fr + 64 ≤ 256) (hN : 64 < N) : ∃ A', f_Md_block G N (md G R M I A) M (ii fr) = some (md G R M I A') ∧ (∀ i, i < 8 → A' 3 i = s_bl (fun k => s_wd (A 5) (fr + 4 * k)) (A 3) i) ∧ ∀ j, j ≠ 2 → j ≠ 3 → j ≠ 4 → A' j = A j := by
  unfold f_Md_block
  rw [Md_block_w hf hN, bd_S, Md_block_c hN, bd_S, Md_block_r (fun k hk => by rw [upA_ne (by decide), upA_ne (by decide)]; exact hc k hk) hN, bd_S, Md_block_a hN, bd_S]
  refine ⟨_, rfl, ?_, ?_⟩
  · intro i hi
    rw [upA_eq, ovr_lt hi]
    show upA _ 4 _ 3 i + upA _ 4 _ 4 i = _
    rw [upA_eq, upA_ne (by decide), upA_ne (by decide), upA_ne (by decide)]
    unfold s_bl
    refine congrArg (fun z => A 3 i + z) (s_rs_congr ?_ 64 ?_ i hi)
    · intro q hq
      rw [ovr_lt hq]
    · intro k hk
      rw [upA_ne (by decide), upA_eq, ovr_lt hk]
  · intro j h2 h3 h4
    rw [upA_ne h3, upA_ne h4, upA_ne h4, upA_ne h2]
end SH2
