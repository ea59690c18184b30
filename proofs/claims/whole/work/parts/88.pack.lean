/-! the model makes a packet -/
section PA
variable {G : ho_G} {R : ho_H} {M N : Nat} {I : Nat → Int32} {A : Nat → Nat → Int32}
theorem pa_8 {x y : Int32} {g : Nat} (hN : 301 < N) : ho_it (f_Md_pack_l8 G N M x y (ii g)) N (md G R M I A, 0) = some (md G R M I (upA A 37 (ovr (s_by (ii g)) (A 37) 4))) := by
  refine it_for 4 (fun k => (md G R M I (upA A 37 (ovr (s_by (ii g)) (A 37) k)), ii k)) _ (fun k hk => ?_) ?_ (by omega) (by rw [upA_up0]; rfl)
  · have e6 : (24 : Int32) - 8 * ii k = ii (24 - 8 * k) := by rw [show (8 : Int32) = ii 8 from rfl, show (24 : Int32) = ii 24 from rfl, ii_mul, ii_sub (by omega)]
    unfold f_Md_pack_l8 f_Md_byteOf
    dsimp only
    rw [if_neg (by rw [show (4 : Int32) = ii 4 from rfl, ii_le (by decide) (by omega)]; omega), md_r37, bd_S, e6, bd_S, md_st37 (by omega), bd_S, ii_1, upA_upA, upA_eq, show upd (ovr (s_by (ii g)) (A 37) k) k (ho_sr (ii g) (ii (24 - 8 * k)) &&& 255) = ovr (s_by (ii g)) (A 37) (k + 1) from ovr_up rfl]
  · unfold f_Md_pack_l8
    dsimp only
    rw [if_pos (by decide)]
theorem rm_nu {g : Nat} (h1 : 1 ≤ g) (h2 : g ≤ 512) : ho_rm (ii g - 1) 64 + 1 = ii (nu g) := by
  unfold nu
  rw [show ii g - 1 = ii (g - 1) from ii_sub (b := 1) h1, show (64 : Int32) = ii 64 from rfl, ii_rm (by omega) (by decide)]
  exact ii_add _ 1
theorem pa_56 {x : Int32} {g : Nat} (h1 : 1 ≤ g) (h2 : g ≤ 512) (hN : 301 < N) : ho_it (f_Md_pack_l56 G N M x (ii g) (ii (ch g))) N (md G R M I A, 0) = some (md G R M I (upA A 38 (ovr (fun i => A 20 (1300 * ch g + 20 * nu g + i)) (A 38) 20))) := by
  have c8 : ch g < 8 := ch_lt h2
  have n64 : nu g ≤ 64 := nu_le
  refine it_for 20 (fun k => (md G R M I (upA A 38 (ovr (fun i => A 20 (1300 * ch g + 20 * nu g + i)) (A 38) k)), ii k)) _ (fun k hk => ?_) ?_ (by omega) (by rw [upA_up0]; rfl)
  · unfold f_Md_pack_l56
    dsimp only
    rw [if_neg (by rw [li20, ii_le (by decide) (by omega)]; omega), md_r38, bd_S, md_f, bd_S, rm_nu h1 h2, keyAt_S (by omega), bd_S, md_st38 (by omega), bd_S, ii_1, upA_upA, upA_eq, upA_ne (by decide), ovr_up rfl]
  · unfold f_Md_pack_l56
    dsimp only
    rw [if_pos (by decide)]
theorem pa_103 {n : Nat} {y : Int32} (hn : n ≤ 32) (hN : 301 < N) : ho_it (f_Md_pack_l103 G N M (ii n) y) N (md G R M I A, 0) = some (md G R M I (upA A 37 (s_cp (A 37) (A 11) (6 + n) 10))) := by
  refine it_for 10 (fun k => (md G R M I (upA A 37 (s_cp (A 37) (A 11) (6 + n) k)), ii k)) _ (fun k hk => ?_) ?_ (by omega) (by rw [s_cp_0, upA_self]; rfl)
  · have a3 : (6 + ii n) + ii k = ii (6 + n + k) := by rw [show (6 : Int32) = ii 6 from rfl, ii_add, ii_add]
    unfold f_Md_pack_l103
    dsimp only
    rw [if_neg (by rw [show (10 : Int32) = ii 10 from rfl, ii_le (by decide) (by omega)]; omega), md_r37, bd_S, md_r11, bd_S, md_ld11 (by omega), bd_S, a3, md_st37 (by omega), bd_S, ii_1, upA_upA, upA_eq, upA_ne (by decide), s_cp_up rfl]
  · unfold f_Md_pack_l103
    dsimp only
    rw [if_pos (by decide)]
theorem pa_146 {n g lag : Nat} (hn : n ≤ 32) (hg : g ≤ 512) (hl : lag ≤ 8) (hN : 301 < N) : ho_it (f_Md_pack_l146 G N M (ii n) (ii g - ii lag)) N (md G R M I A, 0) = some (md G R M I (upA A 37 (s_cp (A 37) (fun i => if g ≤ lag then 0 else A 20 (1300 * ch (g - lag) + 20 * nu (g - lag) + i)) (16 + n) 20))) := by
  refine it_for 20 (fun k => (md G R M I (upA A 37 (s_cp (A 37) (fun i => if g ≤ lag then 0 else A 20 (1300 * ch (g - lag) + 20 * nu (g - lag) + i)) (16 + n) k)), ii k)) _ (fun k hk => ?_) ?_ (by omega) (by rw [s_cp_0, upA_self]; rfl)
  · have a3 : (16 + ii n) + ii k = ii (16 + n + k) := by rw [show (16 : Int32) = ii 16 from rfl, ii_add, ii_add]
    unfold f_Md_pack_l146 f_Md_pack_j194_in146
    dsimp only
    rw [if_neg (by rw [li20, ii_le (by decide) (by omega)]; omega), md_r37, bd_S, a3]
    by_cases h : g ≤ lag
    · rw [if_neg (sub_le1 h (by omega)), md_st37 (by omega), bd_S, ii_1, upA_upA, upA_eq, s_cp_up (by rw [if_pos h])]
    · have c8 : ch (g - lag) < 8 := ch_lt (by omega)
      have n64 : nu (g - lag) ≤ 64 := nu_le
      rw [ii_sub (by omega), if_pos (by rw [show (1 : Int32) = ii 1 from rfl, ii_le (by decide) (by omega)]; omega), mchain_S (by omega) (by omega), bd_S, md_f, bd_S, rm_nu (by omega) (by omega), keyAt_S (by omega), bd_S, md_st37 (by omega), bd_S, ii_1, upA_upA, upA_eq, upA_ne (by decide), s_cp_up (by rw [if_neg h])]
  · unfold f_Md_pack_l146
    dsimp only
    rw [if_pos (by decide)]
theorem pa_217 {n P : Nat} (h18 : I 18 = ii P) (hP : P < 200) (hn : n ≤ 32) (hN : 301 < N) : ho_it (f_Md_pack_l217 G N M (ii n)) N (md G R M I A, 0) = some (md G R M I (upA A 22 (s_cp (A 22) (A 37) (68 * P) (36 + n)))) := by
  refine it_for (36 + n) (fun k => (md G R M I (upA A 22 (s_cp (A 22) (A 37) (68 * P) k)), ii k)) _ (fun k hk => ?_) ?_ (by omega) (by rw [s_cp_0, upA_self]; rfl)
  · have a3 : 68 * ii P + ii k = ii (68 * P + k) := by rw [show (68 : Int32) = ii 68 from rfl, ii_mul, ii_add]
    unfold f_Md_pack_l217
    dsimp only
    rw [if_neg (by rw [show (36 : Int32) = ii 36 from rfl, ii_add, ii_le (by omega) (by omega)]; omega), md_r22, bd_S, md_i18, bd_S, h18, md_r37, bd_S, md_ld37 (by omega), bd_S, a3, md_st22 (by omega), bd_S, ii_1, upA_upA, upA_eq, upA_ne (by decide), s_cp_up rfl]
  · unfold f_Md_pack_l217
    dsimp only
    rw [if_pos (by rw [show (36 : Int32) = ii 36 from rfl, ii_add, ii_le (by omega) (by omega)]; exact Nat.le_refl _)]
theorem pack_S {n P g lag : Nat} {kd : Int32} {body : Nat → Int32} (hiv : ∀ R A, f_Md_interval G N (md G R M I A) M = some (ii g)) (h13 : I 13 = ii lag) (h18 : I 18 = ii P) (hP : P < 200) (hn : n ≤ 32) (hg1 : 1 ≤ g) (hg2 : g ≤ 512) (hl : lag ≤ 8) (hb : ∀ i, i < n → A 37 (6 + i) = body i) (ht : mtab A) (hN : 301 < N) : ∃ I' A', f_Md_pack G N (md G R M I A) M kd (ii n) = some (md G R M I' A', ii P) ∧ (∀ j, j ∉ [6, 8, 10, 18] → I' j = I j) ∧ I' 18 = ii (P + 1) ∧ (∀ j, fre j = false → j ≠ 21 → j ≠ 22 → A' j = A j) ∧ A' 21 = upd (A 21) P (ii (36 + n)) ∧ (∀ q, q < 68 * P ∨ 68 * P + (36 + n) ≤ q → A' 22 q = A 22 q) ∧ ∃ F, pkS F g kd n body (fun i => A 20 (1300 * ch g + 20 * nu g + i)) (fun i => if g ≤ lag then 0 else A 20 (1300 * ch (g - lag) + 20 * nu (g - lag) + i)) ∧ ∀ k, k < 36 + n → A' 22 (68 * P + k) = F k := by
  unfold f_Md_pack
  rw [md_f, bd_S, hiv, bd_S, pa_8 hN, bd_S, md_r37, bd_S, show (4 : Int32) = ii 4 from rfl, md_st37 (by decide), bd_S, md_r37, bd_S, show (5 : Int32) = ii 5 from rfl, md_st37 (by decide), bd_S, mchain_S hg1 (by omega), bd_S, pa_56 hg1 hg2 hN, bd_S]
  generalize hA1 : upA (upA (upA A 37 (ovr (s_by (ii g)) (A 37) 4)) 37 (upd (upA A 37 (ovr (s_by (ii g)) (A 37) 4) 37) 4 kd)) 37 (upd (upA (upA A 37 (ovr (s_by (ii g)) (A 37) 4)) 37 (upd (upA A 37 (ovr (s_by (ii g)) (A 37) 4) 37) 4 kd) 37) 5 (ii n)) = A1
  have z1 : ∀ j, j ≠ 37 → A1 j = A j := fun j hj => by rw [← hA1, upA_ne hj, upA_ne hj, upA_ne hj]
  have c1 : A1 37 = upd (upd (ovr (s_by (ii g)) (A 37) 4) 4 kd) 5 (ii n) := by rw [← hA1, upA_eq, upA_eq, upA_eq]
  generalize hA2 : upA A1 38 (ovr (fun i => A1 20 (1300 * ch g + 20 * nu g + i)) (A1 38) 20) = A2
  have z2 : ∀ j, j ≠ 38 → A2 j = A1 j := fun j hj => by rw [← hA2, upA_ne hj]
  have e38 : ∀ i, i < 20 → A2 38 i = A 20 (1300 * ch g + 20 * nu g + i) := fun i hi => by
    rw [← hA2, upA_eq]
    unfold ovr
    rw [if_pos hi, z1 20 (by decide)]
  have t2 : mtab A2 := by
    unfold mtab
    rw [z2 0 (by decide), z2 1 (by decide), z1 0 (by decide), z1 1 (by decide)]
    exact ht
  obtain ⟨I3, A3, d1, d2, d3, d4, d5⟩ := Md_codeOfCopy_S (G := G) (R := R) (M := M) (N := N) (I := I) (A := A2) (n := 6 + n) (by omega) t2 (by omega)
  rw [md_f, bd_S, show (6 : Int32) + ii n = ii (6 + n) from ii_add 6 n, d1, md_mono, bd_S, pa_103 hn hN, bd_S, md_i13, bd_S, (d5 13 (by decide)).trans h13, pa_146 hn hg2 hl hN, bd_S]
  have z37 : A3 37 = A1 37 := (d4 37 (by decide)).trans (z2 37 (by decide))
  have z20 : A3 20 = A 20 := ((d4 20 (by decide)).trans (z2 20 (by decide))).trans (z1 20 (by decide))
  have zf : ∀ j, fre j = false → A3 j = A j := fun j hj => by
    rw [d4 j (fun hm => fre_of hj hm), z2 j (fun e => by rw [e] at hj; cases hj), z1 j (fun e => by rw [e] at hj; cases hj)]
  -- the packet
  have hF : ∃ F, upA (upA A3 37 (s_cp (A3 37) (A3 11) (6 + n) 10)) 37 (s_cp (upA A3 37 (s_cp (A3 37) (A3 11) (6 + n) 10) 37) (fun i => if g ≤ lag then 0 else upA A3 37 (s_cp (A3 37) (A3 11) (6 + n) 10) 20 (1300 * ch (g - lag) + 20 * nu (g - lag) + i)) (16 + n) 20) 37 = F ∧ pkS F g kd n body (fun i => A 20 (1300 * ch g + 20 * nu g + i)) (fun i => if g ≤ lag then 0 else A 20 (1300 * ch (g - lag) + 20 * nu (g - lag) + i)) := by
    refine ⟨_, rfl, ?_⟩
    rw [upA_eq, upA_eq, upA_ne (show (20 : Nat) ≠ 37 by decide), z20, z37, c1]
    have lo : ∀ q, q < 6 + n → s_cp (s_cp (upd (upd (ovr (s_by (ii g)) (A 37) 4) 4 kd) 5 (ii n)) (A3 11) (6 + n) 10) (fun i => if g ≤ lag then 0 else A 20 (1300 * ch (g - lag) + 20 * nu (g - lag) + i)) (16 + n) 20 q = upd (upd (ovr (s_by (ii g)) (A 37) 4) 4 kd) 5 (ii n) q := fun q hq => by
      unfold s_cp
      rw [if_neg (by omega), if_neg (by omega)]
    refine ⟨fun q hq => ?_, ?_, ?_, fun i hi => ?_, fun i hi => ?_, fun i hi => ?_⟩
    · rw [lo q (by omega)]
      unfold upd ovr
      rw [if_neg (by omega), if_neg (by omega), if_pos hq]
    · rw [lo 4 (by omega)]
      unfold upd
      rw [if_neg (by omega), if_pos rfl]
    · rw [lo 5 (by omega)]
      unfold upd
      rw [if_pos rfl]
    · rw [lo (6 + i) (by omega)]
      unfold upd ovr
      rw [if_neg (by omega), if_neg (by omega), if_neg (by omega), hb i hi]
    · have e1 : s_cp (s_cp (upd (upd (ovr (s_by (ii g)) (A 37) 4) 4 kd) 5 (ii n)) (A3 11) (6 + n) 10) (fun i => if g ≤ lag then 0 else A 20 (1300 * ch (g - lag) + 20 * nu (g - lag) + i)) (16 + n) 20 (6 + n + i) = A3 11 i := by
        unfold s_cp
        rw [if_neg (by omega), if_pos (by omega), Nat.add_sub_cancel_left]
      rw [e1, d2 i (by omega)]
      refine s_cd_congr e38 (fun z hz => ?_) i (by omega)
      rw [lo z hz, z2 37 (by decide), c1]
    · unfold s_cp
      rw [if_pos (by omega), Nat.add_sub_cancel_left]
  obtain ⟨F, hF1, hF2⟩ := hF
  generalize hA4 : upA (upA A3 37 (s_cp (A3 37) (A3 11) (6 + n) 10)) 37 (s_cp (upA A3 37 (s_cp (A3 37) (A3 11) (6 + n) 10) 37) (fun i => if g ≤ lag then 0 else upA A3 37 (s_cp (A3 37) (A3 11) (6 + n) 10) 20 (1300 * ch (g - lag) + 20 * nu (g - lag) + i)) (16 + n) 20) = A4 at hF1
  have z4 : ∀ j, j ≠ 37 → A4 j = A3 j := fun j hj => by rw [← hA4, upA_ne hj, upA_ne hj]
  have i18 : I3 18 = ii P := (d5 18 (by decide)).trans h18
  rw [md_r21, bd_S, md_i18, bd_S, i18, show (36 : Int32) + ii n = ii (36 + n) from ii_add 36 n, md_st21 hP, bd_S, pa_217 i18 hP hn hN, bd_S, md_i18, bd_S, i18, ii_1, md_p18, bd_S, md_i18, bd_S, upI_ee, show ii (P + 1) - 1 = ii P from ii_sub (b := 1) (by omega)]
  refine ⟨_, _, rfl, fun j hj => ?_, upI_ee, fun j hj h21 h22 => ?_, ?_, fun q hq => ?_, F, hF2, fun k hk => ?_⟩
  · simp only [List.mem_cons, List.not_mem_nil, or_false, not_or] at hj
    rw [upI_nn hj.2.2.2, d5 j (by simp only [List.mem_cons, List.not_mem_nil, or_false, not_or]; exact ⟨hj.1, hj.2.1, hj.2.2.1⟩)]
  · rw [upA_ne h22, upA_ne h21, z4 j (fun e => by rw [e] at hj; cases hj), zf j hj]
  · rw [upA_ne (by decide), upA_eq, z4 21 (by decide), zf 21 rfl]
  · rw [upA_eq, upA_ne (by decide), z4 22 (by decide), zf 22 rfl]
    unfold s_cp
    rw [if_neg (by omega)]
  · rw [upA_eq, upA_ne (show (37 : Nat) ≠ 21 by decide), hF1]
    unfold s_cp
    rw [if_pos (by omega), Nat.add_sub_cancel_left]
end PA
