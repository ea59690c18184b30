/-! the model's seal -/
def s_by (w : Int32) (q : Nat) : Int32 := (ho_sr w (ii (24 - 8 * q))) &&& 255
def s_dg (f : Nat → Int32) (n : Nat) : Nat → Int32 := s_hs (fun j => s_wd (s_pd f n) (4 * j)) (s_T n / 64)
def s_ky (key : Nat → Int32) (kn : Nat) (pad : Int32) (msg : Nat → Int32) : Nat → Int32 := fun k => if k < 64 then ((if k < kn then key k else 0) ^^^ pad) else msg (k - 64)
def s_bs (w : Nat → Int32) (k : Nat) : Int32 := s_by (w (k / 4)) (k % 4)
/-- the seal's words: key of kn bytes, message of n bytes -/
def s_sl (key : Nat → Int32) (kn : Nat) (msg : Nat → Int32) (n : Nat) : Nat → Int32 := s_dg (s_ky key kn 92 (s_bs (s_dg (s_ky key kn 54 msg) (64 + n)))) 96
theorem s_pd_congr {f f' : Nat → Int32} {n : Nat} (e : ∀ k, k < n → f k = f' k) (k : Nat) : s_pd f n k = s_pd f' n k := by
  unfold s_pd
  by_cases h : k < n
  · rw [if_pos h, if_pos h, e k h]
  · rw [if_neg h, if_neg h]
theorem s_dg_congr {f f' : Nat → Int32} {n : Nat} (e : ∀ k, k < n → f k = f' k) : ∀ i, i < 8 → s_dg f n i = s_dg f' n i := by
  refine s_hs_congr _ (fun k _ => ?_)
  unfold s_wd
  rw [s_pd_congr e, s_pd_congr e, s_pd_congr e, s_pd_congr e]
theorem s_sl_congr {key key' msg msg' : Nat → Int32} {kn n : Nat} (ek : ∀ k, k < kn → key k = key' k) (em : ∀ k, k < n → msg k = msg' k) : ∀ i, i < 8 → s_sl key kn msg n i = s_sl key' kn msg' n i := by
  have hk : ∀ k, (if k < kn then key k else 0) = (if k < kn then key' k else 0) := fun k => by
    by_cases h : k < kn
    · rw [if_pos h, if_pos h, ek k h]
    · rw [if_neg h, if_neg h]
  refine s_dg_congr (fun k hk2 => ?_)
  unfold s_ky
  rw [hk k]
  by_cases h : k < 64
  · rw [if_pos h, if_pos h]
  · rw [if_neg h, if_neg h]
    unfold s_bs
    rw [s_dg_congr (f' := fun k => if k < 64 then (if k < kn then key' k else 0) ^^^ 54 else msg' (k - 64)) (fun q hq => ?_) _ (by omega)]
    rw [hk q]
    by_cases h2 : q < 64
    · rw [if_pos h2, if_pos h2]
    · rw [if_neg h2, if_neg h2, em _ (by omega)]
def s_cp (f g : Nat → Int32) (a k : Nat) : Nat → Int32 := fun q => if a ≤ q ∧ q < a + k then g (q - a) else f q
theorem s_cp_0 {f g : Nat → Int32} {a : Nat} : s_cp f g a 0 = f := by
  funext q
  unfold s_cp
  rw [if_neg (by omega)]
theorem s_cp_up {f g : Nat → Int32} {a k : Nat} {x : Int32} (hx : x = g k) : upd (s_cp f g a k) (a + k) x = s_cp f g a (k + 1) := by
  subst hx
  funext q
  unfold upd s_cp
  by_cases h : q = a + k
  · subst h
    rw [if_pos rfl, if_pos (by omega), Nat.add_sub_cancel_left]
  · rw [if_neg h]
    by_cases h2 : a ≤ q ∧ q < a + k
    · rw [if_pos h2, if_pos (by omega)]
    · rw [if_neg h2, if_neg (by omega)]
theorem upI_eq {I : Nat → Int32} {j : Nat} {x : Int32} : upI I j x j = x := if_pos rfl
theorem upI_ne {I : Nat → Int32} {j q : Nat} {x : Int32} (h : q ≠ j) : upI I j x q = I q := if_neg h
theorem upI_upI {I : Nat → Int32} {j : Nat} {x y : Int32} : upI (upI I j x) j y = upI I j y := by
  funext q
  unfold upI
  by_cases h : q = j
  · rw [if_pos h, if_pos h]
  · rw [if_neg h, if_neg h, if_neg h]
theorem s_by_md {v : Int32} {q : Nat} (hq : q < 4) : (ho_sr v (24 - (8 * ii q))) &&& 255 = s_by v q := by
  rw [show (8 : Int32) = ii 8 from rfl, ii_mul, show (24 : Int32) = ii 24 from rfl, ii_sub (by omega)]
  rfl
section SE
variable {G : ho_G} {R : ho_H} {M N : Nat} {I : Nat → Int32} {A : Nat → Nat → Int32}
theorem Md_ms_l2 {kn : Nat} (hk : I 8 = ii kn) (hkn : kn ≤ 64) (hN : 256 < N) : ho_it (f_Md_makeSeal_l2 G N M) N (md G R M I A, 0) = some (md G R M I (upA A 5 (ovr (fun k => (if k < kn then A 7 k else 0) ^^^ 54) (A 5) 64))) := by
  refine it_for 64 (fun k => (md G R M I (upA A 5 (ovr (fun k => (if k < kn then A 7 k else 0) ^^^ 54) (A 5) k)), ii k)) _ (fun k hk2 => ?_) ?_ (by omega) (by rw [upA_up0]; rfl)
  · have e0 : ((64 : Int32) ≤ ii k) = False := by rw [show (64 : Int32) = ii 64 from rfl, ii_le (by decide) (by omega)]; exact eq_false (by omega)
    have a4 : ii k + 1 = ii (k + 1) := ii_add _ 1
    by_cases h : k < kn
    · have e1 : (ii kn ≤ ii k) = False := by rw [ii_le (by omega) (by omega)]; exact eq_false (by omega)
      simp only [f_Md_makeSeal_l2, f_Md_makeSeal_j31_in2, e0, ↓reduceIte, md_r5, md_r7, md_i8, hk, e1, bd_S, md_ld7 hk2, md_st5 (show k < 256 by omega), a4]
      rw [upA_upA, upA_eq, upA_ne (by decide), ovr_up (by rw [if_pos h])]
    · have e1 : (ii kn ≤ ii k) = True := by rw [ii_le (by omega) (by omega)]; exact eq_true (by omega)
      simp only [f_Md_makeSeal_l2, f_Md_makeSeal_j31_in2, e0, ↓reduceIte, md_r5, md_i8, hk, e1, bd_S, md_st5 (show k < 256 by omega), a4]
      rw [upA_upA, upA_eq, ovr_up (by rw [if_neg h])]
  · simp only [f_Md_makeSeal_l2]
    rw [if_pos (show (64 : Int32) ≤ ii 64 by decide)]
theorem Md_ms_l123 {kn : Nat} (hk : I 8 = ii kn) (hkn : kn ≤ 64) (hN : 256 < N) : ho_it (f_Md_makeSeal_l123 G N M) N (md G R M I A, 0) = some (md G R M I (upA A 5 (ovr (fun k => (if k < kn then A 7 k else 0) ^^^ 92) (A 5) 64))) := by
  refine it_for 64 (fun k => (md G R M I (upA A 5 (ovr (fun k => (if k < kn then A 7 k else 0) ^^^ 92) (A 5) k)), ii k)) _ (fun k hk2 => ?_) ?_ (by omega) (by rw [upA_up0]; rfl)
  · have e0 : ((64 : Int32) ≤ ii k) = False := by rw [show (64 : Int32) = ii 64 from rfl, ii_le (by decide) (by omega)]; exact eq_false (by omega)
    have a4 : ii k + 1 = ii (k + 1) := ii_add _ 1
    by_cases h : k < kn
    · have e1 : (ii kn ≤ ii k) = False := by rw [ii_le (by omega) (by omega)]; exact eq_false (by omega)
      simp only [f_Md_makeSeal_l123, f_Md_makeSeal_j152_in123, e0, ↓reduceIte, md_r5, md_r7, md_i8, hk, e1, bd_S, md_ld7 hk2, md_st5 (show k < 256 by omega), a4]
      rw [upA_upA, upA_eq, upA_ne (by decide), ovr_up (by rw [if_pos h])]
    · have e1 : (ii kn ≤ ii k) = True := by rw [ii_le (by omega) (by omega)]; exact eq_true (by omega)
      simp only [f_Md_makeSeal_l123, f_Md_makeSeal_j152_in123, e0, ↓reduceIte, md_r5, md_i8, hk, e1, bd_S, md_st5 (show k < 256 by omega), a4]
      rw [upA_upA, upA_eq, ovr_up (by rw [if_neg h])]
  · simp only [f_Md_makeSeal_l123]
    rw [if_pos (show (64 : Int32) ≤ ii 64 by decide)]
theorem Md_ms_l43 {n : Nat} (hI : I 10 = ii n) (hn : n ≤ 64) (hN : 256 < N) : ho_it (f_Md_makeSeal_l43 G N M) N (md G R M I A, 0) = some (md G R M I (upA A 5 (s_cp (A 5) (A 9) 64 n))) := by
  refine it_for n (fun k => (md G R M I (upA A 5 (s_cp (A 5) (A 9) 64 k)), ii k)) _ (fun k hk => ?_) ?_ (by omega) (by rw [s_cp_0, upA_self]; rfl)
  · have e0 : (ii n ≤ ii k) = False := by rw [ii_le (by omega) (by omega)]; exact eq_false (by omega)
    have a4 : ii k + 1 = ii (k + 1) := ii_add _ 1
    have a5 : 64 + ii k = ii (64 + k) := ii_add 64 k
    simp only [f_Md_makeSeal_l43, md_i10, hI, e0, ↓reduceIte, md_r5, md_r9, bd_S, md_ld9 (show k < 64 by omega), a5, md_st5 (show 64 + k < 256 by omega), a4]
    rw [upA_upA, upA_eq, upA_ne (by decide), s_cp_up rfl]
  · simp only [f_Md_makeSeal_l43, md_i10, hI, bd_S]
    rw [if_pos (by rw [ii_le (by omega) (by omega)]; exact Nat.le_refl _)]
theorem Md_ms_l164 (hN : 256 < N) : ho_it (f_Md_makeSeal_l164 G N M) N (md G R M I A, 0) = some (md G R M I (upA A 5 (s_cp (A 5) (A 11) 64 32))) := by
  refine it_for 32 (fun k => (md G R M I (upA A 5 (s_cp (A 5) (A 11) 64 k)), ii k)) _ (fun k hk => ?_) ?_ (by omega) (by rw [s_cp_0, upA_self]; rfl)
  · have e0 : ((32 : Int32) ≤ ii k) = False := by rw [show (32 : Int32) = ii 32 from rfl, ii_le (by decide) (by omega)]; exact eq_false (by omega)
    have a4 : ii k + 1 = ii (k + 1) := ii_add _ 1
    have a5 : 64 + ii k = ii (64 + k) := ii_add 64 k
    simp only [f_Md_makeSeal_l164, e0, ↓reduceIte, md_r5, md_r11, bd_S, md_ld11 (show k < 32 by omega), a5, md_st5 (show 64 + k < 256 by omega), a4]
    rw [upA_upA, upA_eq, upA_ne (by decide), s_cp_up rfl]
  · simp only [f_Md_makeSeal_l164]
    rw [if_pos (show (32 : Int32) ≤ ii 32 by decide)]
theorem Md_ms_l89 (hN : 256 < N) : ho_it (f_Md_makeSeal_l89 G N M) N (md G R M I A, 0) = some (md G R M I (upA A 11 (ovr (s_bs (A 3)) (A 11) 32))) := by
  refine it_for 32 (fun k => (md G R M I (upA A 11 (ovr (s_bs (A 3)) (A 11) k)), ii k)) _ (fun k hk => ?_) ?_ (by omega) (by rw [upA_up0]; rfl)
  · have e0 : ((32 : Int32) ≤ ii k) = False := by rw [show (32 : Int32) = ii 32 from rfl, ii_le (by decide) (by omega)]; exact eq_false (by omega)
    have a4 : ii k + 1 = ii (k + 1) := ii_add _ 1
    have a5 : ii k / 4 = ii (k / 4) := ii_div (b := 4) (by omega) (by decide)
    have a6 : ho_rm (ii k) 4 = ii (k % 4) := ii_rm (b := 4) (by omega) (by decide)
    simp only [f_Md_makeSeal_l89, f_Md_byteOf, e0, ↓reduceIte, md_r3, md_r11, bd_S, a5, a6, md_ld3 (show k / 4 < 8 by omega), s_by_md (show k % 4 < 4 by omega), md_st11 hk, a4]
    rw [upA_upA, upA_eq, upA_ne (by decide), ovr_up (f := s_bs (A 3)) (x := s_by (A 3 (k / 4)) (k % 4)) rfl]
  · simp only [f_Md_makeSeal_l89]
    rw [if_pos (show (32 : Int32) ≤ ii 32 by decide)]
theorem Md_ms_l203 (hN : 256 < N) : ho_it (f_Md_makeSeal_l203 G N M) N (md G R M I A, 0) = some (md G R M I (upA A 11 (ovr (s_bs (A 3)) (A 11) 32))) := by
  refine it_for 32 (fun k => (md G R M I (upA A 11 (ovr (s_bs (A 3)) (A 11) k)), ii k)) _ (fun k hk => ?_) ?_ (by omega) (by rw [upA_up0]; rfl)
  · have e0 : ((32 : Int32) ≤ ii k) = False := by rw [show (32 : Int32) = ii 32 from rfl, ii_le (by decide) (by omega)]; exact eq_false (by omega)
    have a4 : ii k + 1 = ii (k + 1) := ii_add _ 1
    have a5 : ii k / 4 = ii (k / 4) := ii_div (b := 4) (by omega) (by decide)
    have a6 : ho_rm (ii k) 4 = ii (k % 4) := ii_rm (b := 4) (by omega) (by decide)
    simp only [f_Md_makeSeal_l203, f_Md_byteOf, e0, ↓reduceIte, md_r3, md_r11, bd_S, a5, a6, md_ld3 (show k / 4 < 8 by omega), s_by_md (show k % 4 < 4 by omega), md_st11 hk, a4]
    rw [upA_upA, upA_eq, upA_ne (by decide), ovr_up (f := s_bs (A 3)) (x := s_by (A 3 (k / 4)) (k % 4)) rfl]
  · simp only [f_Md_makeSeal_l203]
    rw [if_pos (show (32 : Int32) ≤ ii 32 by decide)]
theorem Md_digestRow_D {n : Nat} (hn : n ≤ 110) (hI : I 6 = ii n) (hc : ∀ k, k < 64 → A 0 k = tb1.getD k 0) (h1 : ∀ i, i < 8 → A 1 i = tb0.getD i 0) (hN : 256 < N) : ∃ A', f_Md_digestRow G N (md G R M I A) M = some (md G R M I A') ∧ (∀ i, i < 8 → A' 3 i = s_dg (A 5) n i) ∧ ∀ j, j ≠ 2 → j ≠ 3 → j ≠ 4 → j ≠ 5 → A' j = A j := by
  unfold s_dg
  exact Md_digestRow_S hn hI hc h1 hN
/-- the tables in the model -/
def mtab (A : Nat → Nat → Int32) : Prop := (∀ k, k < 64 → A 0 k = tb1.getD k 0) ∧ ∀ i, i < 8 → A 1 i = tb0.getD i 0
theorem Md_makeSeal_S {kn n : Nat} (hk : I 8 = ii kn) (hkn : kn ≤ 64) (hI : I 10 = ii n) (hn : n ≤ 38) (ht : mtab A) (hN : 256 < N) : ∃ A', f_Md_makeSeal G N (md G R M I A) M = some (md G R M (upI I 6 96) A') ∧ (∀ k, k < 32 → A' 11 k = s_bs (s_sl (A 7) kn (A 9) n) k) ∧ ∀ j, j ≠ 2 → j ≠ 3 → j ≠ 4 → j ≠ 5 → j ≠ 11 → A' j = A j := by
  have a0 : 64 + ii n = ii (64 + n) := ii_add 64 n
  unfold f_Md_makeSeal
  rw [Md_ms_l2 hk hkn hN, bd_S, Md_ms_l43 hI (by omega) hN, bd_S, md_i10, hI, bd_S, a0, md_p6, bd_S, md_f, bd_S]
  simp only [upA_upA, upA_eq]
  rw [show upA A 5 (ovr (fun k => (if k < kn then A 7 k else 0) ^^^ 54) (A 5) 64) 9 = A 9 from upA_ne (by decide)]
  obtain ⟨A1, g1, g2, g3⟩ := Md_digestRow_D (G := G) (R := R) (M := M) (N := N) (I := upI I 6 (ii (64 + n))) (A := upA A 5 (s_cp (ovr (fun k => (if k < kn then A 7 k else 0) ^^^ 54) (A 5) 64) (A 9) 64 n)) (n := 64 + n) (by omega) upI_eq (fun k hk => by rw [upA_ne (by decide)]; exact ht.1 k hk) (fun k hk => by rw [upA_ne (by decide)]; exact ht.2 k hk) hN
  have k7 : A1 7 = A 7 := (g3 7 (by decide) (by decide) (by decide) (by decide)).trans (upA_ne (by decide))
  rw [g1, md_mono, bd_S, Md_ms_l89 hN, bd_S, Md_ms_l123 (kn := kn) ((upI_ne (by decide)).trans hk) hkn hN, bd_S, Md_ms_l164 hN, bd_S, md_p6, bd_S, md_f, bd_S, upI_upI]
  simp only [upA_upA, upA_eq]
  obtain ⟨A2, f1, f2, f3⟩ := Md_digestRow_D (G := G) (R := R) (M := M) (N := N) (I := upI I 6 96) (A := upA (upA A1 11 (ovr (s_bs (A1 3)) (A1 11) 32)) 5 (s_cp (ovr (fun k => (if k < kn then upA A1 11 (ovr (s_bs (A1 3)) (A1 11) 32) 7 k else 0) ^^^ 92) (upA A1 11 (ovr (s_bs (A1 3)) (A1 11) 32) 5) 64) (upA (upA A1 11 (ovr (s_bs (A1 3)) (A1 11) 32)) 5 (ovr (fun k => (if k < kn then upA A1 11 (ovr (s_bs (A1 3)) (A1 11) 32) 7 k else 0) ^^^ 92) (upA A1 11 (ovr (s_bs (A1 3)) (A1 11) 32) 5) 64) 11) 64 32)) (n := 96) (by decide) upI_eq (fun k hk => by rw [upA_ne (by decide), upA_ne (by decide), g3 0 (by decide) (by decide) (by decide) (by decide), upA_ne (by decide)]; exact ht.1 k hk) (fun k hk => by rw [upA_ne (by decide), upA_ne (by decide), g3 1 (by decide) (by decide) (by decide) (by decide), upA_ne (by decide)]; exact ht.2 k hk) hN
  rw [f1, md_mono, bd_S, Md_ms_l203 hN, bd_S]
  refine ⟨_, rfl, fun k hk2 => ?_, fun j q2 q3 q4 q5 q11 => ?_⟩
  · rw [upA_eq, ovr_lt hk2]
    unfold s_bs
    rw [f2 _ (by omega)]
    unfold s_sl
    refine congrArg (fun z => s_by z (k % 4)) (s_dg_congr ?_ _ (by omega))
    intro q hq
    rw [upA_eq]
    unfold s_cp s_ky
    by_cases h : q < 64
    · rw [if_neg (by omega), if_pos h, ovr_lt h, upA_ne (by decide), k7]
    · rw [if_pos (by omega), if_neg h, upA_ne (by decide), upA_eq, ovr_lt (by omega)]
      unfold s_bs
      rw [g2 _ (by omega)]
      refine congrArg (fun z => s_by z ((q - 64) % 4)) (s_dg_congr ?_ _ (by omega))
      intro z hz
      rw [upA_eq]
      unfold s_cp
      by_cases h2 : z < 64
      · rw [if_neg (by omega), if_pos h2, ovr_lt h2]
      · rw [if_pos (by omega), if_neg h2]
  · rw [upA_ne q11, f3 j q2 q3 q4 q5, upA_ne q5, upA_ne q11, g3 j q2 q3 q4 q5, upA_ne q5]
end SE
