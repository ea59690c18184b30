/-! SHA-256 as functions; the model's block -/
def s_s0 (v : Int32) : Int32 := (((ho_ur v 7) ||| (ho_sl v 25)) ^^^ ((ho_ur v 18) ||| (ho_sl v 14))) ^^^ (ho_ur v 3)
def s_s1 (v : Int32) : Int32 := (((ho_ur v 17) ||| (ho_sl v 15)) ^^^ ((ho_ur v 19) ||| (ho_sl v 13))) ^^^ (ho_ur v 10)
def s_w (r : Nat → Int32) (k : Nat) : Int32 := if k < 16 then r k else ((s_w r (k - 16) + s_w r (k - 7)) + s_s0 (s_w r (k - 15))) + s_s1 (s_w r (k - 2))
  termination_by k
  decreasing_by all_goals omega
def s_t (kc w : Int32) (h : Nat → Int32) : Int32 := (((h 7 + ((((ho_ur (h 4) 6) ||| (ho_sl (h 4) 26)) ^^^ ((ho_ur (h 4) 11) ||| (ho_sl (h 4) 21))) ^^^ ((ho_ur (h 4) 25) ||| (ho_sl (h 4) 7)))) + ((h 4 &&& h 5) ||| ((h 4 ^^^ (-1)) &&& h 6))) + kc) + w
def s_u (h : Nat → Int32) : Int32 := ((((ho_ur (h 0) 2) ||| (ho_sl (h 0) 30)) ^^^ ((ho_ur (h 0) 13) ||| (ho_sl (h 0) 19))) ^^^ ((ho_ur (h 0) 22) ||| (ho_sl (h 0) 10))) + (((h 0 &&& h 1) ^^^ (h 0 &&& h 2)) ^^^ (h 1 &&& h 2))
def s_r (kc w : Int32) (h : Nat → Int32) : Nat → Int32 := fun i => match i with
  | 0 => s_t kc w h + s_u h
  | 1 => h 0
  | 2 => h 1
  | 3 => h 2
  | 4 => h 3 + s_t kc w h
  | 5 => h 4
  | 6 => h 5
  | 7 => h 6
  | n + 8 => h (n + 8)
def s_rs (W : Nat → Int32) (h : Nat → Int32) : Nat → Nat → Int32
  | 0 => h
  | n + 1 => s_r (tb1.getD n 0) (W n) (s_rs W h n)
/-- a block of 16 words r, on the words h -/
def s_bl (r h : Nat → Int32) : Nat → Int32 := fun i => h i + s_rs (s_w r) h 64 i
def s_wd (f : Nat → Int32) (i : Nat) : Int32 := (((ho_sl (f i) 24) ||| (ho_sl (f (i + 1)) 16)) ||| (ho_sl (f (i + 2)) 8)) ||| f (i + 3)
/-- the first n of f, behind them g -/
def ovr (f g : Nat → Int32) (n : Nat) : Nat → Int32 := fun k => if k < n then f k else g k
theorem ovr_lt {f g : Nat → Int32} {n k : Nat} (h : k < n) : ovr f g n k = f k := if_pos h
theorem ovr_ge {f g : Nat → Int32} {n k : Nat} (h : ¬ k < n) : ovr f g n k = g k := if_neg h
theorem ovr_0 {f g : Nat → Int32} : ovr f g 0 = g := by funext k; exact if_neg (Nat.not_lt_zero k)
theorem ovr_up {f g : Nat → Int32} {n : Nat} {x : Int32} (h : x = f n) : upd (ovr f g n) n x = ovr f g (n + 1) := by
  funext k
  subst h
  unfold upd ovr
  by_cases hk : k = n
  · subst hk; simp
  · by_cases h2 : k < n
    · simp [hk, h2, Nat.lt_succ_of_lt h2]
    · simp [hk, h2, show ¬ k < n + 1 by omega]
theorem upA_up0 {A : Nat → Nat → Int32} {j : Nat} {f : Nat → Int32} : upA A j (ovr f (A j) 0) = A := by rw [ovr_0, upA_self]
section SH
variable {G : ho_G} {R : ho_H} {M N : Nat} {I : Nat → Int32} {A : Nat → Nat → Int32}
theorem Md_block_l2a {fr k : Nat} (hf : fr + 64 ≤ 256) (hk : k < 16) : f_Md_block_l2 G N M (ii fr) (md G R M I A, ii k) = some (.inl (md G R M I (upA A 2 (upd (A 2) k (s_wd (A 5) (fr + 4 * k)))), ii (k + 1))) := by
  have e0 : ((64 : Int32) ≤ ii k) = False := by rw [show (64 : Int32) = ii 64 from rfl, ii_le (by decide) (by omega)]; exact eq_false (by omega)
  have e1 : ((16 : Int32) ≤ ii k) = False := by rw [show (16 : Int32) = ii 16 from rfl, ii_le (by decide) (by omega)]; exact eq_false (by omega)
  have a0 : ii fr + 4 * ii k = ii (fr + 4 * k) := by rw [show (4 : Int32) = ii 4 from rfl, ii_mul, ii_add]
  have a1 : ii (fr + 4 * k) + 1 = ii (fr + 4 * k + 1) := ii_add _ 1
  have a2 : ii (fr + 4 * k) + 2 = ii (fr + 4 * k + 2) := ii_add _ 2
  have a3 : ii (fr + 4 * k) + 3 = ii (fr + 4 * k + 3) := ii_add _ 3
  have a4 : ii k + 1 = ii (k + 1) := ii_add _ 1
  simp only [f_Md_block_l2, f_Md_block_j156_in2, e0, e1, ↓reduceIte, md_r2, md_r5, bd_S, a0, a1, a2, a3, a4, md_ld5 (show fr + 4 * k < 256 by omega), md_ld5 (show fr + 4 * k + 1 < 256 by omega), md_ld5 (show fr + 4 * k + 2 < 256 by omega), md_ld5 (show fr + 4 * k + 3 < 256 by omega), md_st2 (show k < 64 by omega), s_wd]
theorem Md_block_l2b {fr k : Nat} (hk : 16 ≤ k) (hk2 : k < 64) : f_Md_block_l2 G N M (ii fr) (md G R M I A, ii k) = some (.inl (md G R M I (upA A 2 (upd (A 2) k (((A 2 (k - 16) + A 2 (k - 7)) + s_s0 (A 2 (k - 15))) + s_s1 (A 2 (k - 2))))), ii (k + 1))) := by
  have e0 : ((64 : Int32) ≤ ii k) = False := by rw [show (64 : Int32) = ii 64 from rfl, ii_le (by decide) (by omega)]; exact eq_false (by omega)
  have e1 : ((16 : Int32) ≤ ii k) = True := by rw [show (16 : Int32) = ii 16 from rfl, ii_le (by decide) (by omega)]; exact eq_true (by omega)
  have a1 : ii k - 15 = ii (k - 15) := ii_sub (b := 15) (by omega)
  have a2 : ii k - 2 = ii (k - 2) := ii_sub (b := 2) (by omega)
  have a3 : ii k - 16 = ii (k - 16) := ii_sub (b := 16) (by omega)
  have a5 : ii k - 7 = ii (k - 7) := ii_sub (b := 7) (by omega)
  have a4 : ii k + 1 = ii (k + 1) := ii_add _ 1
  simp only [f_Md_block_l2, f_Md_block_j156_in2, f_Md_turned, e0, e1, ↓reduceIte, md_r2, md_r5, bd_S, a1, a2, a3, a4, a5, md_ld2 (show k - 15 < 64 by omega), md_ld2 (show k - 2 < 64 by omega), md_ld2 (show k - 16 < 64 by omega), md_ld2 (show k - 7 < 64 by omega), md_st2 (show k < 64 by omega)]
  rfl
theorem Md_block_w {fr : Nat} (hf : fr + 64 ≤ 256) (hN : 64 < N) : ho_it (f_Md_block_l2 G N M (ii fr)) N (md G R M I A, 0) = some (md G R M I (upA A 2 (ovr (s_w fun k => s_wd (A 5) (fr + 4 * k)) (A 2) 64))) := by
  refine it_for 64 (fun k => (md G R M I (upA A 2 (ovr (s_w fun k => s_wd (A 5) (fr + 4 * k)) (A 2) k)), ii k)) _ (fun k hk => ?_) ?_ hN (by rw [upA_up0]; rfl)
  · by_cases h : k < 16
    · rw [Md_block_l2a hf h, upA_upA, upA_eq, upA_ne (by decide), ovr_up]
      rw [s_w, if_pos h]
    · rw [Md_block_l2b (by omega) hk, upA_upA, upA_eq, ovr_up]
      rw [ovr_lt (by omega), ovr_lt (by omega), ovr_lt (by omega), ovr_lt (by omega)]
      conv => rhs; rw [s_w, if_neg h]
  · simp only [f_Md_block_l2]
    rw [if_pos (show (64 : Int32) ≤ ii 64 by decide)]
theorem Md_block_c (hN : 64 < N) : ho_it (f_Md_block_l164 G N M) N (md G R M I A, 0) = some (md G R M I (upA A 4 (ovr (A 3) (A 4) 8))) := by
  refine it_for 8 (fun k => (md G R M I (upA A 4 (ovr (A 3) (A 4) k)), ii k)) _ (fun k hk => ?_) ?_ (by omega) (by rw [upA_up0]; rfl)
  · have e0 : ((8 : Int32) ≤ ii k) = False := by rw [show (8 : Int32) = ii 8 from rfl, ii_le (by decide) (by omega)]; exact eq_false (by omega)
    have a4 : ii k + 1 = ii (k + 1) := ii_add _ 1
    simp only [f_Md_block_l164, e0, ↓reduceIte, md_r3, md_r4, bd_S, md_ld3 (show k < 8 by omega), md_st4 (show k < 8 by omega), a4]
    rw [upA_upA, upA_eq, upA_ne (by decide), ovr_up rfl]
  · simp only [f_Md_block_l164]
    rw [if_pos (show (8 : Int32) ≤ ii 8 by decide)]
theorem Md_block_a (hN : 64 < N) : ho_it (f_Md_block_l395 G N M) N (md G R M I A, 0) = some (md G R M I (upA A 3 (ovr (fun i => A 3 i + A 4 i) (A 3) 8))) := by
  refine it_for 8 (fun k => (md G R M I (upA A 3 (ovr (fun i => A 3 i + A 4 i) (A 3) k)), ii k)) _ (fun k hk => ?_) ?_ (by omega) (by rw [upA_up0]; rfl)
  · have e0 : ((8 : Int32) ≤ ii k) = False := by rw [show (8 : Int32) = ii 8 from rfl, ii_le (by decide) (by omega)]; exact eq_false (by omega)
    have a4 : ii k + 1 = ii (k + 1) := ii_add _ 1
    simp only [f_Md_block_l395, e0, ↓reduceIte, md_r3, md_r4, bd_S, md_ld3 (show k < 8 by omega), md_ld4 (show k < 8 by omega), md_st3 (show k < 8 by omega), a4]
    rw [upA_upA, upA_eq, upA_ne (by decide), ovr_up (by rw [ovr_ge (by omega)])]
  · simp only [f_Md_block_l395]
    rw [if_pos (show (8 : Int32) ≤ ii 8 by decide)]
/-- state[7..1] := state[6..0], n of them done -/
def s_sh (h : Nat → Int32) (n : Nat) : Nat → Int32 := fun i => if 7 - n < i ∧ i ≤ 7 then h (i - 1) else h i
theorem Md_block_s {x y z : Int32} (hN : 64 < N) : ho_it (f_Md_block_l338_in190 G N M x y z) N (md G R M I A, 7) = some (md G R M I (upA A 4 (s_sh (A 4) 7))) := by
  refine it_for 7 (fun k => (md G R M I (upA A 4 (s_sh (A 4) k)), ii (7 - k))) _ (fun k hk => ?_) ?_ (by omega) ?_
  · have e0 : (ii (7 - k) ≤ (0 : Int32)) = False := by rw [show (0 : Int32) = ii 0 from rfl, ii_le (by omega) (by decide)]; exact eq_false (by omega)
    have a1 : ii (7 - k) - 1 = ii (7 - k - 1) := ii_sub (b := 1) (by omega)
    have a2 : ii (7 - k) + (-1) = ii (7 - (k + 1)) := by
      rw [show (-1 : Int32) = -(ii 1) from rfl, ← Int32.sub_eq_add_neg, ii_sub (by omega)]
      rfl
    simp only [f_Md_block_l338_in190, e0, ↓reduceIte, md_r4, bd_S, a1, a2, md_ld4 (show 7 - k - 1 < 8 by omega), md_st4 (show 7 - k < 8 by omega)]
    rw [upA_upA, upA_eq]
    congr 5
    funext i
    unfold upd s_sh
    by_cases h1 : i = 7 - k
    · rw [if_pos h1, if_neg (by omega), if_pos (by omega)]
      congr 1
      omega
    · rw [if_neg h1]
      by_cases h2 : 7 - k < i ∧ i ≤ 7
      · rw [if_pos h2, if_pos (by omega)]
      · rw [if_neg h2, if_neg (by omega)]
  · simp only [f_Md_block_l338_in190]
    rw [if_pos (show ii (7 - 7) ≤ (0 : Int32) by decide)]
  · rw [show s_sh (A 4) 0 = A 4 from ?_, upA_self]
    · rfl
    · funext i
      unfold s_sh
      rw [if_neg (by omega)]
end SH
