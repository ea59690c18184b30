/-! the sealer: rows of bytes as words; mix -/
def msk (f : Nat → Int32) (n : Nat) : Nat → Int32 := fun k => if k < n then f k else 0
theorem msk_lt {f : Nat → Int32} {n k : Nat} (h : k < n) : msk f n k = f k := if_pos h
theorem msk_ge {f : Nat → Int32} {n k : Nat} (h : ¬ k < n) : msk f n k = 0 := if_neg h
theorem sl_z24 : ho_sl 0 24 = 0 := by decide
theorem sl_z16 : ho_sl 0 16 = 0 := by decide
theorem sl_z8 : ho_sl 0 8 = 0 := by decide
theorem sl_0 {x : Int32} : ho_sl x (ii 0) = x := by
  apply i_ext
  rw [bt_sl rfl (by decide)]
  simp
theorem s_wd_congr {f g : Nat → Int32} {i : Nat} (h0 : f i = g i) (h1 : f (i + 1) = g (i + 1)) (h2 : f (i + 2) = g (i + 2)) (h3 : f (i + 3) = g (i + 3)) : s_wd f i = s_wd g i := by
  unfold s_wd
  rw [h0, h1, h2, h3]
theorem wd_add {f : Nat → Int32} {n : Nat} : s_wd (msk f n) (4 * (n / 4)) ||| ho_sl (f n) (ii (24 - 8 * (n % 4))) = s_wd (msk f (n + 1)) (4 * (n / 4)) := by
  have hr : n % 4 = 0 ∨ n % 4 = 1 ∨ n % 4 = 2 ∨ n % 4 = 3 := by omega
  have hq : n = 4 * (n / 4) + n % 4 := by omega
  generalize n / 4 = q at hq ⊢
  unfold s_wd
  rcases hr with h | h | h | h
  · rw [h] at hq ⊢
    have hq : n = 4 * q := hq
    subst hq
    rw [msk_ge (by omega), msk_ge (by omega), msk_ge (by omega), msk_ge (by omega), msk_lt (by omega), msk_ge (by omega), msk_ge (by omega), msk_ge (by omega)]
    rw [sl_z24, sl_z16, sl_z8]
    simp only [Int32.or_zero, Int32.zero_or]
    rfl
  · rw [h] at hq ⊢
    subst hq
    rw [msk_lt (by omega), msk_ge (by omega), msk_ge (by omega), msk_ge (by omega), msk_lt (by omega), msk_lt (by omega), msk_ge (by omega), msk_ge (by omega)]
    rw [sl_z16, sl_z8]
    simp only [Int32.or_zero, Int32.zero_or]
    rfl
  · rw [h] at hq ⊢
    subst hq
    rw [msk_lt (by omega), msk_lt (by omega), msk_ge (by omega), msk_ge (by omega), msk_lt (by omega), msk_lt (by omega), msk_lt (by omega), msk_ge (by omega)]
    rw [sl_z8]
    simp only [Int32.or_zero, Int32.zero_or]
    rfl
  · rw [h] at hq ⊢
    subst hq
    rw [msk_lt (by omega), msk_lt (by omega), msk_lt (by omega), msk_ge (by omega), msk_lt (by omega), msk_lt (by omega), msk_lt (by omega), msk_lt (by omega)]
    simp only [Int32.or_zero, Int32.zero_or]
    rw [show 24 - 8 * 3 = 0 from rfl, sl_0]
/-- the row's words hold the first n bytes of f, zeros behind -/
def rowI (g f : Nat → Int32) (n : Nat) : Prop := ∀ j, j < 32 → g j = s_wd (msk f n) (4 * j)
theorem rowI.add {g f : Nat → Int32} {n : Nat} (h : rowI g f n) (hn : n < 128) {b : Int32} (hb : b = f n) : rowI (upd g (n / 4) (g (n / 4) ||| ho_sl b (ii (24 - 8 * (n % 4))))) f (n + 1) := by
  intro j hj
  subst hb
  unfold upd
  by_cases hjn : j = n / 4
  · rw [if_pos hjn, hjn, h (n / 4) (by omega), wd_add]
  · rw [if_neg hjn, h j hj]
    have e : ∀ k, k ≠ n → msk f n k = msk f (n + 1) k := by
      intro k hk
      unfold msk
      by_cases h : k < n
      · rw [if_pos h, if_pos (by omega)]
      · rw [if_neg h, if_neg (by omega)]
    exact s_wd_congr (e _ (by omega)) (e _ (by omega)) (e _ (by omega)) (e _ (by omega))
theorem rowI.pad {g f : Nat → Int32} {n : Nat} (h : rowI g (fun k => if k = n then 128 else f k) (n + 1)) (hn : n ≤ 110) : ∀ j, j < 16 * (s_T n / 64) → upd g (16 * (s_T n / 64) - 1) (ii (8 * n)) j = s_wd (s_pd f n) (4 * j) := by
  intro j hj
  have hT : s_T n = 64 * (s_T n / 64) := by unfold s_T; omega
  have hT2 : s_T n ≤ 128 := by unfold s_T; omega
  have hT3 : n + 9 ≤ s_T n := by unfold s_T; omega
  unfold upd
  by_cases hl : j = 16 * (s_T n / 64) - 1
  · rw [if_pos hl]
    have e := s_wd_bs (w := fun _ => ii (8 * n)) (j := j)
    rw [← e]
    have key : ∀ q, q < 4 → s_bs (fun _ => ii (8 * n)) (4 * j + q) = s_pd f n (4 * j + q) := by
      intro q hq
      unfold s_bs s_pd s_by
      rw [if_neg (by omega), if_neg (by omega), if_neg (by omega), show (4 * j + q) % 4 = q by omega, show 8 * (s_T n - 1 - (4 * j + q)) = 24 - 8 * q by omega]
    exact s_wd_congr (key 0 (by decide)) (key 1 (by decide)) (key 2 (by decide)) (key 3 (by decide))
  · rw [if_neg hl, h j (by omega)]
    have key : ∀ q, q < 4 → msk (fun k => if k = n then 128 else f k) (n + 1) (4 * j + q) = s_pd f n (4 * j + q) := by
      intro q hq
      unfold msk s_pd
      by_cases c1 : 4 * j + q < n
      · rw [if_pos (show 4 * j + q < n + 1 by omega), if_pos c1]
        exact if_neg (by omega)
      · rw [if_neg c1]
        by_cases c2 : 4 * j + q = n
        · rw [if_pos (show 4 * j + q < n + 1 by omega), if_pos c2]
          exact if_pos c2
        · rw [if_neg (show ¬ 4 * j + q < n + 1 by omega), if_neg c2, if_pos (by omega)]
    exact s_wd_congr (key 0 (by decide)) (key 1 (by decide)) (key 2 (by decide)) (key 3 (by decide))
/-- START and CONSTANTS as the sealer reads them -/
def stab (G : ho_G) (R : ho_H) (S : Nat) : Prop := ∃ f0 f1 : Nat → Int32, (∀ L B, ho_rI G (sl G R S L B) (gA G 0) = some (8, f0)) ∧ (∀ L B, ho_rI G (sl G R S L B) (gA G 1) = some (64, f1)) ∧ (∀ k, k < 8 → f0 k = tb0.getD k 0) ∧ ∀ k, k < 64 → f1 k = tb1.getD k 0
section SM
variable {G : ho_G} {R : ho_H} {S N : Nat} {L : Int32} {B : Nat → Nat → Int32}
theorem Sl_mix_l {k : Nat} {h : Nat → Int32} (ht : stab G R S) (hk : k < 64) : f_Sl_mixBlock_l66 G N (sl G R S L B) S (h 0, h 1, h 2, h 3, h 4, h 5, h 6, h 7, ii k) = some (.inl (s_r (tb1.getD k 0) (B 4 k) h 0, s_r (tb1.getD k 0) (B 4 k) h 1, s_r (tb1.getD k 0) (B 4 k) h 2, s_r (tb1.getD k 0) (B 4 k) h 3, s_r (tb1.getD k 0) (B 4 k) h 4, s_r (tb1.getD k 0) (B 4 k) h 5, s_r (tb1.getD k 0) (B 4 k) h 6, s_r (tb1.getD k 0) (B 4 k) h 7, ii (k + 1))) := by
  obtain ⟨f0, f1, t1, t2, t3, t4⟩ := ht
  have e0 : ((64 : Int32) ≤ ii k) = False := by rw [show (64 : Int32) = ii 64 from rfl, ii_le (by decide) (by omega)]; exact eq_false (by omega)
  have a4 : ii k + 1 = ii (k + 1) := ii_add _ 1
  have hK : ho_ldI G (sl G R S L B) (gA G 1) (ii k) = some (tb1.getD k 0) := by
    unfold ho_ldI
    rw [t2, bd_S, ii_ix hk (by omega), mp_S]
    exact congrArg some (t4 k hk)
  simp only [f_Sl_mixBlock_l66, e0, ↓reduceIte, hK, sl_r4, bd_S, sl_ld4 hk, a4]
  rfl
theorem Sl_mix_e {n : Nat} (hn : n = 64) (ht : stab G R S) (hN : 256 < N) : ho_it (f_Sl_mixBlock_l66 G N (sl G R S L B) S) N (B 1 0, B 1 1, B 1 2, B 1 3, B 1 4, B 1 5, B 1 6, B 1 7, ii 0) = some (s_rs (B 4) (B 1) n 0, s_rs (B 4) (B 1) n 1, s_rs (B 4) (B 1) n 2, s_rs (B 4) (B 1) n 3, s_rs (B 4) (B 1) n 4, s_rs (B 4) (B 1) n 5, s_rs (B 4) (B 1) n 6, s_rs (B 4) (B 1) n 7) := by
  refine it_for n (fun k => (s_rs (B 4) (B 1) k 0, s_rs (B 4) (B 1) k 1, s_rs (B 4) (B 1) k 2, s_rs (B 4) (B 1) k 3, s_rs (B 4) (B 1) k 4, s_rs (B 4) (B 1) k 5, s_rs (B 4) (B 1) k 6, s_rs (B 4) (B 1) k 7, ii k)) _ (fun k hk => ?_) ?_ (by omega) rfl
  · exact Sl_mix_l ht (by omega)
  · simp only [f_Sl_mixBlock_l66]
    rw [if_pos (show (64 : Int32) ≤ ii n by rw [hn]; decide)]
theorem Sl_mix_G {q : Nat → Int32} (e : ho_it (f_Sl_mixBlock_l66 G N (sl G R S L B) S) N (B 1 0, B 1 1, B 1 2, B 1 3, B 1 4, B 1 5, B 1 6, B 1 7, ii 0) = some (q 0, q 1, q 2, q 3, q 4, q 5, q 6, q 7)) : f_Sl_mixBlock G N (sl G R S L B) S = some (sl G R S L (upA B 1 (ovr (fun i => B 1 i + q i) (B 1) 8))) := by
  unfold f_Sl_mixBlock
  simp only [sl_r0, bd_S, li0, li1, li2, li3, li4, li5, li6, li7, sl_ld1 (show 0 < 8 by decide), sl_ld1 (show 1 < 8 by decide), sl_ld1 (show 2 < 8 by decide), sl_ld1 (show 3 < 8 by decide), sl_ld1 (show 4 < 8 by decide), sl_ld1 (show 5 < 8 by decide), sl_ld1 (show 6 < 8 by decide), sl_ld1 (show 7 < 8 by decide), e, sl_st1 (show 0 < 8 by decide), sl_st1 (show 1 < 8 by decide), sl_st1 (show 2 < 8 by decide), sl_st1 (show 3 < 8 by decide), sl_st1 (show 4 < 8 by decide), sl_st1 (show 5 < 8 by decide), sl_st1 (show 6 < 8 by decide), sl_st1 (show 7 < 8 by decide), upA_upA, upA_eq]
  congr 3
  funext i
  unfold upd ovr
  match i with
  | 0 => rfl
  | 1 => rfl
  | 2 => rfl
  | 3 => rfl
  | 4 => rfl
  | 5 => rfl
  | 6 => rfl
  | 7 => rfl
  | n + 8 =>
    rw [if_neg (by omega), if_neg (by omega), if_neg (by omega), if_neg (by omega), if_neg (by omega), if_neg (by omega), if_neg (by omega), if_neg (by omega), if_neg (by omega)]
theorem Sl_mix_S {n : Nat} (hn : n = 64) (ht : stab G R S) (hN : 256 < N) : f_Sl_mixBlock G N (sl G R S L B) S = some (sl G R S L (upA B 1 (ovr (fun i => B 1 i + s_rs (B 4) (B 1) n i) (B 1) 8))) := Sl_mix_G (q := s_rs (B 4) (B 1) n) (Sl_mix_e hn ht hN)
end SM
