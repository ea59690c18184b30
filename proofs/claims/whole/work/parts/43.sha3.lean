theorem it_ex {S E : Type} {f : S → Option (S ⊕ E)} {N : Nat} {s0 : S} (n : Nat) (P : Nat → S → Prop) (Q : E → Prop) (h : ∀ k s, k < n → P k s → ∃ s', f s = some (.inl s') ∧ P (k + 1) s') (he : ∀ s, P n s → ∃ e, f s = some (.inr e) ∧ Q e) (hN : n < N) (h0 : P 0 s0) : ∃ e, ho_it f N s0 = some e ∧ Q e := by
  have key : ∀ (d m N : Nat) (s : S), m + d = n → d < N → P m s → ∃ e, ho_it f N s = some e ∧ Q e := by
    intro d
    induction d with
    | zero =>
      intro m N s hm hN hp
      have : m = n := by omega
      subst this
      obtain ⟨e, h1, h2⟩ := he s hp
      cases N with
      | zero => omega
      | succ N => exact ⟨e, by simp only [ho_it, h1], h2⟩
    | succ d ih =>
      intro m N s hm hN hp
      cases N with
      | zero => omega
      | succ N =>
        obtain ⟨s', h1, h2⟩ := h m s (by omega) hp
        simp only [ho_it, h1]
        exact ih (m + 1) N s' (by omega) (by omega) h2
  exact key n 0 N s0 (by omega) hN h0
theorem s_w_lt {r : Nat → Int32} {k : Nat} (h : k < 16) : s_w r k = r k := by rw [s_w, if_pos h]
theorem s_w_ge {r : Nat → Int32} {k : Nat} (h : ¬ k < 16) : s_w r k = ((s_w r (k - 16) + s_w r (k - 7)) + s_s0 (s_w r (k - 15))) + s_s1 (s_w r (k - 2)) := by
  conv => lhs; rw [s_w, if_neg h]
theorem s_w_congr {r r' : Nat → Int32} (e : ∀ k, k < 16 → r k = r' k) : ∀ k, s_w r k = s_w r' k := by
  intro k
  induction k using Nat.strongRecOn with
  | ind k ih =>
    by_cases h : k < 16
    · rw [s_w_lt h, s_w_lt h, e k h]
    · rw [s_w_ge h, s_w_ge h, ih (k - 16) (by omega), ih (k - 7) (by omega), ih (k - 15) (by omega), ih (k - 2) (by omega)]
theorem s_bl_congr {r r' h h' : Nat → Int32} (e : ∀ k, k < 16 → r k = r' k) (eh : ∀ i, i < 8 → h i = h' i) {i : Nat} (hi : i < 8) : s_bl r h i = s_bl r' h' i := by
  unfold s_bl
  rw [eh i hi]
  exact congrArg (fun z => h' i + z) (s_rs_congr eh 64 (fun k _ => s_w_congr e k) i hi)
/-- the digest of so many blocks of words r -/
def s_hs (r : Nat → Int32) : Nat → Nat → Int32
  | 0 => fun i => tb0.getD i 0
  | b + 1 => s_bl (fun k => r (16 * b + k)) (s_hs r b)
theorem s_hs_congr {r r' : Nat → Int32} (b : Nat) (e : ∀ k, k < 16 * b → r k = r' k) : ∀ i, i < 8 → s_hs r b i = s_hs r' b i := by
  induction b with
  | zero => intro i _; rfl
  | succ b ih =>
    intro i hi
    exact s_bl_congr (fun k hk => e _ (by omega)) (ih (fun k hk => e k (by omega))) hi
def s_T (n : Nat) : Nat := 64 * ((n + 72) / 64)
/-- n bytes of f, padded -/
def s_pd (f : Nat → Int32) (n k : Nat) : Int32 := if k < n then f k else if k = n then 128 else if k < s_T n - 4 then 0 else (ho_sr (ii (8 * n)) (ii (8 * (s_T n - 1 - k)))) &&& 255
section SH3
variable {G : ho_G} {R : ho_H} {M N : Nat} {I : Nat → Int32} {A : Nat → Nat → Int32}
theorem Md_dr_b (hN : 256 < N) : ho_it (f_Md_digestRow_l2 G N M) N (md G R M I A, 0) = some (md G R M I (upA A 3 (ovr (A 1) (A 3) 8))) := by
  refine it_for 8 (fun k => (md G R M I (upA A 3 (ovr (A 1) (A 3) k)), ii k)) _ (fun k hk => ?_) ?_ (by omega) (by rw [upA_up0]; rfl)
  · have e0 : ((8 : Int32) ≤ ii k) = False := by rw [show (8 : Int32) = ii 8 from rfl, ii_le (by decide) (by omega)]; exact eq_false (by omega)
    have a4 : ii k + 1 = ii (k + 1) := ii_add _ 1
    simp only [f_Md_digestRow_l2, e0, ↓reduceIte, md_r3, md_r1, bd_S, md_ld1 (show k < 8 by omega), md_st3 (show k < 8 by omega), a4]
    rw [upA_upA, upA_eq, upA_ne (by decide), ovr_up rfl]
  · simp only [f_Md_digestRow_l2]
    rw [if_pos (show (8 : Int32) ≤ ii 8 by decide)]
/-- zeros from a on, k of them -/
def s_zf (f : Nat → Int32) (a k : Nat) : Nat → Int32 := fun q => if a ≤ q ∧ q < a + k then 0 else f q
theorem s_zf_0 {f : Nat → Int32} {a : Nat} : s_zf f a 0 = f := by
  funext q
  unfold s_zf
  rw [if_neg (by omega)]
theorem s_zf_up {f : Nat → Int32} {a k : Nat} : upd (s_zf f a k) (a + k) 0 = s_zf f a (k + 1) := by
  funext q
  unfold upd s_zf
  by_cases h : q = a + k
  · rw [if_pos h, if_pos (by omega)]
  · rw [if_neg h]
    by_cases h2 : a ≤ q ∧ q < a + k
    · rw [if_pos h2, if_pos (by omega)]
    · rw [if_neg h2, if_neg (by omega)]
theorem Md_dr_z {n : Nat} {x : Int32} (hn : n ≤ 110) (hN : 256 < N) : ho_it (f_Md_digestRow_l53 G N M x) N (md G R M I A, ii n + 1) = some (md G R M I (upA A 5 (s_zf (A 5) (n + 1) (s_T n - 8 - (n + 1)))), ii (s_T n - 8)) := by
  have hT : s_T n - 8 - (n + 1) + (n + 1) = s_T n - 8 := by unfold s_T; omega
  have hT2 : s_T n ≤ 128 := by unfold s_T; omega
  refine it_for (s_T n - 8 - (n + 1)) (fun k => (md G R M I (upA A 5 (s_zf (A 5) (n + 1) k)), ii (n + 1 + k))) _ (fun k hk => ?_) ?_ (by omega) ?_
  · have e0 : (ho_rm (ii (n + 1 + k)) 64 = 56) = False := by
      rw [show (64 : Int32) = ii 64 from rfl, ii_rm (by omega) (by decide), show (56 : Int32) = ii 56 from rfl, ii_inj (by omega) (by decide)]
      refine eq_false ?_
      unfold s_T at hk hT
      omega
    have a4 : ii (n + 1 + k) + 1 = ii (n + 1 + (k + 1)) := ii_add _ 1
    simp only [f_Md_digestRow_l53, e0, ↓reduceIte, md_r5, bd_S, md_st5 (show n + 1 + k < 256 by omega), a4]
    rw [upA_upA, upA_eq, s_zf_up]
  · have e0 : (ho_rm (ii (n + 1 + (s_T n - 8 - (n + 1)))) 64 = 56) = True := by
      rw [show (64 : Int32) = ii 64 from rfl, ii_rm (by omega) (by decide), show (56 : Int32) = ii 56 from rfl, ii_inj (by omega) (by decide)]
      refine eq_true ?_
      unfold s_T at hT ⊢
      omega
    simp only [f_Md_digestRow_l53, e0, ↓reduceIte]
    rw [show n + 1 + (s_T n - 8 - (n + 1)) = s_T n - 8 by omega]
  · rw [s_zf_0, upA_self]
    exact congrArg (Prod.mk _) (ii_add n 1)
/-- the length's eight bytes, k of them -/
def s_lb (f : Nat → Int32) (a : Nat) (x : Int32) (k : Nat) : Nat → Int32 := fun q => if a ≤ q ∧ q < a + k then (if q < a + 4 then 0 else ho_sr x (ii (8 * (7 - (q - a)))) &&& 255) else f q
theorem s_lb_up {f : Nat → Int32} {a k : Nat} {x v : Int32} (hv : v = if k < 4 then 0 else ho_sr x (ii (8 * (7 - k))) &&& 255) : upd (s_lb f a x k) (a + k) v = s_lb f a x (k + 1) := by
  subst hv
  funext q
  unfold upd s_lb
  by_cases h : q = a + k
  · subst h
    rw [if_pos rfl, if_pos (show a ≤ a + k ∧ a + k < a + (k + 1) by omega), Nat.add_sub_cancel_left]
    by_cases h4 : k < 4
    · rw [if_pos h4, if_pos (by omega)]
    · rw [if_neg h4, if_neg (by omega)]
  · rw [if_neg h]
    by_cases h2 : a ≤ q ∧ q < a + k
    · rw [if_pos h2, if_pos (show a ≤ q ∧ q < a + (k + 1) by omega)]
    · rw [if_neg h2, if_neg (show ¬ (a ≤ q ∧ q < a + (k + 1)) by omega)]
theorem Md_dr_l {a : Nat} {x : Int32} (ha : a ≤ 200) (hN : 256 < N) : ho_it (f_Md_digestRow_l77 G N M x (ii a)) N (md G R M I A, 0) = some (md G R M I (upA A 5 (s_lb (A 5) a x 8))) := by
  refine it_for 8 (fun k => (md G R M I (upA A 5 (s_lb (A 5) a x k)), ii k)) _ (fun k hk => ?_) ?_ (by omega) ?_
  · have e0 : ((8 : Int32) ≤ ii k) = False := by rw [show (8 : Int32) = ii 8 from rfl, ii_le (by decide) (by omega)]; exact eq_false (by omega)
    have a4 : ii k + 1 = ii (k + 1) := ii_add _ 1
    have a5 : ii a + ii k = ii (a + k) := ii_add _ _
    by_cases h4 : k < 4
    · have e1 : ((4 : Int32) ≤ ii k) = False := by rw [show (4 : Int32) = ii 4 from rfl, ii_le (by decide) (by omega)]; exact eq_false (by omega)
      simp only [f_Md_digestRow_l77, f_Md_digestRow_j112_in77, e0, e1, ↓reduceIte, md_r5, bd_S, a5, md_st5 (show a + k < 256 by omega), a4]
      rw [upA_upA, upA_eq, s_lb_up (by rw [if_pos h4])]
    · have e1 : ((4 : Int32) ≤ ii k) = True := by rw [show (4 : Int32) = ii 4 from rfl, ii_le (by decide) (by omega)]; exact eq_true (by omega)
      have a6 : 8 * (7 - ii k) = ii (8 * (7 - k)) := by rw [show (7 : Int32) = ii 7 from rfl, ii_sub (by omega), show (8 : Int32) = ii 8 from rfl, ii_mul]
      simp only [f_Md_digestRow_l77, f_Md_digestRow_j112_in77, e0, e1, ↓reduceIte, md_r5, bd_S, a5, a6, md_st5 (show a + k < 256 by omega), a4]
      rw [upA_upA, upA_eq, s_lb_up (by rw [if_neg h4])]
  · simp only [f_Md_digestRow_l77]
    rw [if_pos (show (8 : Int32) ≤ ii 8 by decide)]
  · rw [show s_lb (A 5) a x 0 = A 5 from ?_, upA_self]
    · rfl
    · funext q
      unfold s_lb
      rw [if_neg (by omega)]
theorem Md_dr_k {b : Nat} (hb : 64 * b ≤ 192) (hb2 : 0 < b) (hc : ∀ k, k < 64 → A 0 k = tb1.getD k 0) (h3 : ∀ i, i < 8 → A 3 i = tb0.getD i 0) (hN : 256 < N) : ∃ σ', ho_it (f_Md_digestRow_l121 G N M (ii (64 * b - 8))) N (md G R M I A, 0) = some σ' ∧ ∃ A', σ' = md G R M I A' ∧ (∀ i, i < 8 → A' 3 i = s_hs (fun j => s_wd (A 5) (4 * j)) b i) ∧ ∀ j, j ≠ 2 → j ≠ 3 → j ≠ 4 → A' j = A j := by
  have a0 : ii (64 * b - 8) + 8 = ii (64 * b) := by rw [show (8 : Int32) = ii 8 from rfl, ii_add]; congr 1; omega
  refine it_ex b (fun k s => ∃ A', s = (md G R M I A', ii (64 * k)) ∧ (∀ i, i < 8 → A' 3 i = s_hs (fun j => s_wd (A 5) (4 * j)) k i) ∧ ∀ j, j ≠ 2 → j ≠ 3 → j ≠ 4 → A' j = A j) _ ?_ ?_ (by omega) ⟨A, rfl, h3, fun _ _ _ _ => rfl⟩
  · rintro k s hk ⟨A', rfl, h1, h2⟩
    have e0 : (ii (64 * b) ≤ ii (64 * k)) = False := by rw [ii_le (by omega) (by omega)]; exact eq_false (by omega)
    have a4 : ii (64 * k) + 64 = ii (64 * (k + 1)) := by rw [show (64 : Int32) = ii 64 from rfl, ii_add]; congr 1
    obtain ⟨A2, g1, g2, g3⟩ := Md_block_S (G := G) (R := R) (M := M) (N := N) (I := I) (A := A') (fr := 64 * k) (fun q hq => by rw [h2 0 (by decide) (by decide) (by decide)]; exact hc q hq) (by omega) (by omega)
    refine ⟨_, ?_, A2, rfl, fun i hi => ?_, fun j q2 q3 q4 => (g3 j q2 q3 q4).trans (h2 j q2 q3 q4)⟩
    · simp only [f_Md_digestRow_l121, a0, e0, ↓reduceIte, md_f, bd_S, g1, md_mono, a4]
    · rw [g2 i hi]
      show _ = s_bl _ _ i
      refine s_bl_congr (fun q hq => ?_) h1 hi
      rw [h2 5 (by decide) (by decide) (by decide)]
      show s_wd (A 5) _ = s_wd (A 5) _
      congr 1
      omega
  · rintro s ⟨A', rfl, h1, h2⟩
    refine ⟨_, ?_, A', rfl, h1, h2⟩
    simp only [f_Md_digestRow_l121, a0]
    rw [if_pos (by rw [ii_le (by omega) (by omega)]; omega)]
theorem Md_digestRow_S {n : Nat} (hn : n ≤ 110) (hI : I 6 = ii n) (hc : ∀ k, k < 64 → A 0 k = tb1.getD k 0) (h1 : ∀ i, i < 8 → A 1 i = tb0.getD i 0) (hN : 256 < N) : ∃ A', f_Md_digestRow G N (md G R M I A) M = some (md G R M I A') ∧ (∀ i, i < 8 → A' 3 i = s_hs (fun j => s_wd (s_pd (A 5) n) (4 * j)) (s_T n / 64) i) ∧ ∀ j, j ≠ 2 → j ≠ 3 → j ≠ 4 → j ≠ 5 → A' j = A j := by
  have hT : s_T n = 64 * (s_T n / 64) := by unfold s_T; omega
  have hT2 : s_T n ≤ 128 := by unfold s_T; omega
  have hT3 : n + 9 ≤ s_T n := by unfold s_T; omega
  have a0 : 8 * ii n = ii (8 * n) := by rw [show (8 : Int32) = ii 8 from rfl, ii_mul]
  unfold f_Md_digestRow
  rw [Md_dr_b hN, bd_S, md_i6, bd_S, md_r5, bd_S, hI, bd_S, md_st5 (by omega), bd_S, md_i6, hI, bd_S, Md_dr_z hn hN, bd_S]
  dsimp only
  rw [Md_dr_l (by omega) hN, bd_S, a0]
  obtain ⟨σ', g1, A', rfl, g2, g3⟩ := Md_dr_k (G := G) (R := R) (M := M) (N := N) (I := I) (b := s_T n / 64) (A := upA (upA (upA (upA A 3 (ovr (A 1) (A 3) 8)) 5 (upd (upA A 3 (ovr (A 1) (A 3) 8) 5) n 128)) 5 (s_zf (upA (upA A 3 (ovr (A 1) (A 3) 8)) 5 (upd (upA A 3 (ovr (A 1) (A 3) 8) 5) n 128) 5) (n + 1) (s_T n - 8 - (n + 1)))) 5 (s_lb (upA (upA (upA A 3 (ovr (A 1) (A 3) 8)) 5 (upd (upA A 3 (ovr (A 1) (A 3) 8) 5) n 128)) 5 (s_zf (upA (upA A 3 (ovr (A 1) (A 3) 8)) 5 (upd (upA A 3 (ovr (A 1) (A 3) 8) 5) n 128) 5) (n + 1) (s_T n - 8 - (n + 1))) 5) (s_T n - 8) (ii (8 * n)) 8)) (by omega) (by omega) (fun k hk => by simp only [upA_upA]; rw [upA_ne (by decide), upA_ne (by decide)]; exact hc k hk) (fun i hi => by simp only [upA_upA]; rw [upA_ne (by decide), upA_eq, ovr_lt hi]; exact h1 i hi) hN
  rw [← hT] at g1
  rw [g1, bd_S]
  refine ⟨A', rfl, fun i hi => ?_, fun j q2 q3 q4 q5 => ?_⟩
  · rw [g2 i hi]
    refine s_hs_congr _ (fun k hk => ?_) i hi
    have key : ∀ q, q < s_T n → upA (upA (upA (upA A 3 (ovr (A 1) (A 3) 8)) 5 (upd (upA A 3 (ovr (A 1) (A 3) 8) 5) n 128)) 5 (s_zf (upA (upA A 3 (ovr (A 1) (A 3) 8)) 5 (upd (upA A 3 (ovr (A 1) (A 3) 8) 5) n 128) 5) (n + 1) (s_T n - 8 - (n + 1)))) 5 (s_lb (upA (upA (upA A 3 (ovr (A 1) (A 3) 8)) 5 (upd (upA A 3 (ovr (A 1) (A 3) 8) 5) n 128)) 5 (s_zf (upA (upA A 3 (ovr (A 1) (A 3) 8)) 5 (upd (upA A 3 (ovr (A 1) (A 3) 8) 5) n 128) 5) (n + 1) (s_T n - 8 - (n + 1))) 5) (s_T n - 8) (ii (8 * n)) 8) 5 q = s_pd (A 5) n q := by
      intro q hq
      rw [upA_eq]
      unfold s_lb s_pd
      by_cases c1 : q < n
      · rw [if_neg (by omega), if_pos c1, upA_eq]
        unfold s_zf
        rw [if_neg (by omega), upA_eq]
        unfold upd
        rw [if_neg (by omega), upA_ne (by decide)]
      · rw [if_neg c1]
        by_cases c2 : q = n
        · rw [if_neg (by omega), if_pos c2, upA_eq]
          unfold s_zf
          rw [if_neg (by omega), upA_eq]
          unfold upd
          rw [if_pos c2]
        · rw [if_neg c2]
          by_cases c3 : q < s_T n - 8
          · rw [if_neg (by omega), if_pos (by omega), upA_eq]
            unfold s_zf
            rw [if_pos (by omega)]
          · rw [if_pos (by omega)]
            by_cases c4 : q < s_T n - 4
            · rw [if_pos (by omega), if_pos c4]
            · rw [if_neg (by omega), if_neg c4, show 7 - (q - (s_T n - 8)) = s_T n - 1 - q by omega]
    unfold s_wd
    rw [key _ (by omega), key _ (by omega), key _ (by omega), key _ (by omega)]
  · rw [g3 j q2 q3 q4]
    simp only [upA_upA]
    rw [upA_ne q5, upA_ne q3]
end SH3
