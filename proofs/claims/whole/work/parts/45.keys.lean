/-! the model's keys: down, and a packet's code -/
def tx2 (k : Nat) : Int32 := tb2.getD k 0
def tx3 (k : Nat) : Int32 := tb3.getD k 0
/-- the key below, as bytes -/
def s_dn (key : Nat → Int32) : Nat → Int32 := s_bs (s_sl key 20 tx2 5)
/-- a packet's code, as bytes -/
def s_cd (key msg : Nat → Int32) (n : Nat) : Nat → Int32 := s_bs (s_sl (s_bs (s_sl key 20 tx3 3)) 32 msg n)
def mkeep (A A' : Nat → Nat → Int32) : Prop := ∀ j, j ∉ [2, 3, 4, 5, 7, 9, 11, 38] → A' j = A j
def ikeep (I I' : Nat → Int32) : Prop := ∀ j, j ∉ [6, 8, 10] → I' j = I j
theorem mkeep.tab {A A' : Nat → Nat → Int32} (h : mkeep A A') (ht : mtab A) : mtab A' := by
  unfold mtab
  rw [h 0 (by decide), h 1 (by decide)]
  exact ht
theorem mkeep.rf {A : Nat → Nat → Int32} : mkeep A A := fun _ _ => rfl
theorem ikeep.rf {I : Nat → Int32} : ikeep I I := fun _ _ => rfl
theorem mkeep.tr {A B C : Nat → Nat → Int32} (h : mkeep A B) (h2 : mkeep B C) : mkeep A C := fun j hj => (h2 j hj).trans (h j hj)
theorem ikeep.tr {A B C : Nat → Int32} (h : ikeep A B) (h2 : ikeep B C) : ikeep A C := fun j hj => (h2 j hj).trans (h j hj)
theorem ovr_same {f g h : Nat → Int32} {n : Nat} (e : ∀ k, k < n → f k = h k) : ovr f g n = ovr h g n := by
  funext k
  unfold ovr
  by_cases hk : k < n
  · rw [if_pos hk, if_pos hk, e k hk]
  · rw [if_neg hk, if_neg hk]
theorem s_bs_congr {w w' : Nat → Int32} {k : Nat} (e : w (k / 4) = w' (k / 4)) : s_bs w k = s_bs w' k := by
  unfold s_bs
  rw [e]
theorem s_dn_congr {a b : Nat → Int32} (e : ∀ k, k < 20 → a k = b k) : ∀ k, k < 32 → s_dn a k = s_dn b k := fun k hk => s_bs_congr (s_sl_congr e (fun _ _ => rfl) _ (by omega))
theorem s_cd_congr {a b m m' : Nat → Int32} {n : Nat} (e : ∀ k, k < 20 → a k = b k) (em : ∀ k, k < n → m k = m' k) : ∀ k, k < 32 → s_cd a m n k = s_cd b m' n k := fun k hk => s_bs_congr (s_sl_congr (fun q hq => s_bs_congr (s_sl_congr e (fun _ _ => rfl) _ (by omega))) em _ (by omega))
section KY
variable {G : ho_G} {R : ho_H} {M N : Nat} {I : Nat → Int32} {A : Nat → Nat → Int32}
theorem Md_dn_l2  (hN : 256 < N) : ho_it (f_Md_down_l2 G N M ) N (md G R M I A, 0) = some (md G R M I (upA A 7 (ovr (A 38) (A 7) 20))) := by
  refine it_for 20 (fun k => (md G R M I (upA A 7 (ovr (A 38) (A 7) k)), ii k)) _ (fun k hk => ?_) ?_ (by omega) (by rw [upA_up0]; rfl)
  · have e0 : ((20 : Int32) ≤ ii k) = False := by rw [show (20 : Int32) = ii 20 from rfl, ii_le (by decide) (by omega)]; exact eq_false (by omega)
    have a4 : ii k + 1 = ii (k + 1) := ii_add _ 1
    simp only [f_Md_down_l2, e0, ↓reduceIte, md_r38, md_r7, bd_S, md_ld38 (show k < 20 by omega), md_st7 (show k < 64 by omega), a4]
    rw [upA_upA, upA_eq, upA_ne (by decide), ovr_up rfl]
  · simp only [f_Md_down_l2]
    rw [if_pos (show (20 : Int32) ≤ ii 20 by decide)]
theorem Md_dn_l83  (hN : 256 < N) : ho_it (f_Md_down_l83 G N M ) N (md G R M I A, 0) = some (md G R M I (upA A 38 (ovr (A 11) (A 38) 20))) := by
  refine it_for 20 (fun k => (md G R M I (upA A 38 (ovr (A 11) (A 38) k)), ii k)) _ (fun k hk => ?_) ?_ (by omega) (by rw [upA_up0]; rfl)
  · have e0 : ((20 : Int32) ≤ ii k) = False := by rw [show (20 : Int32) = ii 20 from rfl, ii_le (by decide) (by omega)]; exact eq_false (by omega)
    have a4 : ii k + 1 = ii (k + 1) := ii_add _ 1
    simp only [f_Md_down_l83, e0, ↓reduceIte, md_r11, md_r38, bd_S, md_ld11 (show k < 32 by omega), md_st38 (show k < 20 by omega), a4]
    rw [upA_upA, upA_eq, upA_ne (by decide), ovr_up rfl]
  · simp only [f_Md_down_l83]
    rw [if_pos (show (20 : Int32) ≤ ii 20 by decide)]
theorem Md_cc_l2 {x : Int32} (hN : 256 < N) : ho_it (f_Md_codeOfCopy_l2 G N M x) N (md G R M I A, 0) = some (md G R M I (upA A 7 (ovr (A 38) (A 7) 20))) := by
  refine it_for 20 (fun k => (md G R M I (upA A 7 (ovr (A 38) (A 7) k)), ii k)) _ (fun k hk => ?_) ?_ (by omega) (by rw [upA_up0]; rfl)
  · have e0 : ((20 : Int32) ≤ ii k) = False := by rw [show (20 : Int32) = ii 20 from rfl, ii_le (by decide) (by omega)]; exact eq_false (by omega)
    have a4 : ii k + 1 = ii (k + 1) := ii_add _ 1
    simp only [f_Md_codeOfCopy_l2, e0, ↓reduceIte, md_r38, md_r7, bd_S, md_ld38 (show k < 20 by omega), md_st7 (show k < 64 by omega), a4]
    rw [upA_upA, upA_eq, upA_ne (by decide), ovr_up rfl]
  · simp only [f_Md_codeOfCopy_l2]
    rw [if_pos (show (20 : Int32) ≤ ii 20 by decide)]
theorem Md_cc_l67 {x : Int32} (hN : 256 < N) : ho_it (f_Md_codeOfCopy_l67 G N M x) N (md G R M I A, 0) = some (md G R M I (upA A 7 (ovr (A 11) (A 7) 32))) := by
  refine it_for 32 (fun k => (md G R M I (upA A 7 (ovr (A 11) (A 7) k)), ii k)) _ (fun k hk => ?_) ?_ (by omega) (by rw [upA_up0]; rfl)
  · have e0 : ((32 : Int32) ≤ ii k) = False := by rw [show (32 : Int32) = ii 32 from rfl, ii_le (by decide) (by omega)]; exact eq_false (by omega)
    have a4 : ii k + 1 = ii (k + 1) := ii_add _ 1
    simp only [f_Md_codeOfCopy_l67, e0, ↓reduceIte, md_r11, md_r7, bd_S, md_ld11 (show k < 32 by omega), md_st7 (show k < 64 by omega), a4]
    rw [upA_upA, upA_eq, upA_ne (by decide), ovr_up rfl]
  · simp only [f_Md_codeOfCopy_l67]
    rw [if_pos (show (32 : Int32) ≤ ii 32 by decide)]
theorem Md_cc_l99 {n : Nat} (hn : n ≤ 38) (hN : 256 < N) : ho_it (f_Md_codeOfCopy_l99 G N M (ii n)) N (md G R M I A, 0) = some (md G R M I (upA A 9 (ovr (A 37) (A 9) n))) := by
  refine it_for n (fun k => (md G R M I (upA A 9 (ovr (A 37) (A 9) k)), ii k)) _ (fun k hk => ?_) ?_ (by omega) (by rw [upA_up0]; rfl)
  · have e0 : (ii n ≤ ii k) = False := by rw [ii_le (by omega) (by omega)]; exact eq_false (by omega)
    have a4 : ii k + 1 = ii (k + 1) := ii_add _ 1
    simp only [f_Md_codeOfCopy_l99, e0, ↓reduceIte, md_r37, md_r9, bd_S, md_ld37 (show k < 68 by omega), md_st9 (show k < 64 by omega), a4]
    rw [upA_upA, upA_eq, upA_ne (by decide), ovr_up rfl]
  · simp only [f_Md_codeOfCopy_l99]
    rw [if_pos (by rw [ii_le (by omega) (by omega)]; exact Nat.le_refl _)]
theorem Md_down_S (ht : mtab A) (hN : 256 < N) : ∃ I' A', f_Md_down G N (md G R M I A) M = some (md G R M I' A') ∧ A' 38 = ovr (s_dn (A 38)) (A 38) 20 ∧ mkeep A A' ∧ ikeep I I' := by
  unfold f_Md_down
  rw [Md_dn_l2 hN, bd_S, md_p8, bd_S]
  simp only [li0, li1, li2, li3, li4, md_r9, bd_S, md_st9 (show 0 < 64 by decide), md_st9 (show 1 < 64 by decide), md_st9 (show 2 < 64 by decide), md_st9 (show 3 < 64 by decide), md_st9 (show 4 < 64 by decide), md_p10, md_f, upA_upA, upA_eq]
  obtain ⟨A1, g1, g2, g3⟩ := Md_makeSeal_S (G := G) (R := R) (M := M) (N := N) (I := upI (upI I 8 20) 10 5) (A := upA (upA A 7 (ovr (A 38) (A 7) 20)) 9 (upd (upd (upd (upd (upd (upA A 7 (ovr (A 38) (A 7) 20) 9) 0 99) 1 104) 2 97) 3 105) 4 110)) (kn := 20) (n := 5) ((upI_ne (by decide)).trans upI_eq) (by decide) upI_eq (by decide) (by unfold mtab; rw [upA_ne (by decide), upA_ne (by decide), upA_ne (by decide), upA_ne (by decide)]; exact ht) hN
  rw [g1, md_mono, bd_S, show ii 0 = 0 from rfl, Md_dn_l83 hN, bd_S]
  have k38 : A1 38 = A 38 := (g3 38 (by decide) (by decide) (by decide) (by decide) (by decide)).trans ((upA_ne (by decide)).trans (upA_ne (by decide)))
  refine ⟨_, _, rfl, ?_, fun j hj => ?_, fun j hj => ?_⟩
  · rw [upA_eq, k38]
    refine ovr_same (fun k hk => (g2 k (by omega)).trans (s_bs_congr (s_sl_congr (fun q hq => ?_) (fun q hq => ?_) _ (by omega))))
    · rw [upA_ne (by decide), upA_eq, ovr_lt hq]
    · rw [upA_eq]
      unfold upd
      match q, hq with
      | 0, _ => rfl
      | 1, _ => rfl
      | 2, _ => rfl
      | 3, _ => rfl
      | 4, _ => rfl
      | n + 5, h => exact absurd h (by omega)
  · simp only [List.mem_cons, List.not_mem_nil, or_false, not_or] at hj
    obtain ⟨h2, h3, h4, h5, h7, h9, h11, h38⟩ := hj
    rw [upA_ne h38, g3 j h2 h3 h4 h5 h11, upA_ne h9, upA_ne h7]
  · simp only [List.mem_cons, List.not_mem_nil, or_false, not_or] at hj
    obtain ⟨h6, h8, h10⟩ := hj
    rw [upI_ne h6, upI_ne h10, upI_ne h8]
theorem Md_codeOfCopy_S {n : Nat} (hn : n ≤ 38) (ht : mtab A) (hN : 256 < N) : ∃ I' A', f_Md_codeOfCopy G N (md G R M I A) M (ii n) = some (md G R M I' A') ∧ (∀ k, k < 32 → A' 11 k = s_cd (A 38) (A 37) n k) ∧ A' 38 = A 38 ∧ mkeep A A' ∧ ikeep I I' := by
  unfold f_Md_codeOfCopy
  rw [Md_cc_l2 hN, bd_S, md_p8, bd_S]
  simp only [li0, li1, li2, md_r9, bd_S, md_st9 (show 0 < 64 by decide), md_st9 (show 1 < 64 by decide), md_st9 (show 2 < 64 by decide), md_p10, md_f, upA_upA, upA_eq]
  obtain ⟨A1, g1, g2, g3⟩ := Md_makeSeal_S (G := G) (R := R) (M := M) (N := N) (I := upI (upI I 8 20) 10 3) (A := upA (upA A 7 (ovr (A 38) (A 7) 20)) 9 (upd (upd (upd (upA A 7 (ovr (A 38) (A 7) 20) 9) 0 109) 1 97) 2 99)) (kn := 20) (n := 3) ((upI_ne (by decide)).trans upI_eq) (by decide) upI_eq (by decide) (by unfold mtab; rw [upA_ne (by decide), upA_ne (by decide), upA_ne (by decide), upA_ne (by decide)]; exact ht) hN
  have t0 : mtab A1 := by
    unfold mtab
    rw [g3 0 (by decide) (by decide) (by decide) (by decide) (by decide), g3 1 (by decide) (by decide) (by decide) (by decide) (by decide), upA_ne (by decide), upA_ne (by decide), upA_ne (by decide), upA_ne (by decide)]
    exact ht
  have k37 : A1 37 = A 37 := (g3 37 (by decide) (by decide) (by decide) (by decide) (by decide)).trans ((upA_ne (by decide)).trans (upA_ne (by decide)))
  have k38 : A1 38 = A 38 := (g3 38 (by decide) (by decide) (by decide) (by decide) (by decide)).trans ((upA_ne (by decide)).trans (upA_ne (by decide)))
  rw [g1, md_mono, bd_S, show ii 0 = 0 from rfl, Md_cc_l67 hN, bd_S, md_p8, bd_S, Md_cc_l99 hn hN, bd_S, md_p10, bd_S, md_f, bd_S]
  obtain ⟨A2, f1, f2, f3⟩ := Md_makeSeal_S (G := G) (R := R) (M := M) (N := N) (I := upI (upI (upI (upI (upI I 8 20) 10 3) 6 96) 8 32) 10 (ii n)) (A := upA (upA A1 7 (ovr (A1 11) (A1 7) 32)) 9 (ovr (upA A1 7 (ovr (A1 11) (A1 7) 32) 37) (upA A1 7 (ovr (A1 11) (A1 7) 32) 9) n)) (kn := 32) (n := n) ((upI_ne (by decide)).trans upI_eq) (by decide) upI_eq hn (by unfold mtab; rw [upA_ne (by decide), upA_ne (by decide), upA_ne (by decide), upA_ne (by decide)]; exact t0) hN
  rw [f1, md_mono, bd_S]
  refine ⟨_, _, rfl, fun k hk => ?_, ?_, fun j hj => ?_, fun j hj => ?_⟩
  · rw [f2 k hk]
    refine s_bs_congr (s_sl_congr (fun q hq => ?_) (fun q hq => ?_) _ (by omega))
    · rw [upA_ne (by decide), upA_eq, ovr_lt hq, g2 q hq]
      refine s_bs_congr (s_sl_congr (fun z hz => ?_) (fun z hz => ?_) _ (by omega))
      · rw [upA_ne (by decide), upA_eq, ovr_lt hz]
      · rw [upA_eq]
        unfold upd
        match z, hz with
        | 0, _ => rfl
        | 1, _ => rfl
        | 2, _ => rfl
        | n + 3, h => exact absurd h (by omega)
    · rw [upA_eq, ovr_lt hq, upA_ne (by decide), k37]
  · rw [f3 38 (by decide) (by decide) (by decide) (by decide) (by decide), upA_ne (by decide), upA_ne (by decide), k38]
  · simp only [List.mem_cons, List.not_mem_nil, or_false, not_or] at hj
    obtain ⟨h2, h3, h4, h5, h7, h9, h11, h38⟩ := hj
    rw [f3 j h2 h3 h4 h5 h11, upA_ne h9, upA_ne h7, g3 j h2 h3 h4 h5 h11, upA_ne h9, upA_ne h7]
  · simp only [List.mem_cons, List.not_mem_nil, or_false, not_or] at hj
    obtain ⟨h6, h8, h10⟩ := hj
    rw [upI_ne h6, upI_ne h10, upI_ne h8, upI_ne h6, upI_ne h10, upI_ne h8]
end KY
