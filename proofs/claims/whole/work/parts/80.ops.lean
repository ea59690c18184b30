/-! small calls -/
theorem upI_ee {I : Nat → Int32} {j : Nat} {x : Int32} : upI I j x j = x := if_pos rfl
theorem upI_nn {I : Nat → Int32} {j i : Nat} {x : Int32} (h : i ≠ j) : upI I j x i = I i := if_neg h
/-- room for one more call -/
def roomy (G : ho_G) (O n : Nat) : Prop := gB G = O ∧ gC G = O + 601024 ∧ gS G = 7293000 ∧ n < 513
section OP
variable {G : ho_G} {σ : ho_H} {w : Nat → Nat} {N O n M : Nat} {C : CK} {cc : Nat} {bf : Nat → Int32} {W : Nat → Nat → Int32} {PL : List PQ} {ρ : Nat → RS} {dr : Nat → Int32} {I : Nat → Int32} {A : Nat → Nat → Int32}
theorem mdl.i {I' : Nat → Int32} (h : mdl I A C cc bf W PL ρ dr) (e : ∀ j, 13 ≤ j → j < 19 → I' j = I j) : mdl I' A C cc bf W PL ρ dr := by
  unfold mdl
  rw [e 13 (by omega) (by omega), e 14 (by omega) (by omega), e 15 (by omega) (by omega), e 16 (by omega) (by omega), e 17 (by omega) (by omega), e 18 (by omega) (by omega)]
  exact h
theorem ms_fail {f : ho_H → Option (ho_H × Int32)} {k : Nat} {v : Int32} (hm : mdl I A C cc bf W PL ρ dr) (hk : k ≠ 0) (hf : ∀ R, f (md G R M I A) = some (md G R M (upI (upI I 12 0) 12 (ii k)) A, 0)) : MS G M I A f k v C cc bf W PL ρ dr := fun R => ⟨_, A, 0, hf R, upI_ee, fun e => absurd e hk, hm.i fun j h1 h2 => by rw [upI_nn (by omega), upI_nn (by omega)]⟩
theorem ms_same {f : ho_H → Option (ho_H × Int32)} {v : Int32} (hm : mdl I A C cc bf W PL ρ dr) (hf : ∀ R, f (md G R M I A) = some (md G R M (upI I 12 0) A, v)) : MS G M I A f 0 v C cc bf W PL ρ dr := fun R => ⟨_, A, v, hf R, upI_ee, fun _ => rfl, hm.i fun j h1 h2 => by rw [upI_nn (by omega)]⟩
theorem good.r1 (h : good G σ w O n C cc bf W PL ρ dr) (hr : roomy G O n) : σ.1 + 20 ≤ gC G := by
  obtain ⟨-, -, -, h4, -⟩ := h
  obtain ⟨-, r2, -, r4⟩ := hr
  omega
theorem lim6 {a n g : Nat} (h : a ≤ 6000 * (n + 70)) (hg : g = 7293000) (hn : n < 513) : a + 6000 ≤ g := by
  subst hg
  omega
theorem good.r2 (h : good G σ w O n C cc bf W PL ρ dr) (hr : roomy G O n) : σ.2.1 + 6000 ≤ gS G := lim6 h.2.2.2.2 hr.2.2.1 hr.2.2.2
theorem good.th (h : good G σ w O n C cc bf W PL ρ dr) (hr : roomy G O n) {α : Type} (i : Nat) : OS G σ w O ((ho_thr G σ).bind fun σ1 => some (σ1, (.inl i : Nat ⊕ α))) (.inl i) C cc bf W PL ρ dr := thr_S h.1 (h.r1 hr) (h.r2 hr) i
theorem within_0 {σ : ho_H} {x a b : Int32} (h : x < a ∨ b < x) : f_Md_within G N σ x a b = some 0 := by rw [within_S, if_pos h]
theorem within_1 {σ : ho_H} {x a b : Int32} (h : ¬ (x < a ∨ b < x)) : f_Md_within G N σ x a b = some 1 := by rw [within_S, if_neg h]
theorem cls.ck (h : cls G σ w O C cc bf W PL ρ dr) : σ.2.2 (O + 1) = some (.inr (0, [.int C.1, .int C.2.1, .int C.2.2.1, .int C.2.2.2])) := h.1.2.2.2.2
theorem interval_S (h : cls G σ w O C cc bf W PL ρ dr) {x : Int32} (hz : ¬ C.2.1 = 0) : f_Ck_intervalAt G N σ (O + 1) x = some (x / C.2.1 + 1) := by
  unfold f_Ck_intervalAt
  rw [c_I h.ck rfl, bd_S, ho_nz_S hz, bd_S]
theorem minterval_S {R : ho_H} (hm : mdl I A C cc bf W PL ρ dr) (hz : ¬ C.2.1 = 0) : f_Md_interval G N (md G R M I A) M = some (C.2.2.2 / C.2.1 + 1) := by
  obtain ⟨-, ⟨h1, h2, h3, h4⟩, -⟩ := hm
  unfold f_Md_interval
  rw [md_i16, bd_S, md_i14, bd_S, h2, h4, ho_nz_S hz, bd_S]
theorem ckV.nz {lag tk er tm : Nat} (h : ckV C lag tk er tm) : ¬ C.2.1 = 0 := by
  obtain ⟨h1, h2, h3, h4, h5, -⟩ := h
  rw [h1]
  show ¬ ii tk = ii 0
  rw [ii_inj (by omega) (by decide)]
  omega
theorem ckV.iv {lag tk er tm : Nat} (h : ckV C lag tk er tm) : C.2.2.2 / C.2.1 + 1 = ii (tm / tk + 1) := by
  have ht := h.tm
  obtain ⟨h1, h2, h3, h4, h5, -⟩ := h
  rw [h1]
  show ii tm / ii tk + 1 = _
  rw [ii_div (by omega) (by omega)]
  exact ii_add _ 1
/-- tick -/
theorem J_tick {x : Int32} (hg : good G σ w O n C cc bf W PL ρ dr) (hr : roomy G O n) : J G N σ O n (f_Lw_tick G N σ O x (O + 226)) (fun s => f_Md_tick G N s (O + 195) x) := by
  obtain ⟨⟨lag, tk, er, tm, hck⟩, i2, i3, i4, i5⟩ := hg.2.2.1
  have hz := hck.nz
  have htm := hck.tm
  unfold f_Lw_tick
  by_cases h1 : x < 1 ∨ 100000 < x
  · have ho : f_Of_tick G N σ O x = (ho_thr G σ).bind fun σ1 => some (σ1, .inl 1) := by
      unfold f_Of_tick f_Of_tick_j11
      rcases h1 with h1 | h1
      · rw [if_pos h1]
      · by_cases h2 : x < 1
        · rw [if_pos h2]
        · rw [if_neg h2, if_neg (Int32.not_le.mpr h1)]
    refine glue hg (lw_ex (k := 1) (v := 0) hg.1.2.1 (by rw [ho]; exact hg.th hr 1) (fun _ => rfl) (by decide)) (fun I A hm => ms_fail hm (by decide) fun R => ?_) hg.2.2.1.succ (by decide)
    unfold f_Md_tick
    rw [md_p12, bd_S, within_0 h1, bd_S, if_neg (fun h => h rfl), md_f, bd_S, fail_S, md_mono2, bd2_S]
    rfl
  · have h2 : ¬ x < 1 := fun h => h1 (Or.inl h)
    have h3 : x ≤ 100000 := Int32.not_lt.mp fun h => h1 (Or.inr h)
    have hx0 : ¬ x < 0 := by
      intro h
      apply h2
      rw [Int32.lt_iff_toInt_lt] at h ⊢
      have e0 : (0 : Int32).toInt = 0 := rfl
      have e1 : (1 : Int32).toInt = 1 := rfl
      omega
    obtain ⟨d, hd, rfl⟩ := rng2 (b := 100000) (by decide) hx0 (fun h => h1 (Or.inr h))
    have hc := hck
    obtain ⟨hC, l1, l2, t1, t2, t3, t4⟩ := hck
    have et : C.2.2.2 = ii tm := by rw [hC]
    have ek : C.2.1 = ii tk := by rw [hC]
    have esum : C.2.2.2 + ii d = ii (tm + d) := by rw [et, ii_add]
    have equo : (C.2.2.2 + ii d) / C.2.1 + 1 = ii ((tm + d) / tk + 1) := by
      rw [esum, ek, ii_div (by omega) (by omega)]
      exact ii_add _ 1
    have hdv : (tm + d) / tk < 2147483647 := Nat.lt_of_le_of_lt (Nat.div_le_self _ _) (by omega)
    have g1 := hg.1
    by_cases h5 : (tm + d) / tk + 1 ≤ 512
    · -- the new clock
      have p1 : ho_p σ (O + 1) 0 3 (.int (C.2.2.2 + ii d)) = some (ho_set σ (O + 1) (.inr (0, [.int C.1, .int C.2.1, .int C.2.2.1, .int (C.2.2.2 + ii d)]))) := c_p g1.ck (show 3 < 4 by decide)
      have f1 : frm σ w (ho_set σ (O + 1) (.inr (0, [.int C.1, .int C.2.1, .int C.2.2.1, .int (C.2.2.2 + ii d)]))) w (fun a _ => a = O + 1) := frm.set rfl
      have w1 : wf G (ho_set σ (O + 1) (.inr (0, [.int C.1, .int C.2.1, .int C.2.2.1, .int (C.2.2.2 + ii d)]))) := g1.1.1.set g1.ck
      have ho : OS G σ w O (f_Of_tick G N σ O (ii d)) (.inr (C.2.2.2 + ii d)) (C.1, C.2.1, C.2.2.1, C.2.2.2 + ii d) cc bf W PL ρ dr := by
        refine ⟨ho_set σ (O + 1) (.inr (0, [.int C.1, .int C.2.1, .int C.2.2.1, .int (C.2.2.2 + ii d)])), w, ?_, ?_, f1.mono fun a _ ht => by intro hh; omega, Nat.le_add_right _ _, Nat.le_add_right _ _⟩
        · unfold f_Of_tick
          rw [if_neg h2, if_pos h3, c_R g1.2.1 rfl, bd_S, bd_S, c_I g1.ck rfl, bd_S, c_f g1.ck, bd_S, interval_S g1 hz, bd_S, equo, if_pos (by rw [show (512 : Int32) = ii 512 from rfl, ii_le (by omega) (by decide)]; exact h5), bd_S, c_I g1.ck rfl, bd_S, p1, bd_S, c_R (show (ho_set σ (O + 1) _).2.2 O = _ by rw [set_ne (by omega)]; exact g1.2.1) rfl, bd_S, c_I set_at rfl, bd_S]
        · obtain ⟨⟨b1, b2, b3, ⟨L, B, b4⟩, b5⟩, c2, c3, c4, c5, c6, c7, c8, c9⟩ := g1
          have bs : ho_set σ (O + 1) (.inr (0, [.int C.1, .int C.2.1, .int C.2.2.1, .int (C.2.2.2 + ii d)])) = sl G (ho_set σ (O + 1) (.inr (0, [.int C.1, .int C.2.1, .int C.2.2.1, .int (C.2.2.2 + ii d)]))) (O + 2) L B := by
            have := sl_setO (G := G) (R := σ) (S := O + 2) (L := L) (B := B) (a := O + 1) (e := .inr (0, [.int C.1, .int C.2.1, .int C.2.2.1, .int (C.2.2.2 + ii d)])) (Or.inl (by omega))
            rw [← b4] at this
            exact this
          exact ⟨⟨w1, b2, b3, ⟨L, B, bs⟩, set_at⟩, c2.fr b1 f1 (by omega), c3.fr b1 f1 (by omega), c4.fr b1 f1 (by omega), c5.fr b1 f1 (fun a a1 a2 => by omega), c6.fr b1 f1 (by omega) (fun a ha => by omega) (fun a ha => by omega), c7.fr b1 f1 (by omega), c8.fr b1 f1 (fun a a1 a2 => by omega) (fun a o a1 a2 => by omega), c9.fr b1 f1 (by omega)⟩
      refine glue hg (lw_ok hg.1.2.1 ho) (fun I A hm R => ?_) ⟨⟨lag, tk, er, tm + d, by rw [hC]; show (ii lag, ii tk, ii er, ii tm + ii d) = _; rw [ii_add], l1, l2, t1, t2, t3, h5⟩, i2, i3, i4, fun r hr' => ⟨(i5 r hr').1, (i5 r hr').2.1, by have := (i5 r hr').2.2; omega⟩⟩ (by decide)
      obtain ⟨m1, ⟨m2, m3, m4, m5⟩, m6, m7, m8, m9, m10, m11⟩ := hm
      refine ⟨upI (upI I 12 0) 16 (C.2.2.2 + ii d), A, C.2.2.2 + ii d, ?_, by rw [upI_nn (by decide), upI_ee]; rfl, fun _ => rfl, ⟨m1, ⟨by rw [upI_nn (by decide), upI_nn (by decide)]; exact m2, by rw [upI_nn (by decide), upI_nn (by decide)]; exact m3, by rw [upI_nn (by decide), upI_nn (by decide)]; exact m4, upI_ee⟩, by rw [upI_nn (by decide), upI_nn (by decide)]; exact m6, by rw [upI_nn (by decide), upI_nn (by decide)]; exact m7, m8, m9, m10, m11⟩⟩
      unfold f_Md_tick
      rw [md_p12, bd_S, within_1 h1, bd_S, if_pos (by decide), md_i16, bd_S, md_i14, bd_S, upI_nn (show (16 : Nat) ≠ 12 by decide), upI_nn (show (14 : Nat) ≠ 12 by decide), m3, m5, ho_nz_S hz, bd_S, equo, if_pos (by rw [show (512 : Int32) = ii 512 from rfl, ii_le (by omega) (by decide)]; exact h5), bd_S, md_p16, bd_S, md_i16, bd_S, upI_ee]
    · have ho : f_Of_tick G N σ O (ii d) = (ho_thr G σ).bind fun σ1 => some (σ1, .inl 0) := by
        unfold f_Of_tick
        rw [if_neg h2, if_pos h3, c_R g1.2.1 rfl, bd_S, bd_S, c_I g1.ck rfl, bd_S, c_f g1.ck, bd_S, interval_S g1 hz, bd_S, equo, if_neg (by rw [show (512 : Int32) = ii 512 from rfl, ii_le (by omega) (by decide)]; exact h5)]
      refine glue hg (lw_ex (k := 2) (v := 0) hg.1.2.1 (by rw [ho]; exact hg.th hr 0) (fun _ => rfl) (by decide)) (fun I A hm => ms_fail hm (by decide) fun R => ?_) hg.2.2.1.succ (by decide)
      obtain ⟨m1, ⟨m2, m3, m4, m5⟩, -⟩ := hm
      unfold f_Md_tick
      rw [md_p12, bd_S, within_1 h1, bd_S, if_pos (by decide), md_i16, bd_S, md_i14, bd_S, upI_nn (show (16 : Nat) ≠ 12 by decide), upI_nn (show (14 : Nat) ≠ 12 by decide), m3, m5, ho_nz_S hz, bd_S, equo, if_neg (by rw [show (512 : Int32) = ii 512 from rfl, ii_le (by omega) (by decide)]; exact h5), md_f, bd_S, fail_S, md_mono2, bd2_S]
      rfl
end OP
