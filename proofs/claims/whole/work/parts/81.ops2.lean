/-! load, drift, count -/
section OQ
variable {G : ho_G} {σ : ho_H} {w : Nat → Nat} {N O n M : Nat} {C : CK} {cc : Nat} {bf : Nat → Int32} {W : Nat → Nat → Int32} {PL : List PQ} {ρ : Nat → RS} {dr : Nat → Int32} {I : Nat → Int32} {A : Nat → Nat → Int32}
theorem mrc.eq2 {A' : Nat → Nat → Int32} {r : Nat} {s : RS} (h : mrc A r s) (e : ∀ j, 24 ≤ j → j ≤ 36 → A' j = A j) : mrc A' r s := ⟨h.1.eq (e 24 (by decide) (by decide)) (e 25 (by decide) (by decide)) (e 26 (by decide) (by decide)) (e 27 (by decide) (by decide)), h.2.1.eq (e 29 (by decide) (by decide)) (e 30 (by decide) (by decide)) (e 31 (by decide) (by decide)), h.2.2.1.eq (e 32 (by decide) (by decide)) (e 33 (by decide) (by decide)) (e 36 (by decide) (by decide)), h.2.2.2.eq (e 28 (by decide) (by decide))⟩
theorem isRec_S {σ : ho_H} {a : Nat} {x : Int32} : f_Of_isReceiver G N σ a x = some (if x < 0 ∨ 7 < x then 0 else 1) := by
  unfold f_Of_isReceiver f_Of_isReceiver_j14 f_Of_isReceiver_j15
  by_cases h1 : x < 0
  · rw [if_pos h1, if_pos (Or.inl h1)]
    rfl
  · rw [if_neg h1]
    obtain ⟨e, hn⟩ := ge0 h1
    by_cases h2 : 7 < x
    · rw [if_pos (Or.inr h2), if_pos]
      · rfl
      · rw [e, show (7 : Int32) = ii 7 from rfl, ii_lt (by decide) hn] at h2
        rw [e, show (8 : Int32) = ii 8 from rfl, ii_le (by decide) hn]
        omega
    · rw [if_neg (show ¬ (x < 0 ∨ 7 < x) from fun h => by rcases h with h | h <;> contradiction), if_neg]
      · rfl
      · rw [e, show (7 : Int32) = ii 7 from rfl, ii_lt (by decide) hn] at h2
        rw [e, show (8 : Int32) = ii 8 from rfl, ii_le (by decide) hn]
        omega
theorem lt_succ {x : Int32} {b : Nat} (hb : b < 2147483647) (h0 : ¬ x < 0) : (x < ii (b + 1)) = ¬ ii b < x := by
  obtain ⟨e, hn⟩ := ge0 h0
  rw [e, ii_lt hn (by omega), ii_lt (by omega) hn]
  exact propext (by omega)
/-- load -/
theorem J_load {x y : Int32} (hg : good G σ w O n C cc bf W PL ρ dr) (hr : roomy G O n) : J G N σ O n (f_Lw_load G N σ O x y (O + 226)) (fun s => f_Md_load G N s (O + 195) x y) := by
  have g1 := hg.1
  unfold f_Lw_load
  by_cases h1 : x < 0 ∨ 7 < x
  · have ho : f_Of_load G N σ O x y = (ho_thr G σ).bind fun σ1 => some (σ1, .inl 2) := by
      unfold f_Of_load f_Of_load_j10
      by_cases h2 : x < 0
      · rw [if_pos h2]
      · rw [if_neg h2, if_neg]
        intro h3
        rw [show (8 : Int32) = ii (7 + 1) from rfl, lt_succ (by decide) h2] at h3
        rcases h1 with h1 | h1
        · exact h2 h1
        · exact h3 h1
    refine glue hg (lw_ex (k := 1) (v := 0) g1.2.1 (by rw [ho]; exact hg.th hr 2) (fun _ => rfl) (by decide)) (fun I A hm => ms_fail hm (by decide) fun R => ?_) hg.2.2.1.succ (by decide)
    unfold f_Md_load
    rw [md_p12, bd_S, within_0 h1, bd_S, if_neg (fun h => h rfl), md_f, bd_S, fail_S, md_mono2, bd2_S]
    rfl
  · have h2 : ¬ x < 0 := fun h => h1 (Or.inl h)
    obtain ⟨i, hi, rfl⟩ := rng2 (b := 7) (by decide) h2 (fun h => h1 (Or.inr h))
    obtain ⟨f, o1, o2⟩ := g1.2.2.1
    have f1 : frm σ w (ho_set σ (O + 7) (.inl (gc G 0, 8, .inl (upd f i y)))) w (fun a _ => a = O + 7) := frm.set rfl
    have w1 : wf G (ho_set σ (O + 7) (.inl (gc G 0, 8, .inl (upd f i y)))) := g1.1.1.set o1
    have ho : OS G σ w O (f_Of_load G N σ O (ii i) y) (.inr (bf i)) C cc (upd bf i y) W PL ρ dr := by
      refine ⟨ho_set σ (O + 7) (.inl (gc G 0, 8, .inl (upd f i y))), w, ?_, ?_, f1.mono fun a _ ht => by intro hh; omega, Nat.le_add_right _ _, Nat.le_add_right _ _⟩
      · unfold f_Of_load
        rw [if_neg h2, if_pos (by rw [show (8 : Int32) = ii 8 from rfl, ii_lt (by omega) (by decide)]; omega), c_R g1.2.1 rfl, bd_S, c_ld o1 (by omega) (by omega), bd_S, bd_S, c_st o1 (by omega) (by omega), bd_S, o2 i (by omega)]
      · obtain ⟨c1, c2, c3, c4, c5, c6, c7, c8, c9⟩ := g1
        have b1 := c1.1
        refine ⟨c1.fr f1 w1 (fun a a1 a2 => by omega), c2.fr b1 f1 (by omega), ⟨_, set_at, fun j hj => ?_⟩, c4.fr b1 f1 (by omega), c5.fr b1 f1 (fun a a1 a2 => by omega), c6.fr b1 f1 (by omega) (fun a ha => by omega) (fun a ha => by omega), c7.fr b1 f1 (by omega), c8.fr b1 f1 (fun a a1 a2 => by omega) (fun a o a1 a2 => by omega), c9.fr b1 f1 (by omega)⟩
        unfold upd
        by_cases e : j = i
        · rw [if_pos e, if_pos e]
        · rw [if_neg e, if_neg e]
          exact o2 j hj
    refine glue hg (lw_ok g1.2.1 ho) (fun I A hm R => ?_) hg.2.2.1.succ (by decide)
    have hm' := hm
    obtain ⟨m1, m2, m6, m7, m8, m9, m10, m11⟩ := hm
    refine ⟨upI I 12 0, upA A 19 (upd (A 19) i y), bf i, ?_, upI_ee, fun _ => rfl, ?_⟩
    · unfold f_Md_load
      rw [md_p12, bd_S, within_1 h1, bd_S, if_pos (by decide), md_r19, bd_S, md_ld19 (by omega), bd_S, bd_S, md_st19 (by omega), bd_S, m8 i (by omega)]
    · have := hm'.i (I' := upI I 12 0) fun j h1 h2 => by rw [upI_nn (by omega)]
      obtain ⟨m1, m2, m6, m7, m8, m9, m10, m11⟩ := this
      refine ⟨⟨fun k hk => by rw [upA_ne (by decide)]; exact m1.1 k hk, fun k hk => by rw [upA_ne (by decide)]; exact m1.2 k hk⟩, m2, m6, m7, fun j hj => ?_, by rw [upA_ne (by decide)]; exact m9, by rw [upA_ne (by decide), upA_ne (by decide)]; exact m10, fun r hr' => ⟨by rw [upA_ne (by decide)]; exact (m11 r hr').1, (m11 r hr').2.eq2 fun j h1 h2 => upA_ne (by omega)⟩⟩
      · rw [upA_eq]
        unfold upd
        by_cases e : j = i
        · rw [if_pos e, if_pos e]
        · rw [if_neg e, if_neg e]
          exact m8 j hj
theorem cRc.up {σ' : ho_H} {w' : Nat → Nat} {r0 : Nat} {s' : RS} {d' : Int32} (h : cRc G σ w O ρ dr) (hw : wf G σ) (hf : frm σ w σ' w' (TR O (O + 27 + 21 * r0))) (hr0 : r0 < 8) (h1 : rcv G σ' w' O (O + 27 + 21 * r0) s' d') : cRc G σ' w' O (fun r => if r = r0 then s' else ρ r) (fun r => if r = r0 then d' else dr r) := by
  intro r hr
  dsimp only
  by_cases e : r = r0
  · subst e
    rw [if_pos rfl, if_pos rfl]
    exact h1
  · rw [if_neg e, if_neg e]
    refine (h r hr).fr hw hf (fun a a1 a2 ht => ?_) (fun a o a1 a2 ht => ?_)
    · rcases ht with ht | ht | ht <;> omega
    · rcases ht with ht | ht | ht <;> omega
theorem inv.up {r0 : Nat} {s' : RS} (h : inv C cc PL ρ n) (h1 : rsV s') (h2 : ndV s'.1 s'.2.1) (h3 : s'.2.1.length + s'.2.2.1.length ≤ n + 1) : inv C cc PL (fun r => if r = r0 then s' else ρ r) (n + 1) := by
  obtain ⟨a1, a2, a3, a4, a5⟩ := h.succ
  refine ⟨a1, a2, a3, a4, fun r hr => ?_⟩
  dsimp only
  by_cases e : r = r0
  · rw [if_pos e]
    exact ⟨h1, h2, h3⟩
  · rw [if_neg e]
    exact a5 r hr
/-- cells of the class that a receiver's call leaves alone -/
theorem cls.up {σ' : ho_H} {w' : Nat → Nat} {r0 : Nat} {s' : RS} {d' : Int32} (h : cls G σ w O C cc bf W PL ρ dr) (hr : r0 < 8) (hf : frm σ w σ' w' (TR O (O + 27 + 21 * r0))) (hb : bse G σ' O C) (h1 : rcv G σ' w' O (O + 27 + 21 * r0) s' d') : cls G σ' w' O C cc bf W PL (fun r => if r = r0 then s' else ρ r) (fun r => if r = r0 then d' else dr r) := by
  obtain ⟨c1, c2, c3, c4, c5, c6, c7, c8, c9⟩ := h
  have b1 := c1.1
  have hT : ∀ a o, (a < O + 2 ∨ O + 7 ≤ a) → (a < O + 27 + 21 * r0 ∨ O + 48 + 21 * r0 ≤ a) → (a < O + 227 ∨ (o ≠ O + 27 + 21 * r0 + 2 ∧ o ≠ O + 27 + 21 * r0 + 3)) → ¬ TR O (O + 27 + 21 * r0) a o := fun a o q1 q2 q3 ht => by rcases ht with ht | ht | ht <;> omega
  exact ⟨hb, c2.fr b1 hf (hT _ _ (by omega) (by omega) (by omega)), c3.fr b1 hf (hT _ _ (by omega) (by omega) (by omega)), c4.fr b1 hf (hT _ _ (by omega) (by omega) (by omega)), c5.fr b1 hf (fun a a1 a2 => hT _ _ (by omega) (by omega) (by omega)), c6.fr b1 hf (hT _ _ (by omega) (by omega) (by omega)) (fun a ha => hT _ _ (by omega) (by omega) (by omega)) (fun a ha => hT _ _ (by omega) (by omega) (by omega)), c7.fr b1 hf (hT _ _ (by omega) (by omega) (by omega)), c8.up b1 hf hr h1, c9.fr b1 hf (hT _ _ (by omega) (by omega) (by omega))⟩
theorem cls.ld (h : cls G σ w O C cc bf W PL ρ dr) {r : Nat} (hr : r < 8) : ho_ldR G σ (O + 26) 4 (ii r) = some (O + 27 + 21 * r) := by
  obtain ⟨f, h1, h2⟩ := h.2.2.2.2.2.2.1
  exact c_ldR h1 hr (by omega) (h2 r hr)
theorem TR_TT {b a o : Nat} (h1 : O + 27 ≤ b) (h2 : b + 21 ≤ O + 195) (h : TR O b a o) : TT O a o := by
  intro hh
  rcases h with h | h | h <;> omega
/-- drift -/
theorem J_drift {x y : Int32} (hg : good G σ w O n C cc bf W PL ρ dr) (hr : roomy G O n) : J G N σ O n (f_Lw_drift G N σ O x y (O + 226)) (fun s => f_Md_drift G N s (O + 195) x y) := by
  have g1 := hg.1
  unfold f_Lw_drift
  by_cases h1 : x < 0 ∨ 7 < x
  · have ho : f_Of_drift G N σ O x y = (ho_thr G σ).bind fun σ1 => some (σ1, .inl 2) := by
      unfold f_Of_drift
      rw [c_f g1.2.1, bd_S, isRec_S, if_pos h1, bd_S, if_neg (fun h => h rfl)]
    refine glue hg (lw_ex (k := 1) (v := 0) g1.2.1 (by rw [ho]; exact hg.th hr 2) (fun _ => rfl) (by decide)) (fun I A hm => ms_fail hm (by decide) fun R => ?_) hg.2.2.1.succ (by decide)
    unfold f_Md_drift
    rw [md_p12, bd_S, within_0 h1, bd_S, if_neg (fun h => h rfl), md_f, bd_S, fail_S, md_mono2, bd2_S]
    rfl
  · obtain ⟨r, hr8, rfl⟩ := rng2 (b := 7) (by decide) (fun h => h1 (Or.inl h)) (fun h => h1 (Or.inr h))
    by_cases h2 : y < (-10000) ∨ 10000 < y
    · have ho : f_Of_drift G N σ O (ii r) y = (ho_thr G σ).bind fun σ1 => some (σ1, .inl 1) := by
        unfold f_Of_drift f_Of_drift_j30
        rw [c_f g1.2.1, bd_S, isRec_S, if_neg h1, bd_S, if_pos (by decide)]
        rcases h2 with h2 | h2
        · rw [if_pos h2]
        · by_cases h3 : y < (-10000)
          · rw [if_pos h3]
          · rw [if_neg h3, if_neg (Int32.not_le.mpr h2)]
      refine glue hg (lw_ex (k := 2) (v := 0) g1.2.1 (by rw [ho]; exact hg.th hr 1) (fun _ => rfl) (by decide)) (fun I A hm => ms_fail hm (by decide) fun R => ?_) hg.2.2.1.succ (by decide)
      unfold f_Md_drift
      rw [md_p12, bd_S, within_1 h1, bd_S, if_pos (by decide), within_0 h2, bd_S, if_neg (fun h => h rfl), md_f, bd_S, fail_S, md_mono2, bd2_S]
      rfl
    · have hr' : r < 8 := by omega
      have rc := g1.2.2.2.2.2.2.2.1 r hr'
      have f1 : frm σ w (ho_set σ (O + 27 + 21 * r) (.inr (4, [.ref (O + 1), .ref (O + 2), .ref (O + 27 + 21 * r + 1), .ref (O + 27 + 21 * r + 2), .ref (O + 27 + 21 * r + 3), .ref (O + 27 + 21 * r + 4), .int (ii (ρ r).2.2.1.length), .int y]))) w (fun a _ => a = O + 27 + 21 * r) := frm.set rfl
      have w1 : wf G (ho_set σ (O + 27 + 21 * r) (.inr (4, [.ref (O + 1), .ref (O + 2), .ref (O + 27 + 21 * r + 1), .ref (O + 27 + 21 * r + 2), .ref (O + 27 + 21 * r + 3), .ref (O + 27 + 21 * r + 4), .int (ii (ρ r).2.2.1.length), .int y]))) := g1.1.1.set rc.2.1
      have p1 : ho_p σ (O + 27 + 21 * r) 4 7 (.int y) = some (ho_set σ (O + 27 + 21 * r) (.inr (4, [.ref (O + 1), .ref (O + 2), .ref (O + 27 + 21 * r + 1), .ref (O + 27 + 21 * r + 2), .ref (O + 27 + 21 * r + 3), .ref (O + 27 + 21 * r + 4), .int (ii (ρ r).2.2.1.length), .int y]))) := c_p rc.2.1 (show 7 < 8 by decide)
      have fT : frm σ w (ho_set σ (O + 27 + 21 * r) (.inr (4, [.ref (O + 1), .ref (O + 2), .ref (O + 27 + 21 * r + 1), .ref (O + 27 + 21 * r + 2), .ref (O + 27 + 21 * r + 3), .ref (O + 27 + 21 * r + 4), .int (ii (ρ r).2.2.1.length), .int y]))) w (TR O (O + 27 + 21 * r)) := f1.mono fun a _ ht => Or.inr (Or.inl (by omega))
      have rc1 := rc.outs (os := (ρ r).2.2.1) (dr' := y) g1.1.1 (f1.mono fun a _ ht => Or.inl ht) (rc.2.2.2.2.1.fr g1.1.1 f1 (by omega) (fun a ha => by omega) (fun a ha => by omega)) set_at
      have ho : OS G σ w O (f_Of_drift G N σ O (ii r) y) (.inr (dr r)) C cc bf W PL (fun i => if i = r then ρ r else ρ i) (fun i => if i = r then y else dr i) := by
        refine ⟨_, w, ?_, g1.up hr' fT (g1.1.fr f1 w1 (fun a a1 a2 => by omega)) rc1, fT.mono fun a _ ht => TR_TT (by omega) (by omega) ht, Nat.le_add_right _ _, Nat.le_add_right _ _⟩
        unfold f_Of_drift
        rw [c_f g1.2.1, bd_S, isRec_S, if_neg h1, bd_S, if_pos (by decide), if_neg (fun h => h2 (Or.inl h)), if_pos (Int32.not_lt.mp fun h => h2 (Or.inr h)), c_R g1.2.1 rfl, bd_S, g1.ld hr', bd_S, rc.i7, bd_S, bd_S, g1.ld hr', bd_S, p1, bd_S]
      have iv := hg.2.2.1.2.2.2.2 r hr'
      refine glue hg (lw_ok g1.2.1 ho) (fun I A hm R => ?_) (hg.2.2.1.up iv.1 iv.2.1 (by have := iv.2.2; omega)) (by decide)
      have hm' := hm.i (I' := upI I 12 0) fun j h1 h2 => by rw [upI_nn (by omega)]
      obtain ⟨m1, m2, m6, m7, m8, m9, m10, m11⟩ := hm'
      refine ⟨upI I 12 0, upA A 23 (upd (A 23) r y), dr r, ?_, upI_ee, fun _ => rfl, ⟨⟨fun k hk => by rw [upA_ne (by decide)]; exact m1.1 k hk, fun k hk => by rw [upA_ne (by decide)]; exact m1.2 k hk⟩, m2, m6, m7, by rw [upA_ne (by decide)]; exact m8, by rw [upA_ne (by decide)]; exact m9, by rw [upA_ne (by decide), upA_ne (by decide)]; exact m10, fun i hi => ?_⟩⟩
      · unfold f_Md_drift
        rw [md_p12, bd_S, within_1 h1, bd_S, if_pos (by decide), within_1 h2, bd_S, if_pos (by decide), md_r23, bd_S, md_ld23 hr', bd_S, bd_S, md_st23 hr', bd_S, (m11 r hr').1]
      · rw [upA_eq]
        unfold upd
        dsimp only
        have e2 : mrc (upA A 23 (upd (A 23) r y)) i (ρ i) := (m11 i hi).2.eq2 fun j h1 h2 => upA_ne (by omega)
        by_cases e : i = r
        · subst e
          rw [if_pos rfl, if_pos rfl, if_pos rfl]
          exact ⟨rfl, e2⟩
        · rw [if_neg e, if_neg e, if_neg e]
          exact ⟨(m11 i hi).1, e2⟩
/-- count -/
theorem count_S {x : Int32} (hg : good G σ w O n C cc bf W PL ρ dr) : ∃ σ2 v, f_Of_count G N σ O x = some v ∧ f_Md_count G N σ (O + 195) x = some (σ2, v) ∧ σ.1 ≤ σ2.1 ∧ σ.2.1 ≤ σ2.2.1 ∧ (∃ fs, ho_f σ (O + 195) 6 = some fs) ∧ good G σ2 w O (n + 1) C cc bf W PL ρ dr := by
  obtain ⟨g1, ⟨I, A, g2, g3⟩, g4, g5, g6⟩ := hg
  have g4' := g4
  obtain ⟨⟨lag, tk, er, tm, hck⟩, -⟩ := g4
  have hz := hck.nz
  have f2 : frm σ w (md G σ (O + 195) (upI I 12 0) A) w (fun a _ => O + 195 ≤ a ∧ a < O + 195 + 31) := md_frm
  have hO := g1.1.2.1
  have hsz := g1.1.2.2.1
  have w2 : wf G (md G σ (O + 195) (upI I 12 0) A) := md_wf g1.1.1 (by omega) (by omega)
  have hm' := g3.i (I' := upI I 12 0) fun j h1 h2 => by rw [upI_nn (by omega)]
  have gd : good G (md G σ (O + 195) (upI I 12 0) A) w O (n + 1) C cc bf W PL ρ dr := ⟨g1.fr f2 w2 (fun a h1 h2 h => by omega) (fun h => by omega) (fun a o h1 h2 h => by omega), ⟨_, _, md_idem, hm'⟩, g4'.succ, by have h9 : (md G σ (O + 195) (upI I 12 0) A).1 = σ.1 := rfl; rw [h9]; omega, lim (Nat.le_add_right _ _) g6⟩
  obtain ⟨m1, ⟨m2, m3, m4, m5⟩, m6, m7, -⟩ := hm'
  have key : ∃ v, f_Of_count G N σ O x = some v ∧ f_Md_count G N (md G σ (O + 195) I A) (O + 195) x = some (md G σ (O + 195) (upI I 12 0) A, v) := by
    unfold f_Of_count f_Md_count f_Md_count_j55
    rw [md_p12, bd_S]
    by_cases h1 : x < 0 ∨ 3 < x
    · have e : ∀ j, j ≤ 3 → ¬ x = ii j := fun j hj e => by
        rcases h1 with h1 | h1
        · rw [e] at h1
          exact ii_nneg (by omega) h1
        · rw [e, show (3 : Int32) = ii 3 from rfl, ii_lt (by decide) (by omega)] at h1
          omega
      rw [if_neg (show ¬ x = 0 from e 0 (by decide)), if_neg (show ¬ x = 1 from e 1 (by decide)), if_neg (show ¬ x = 2 from e 2 (by decide)), if_neg (show ¬ x = 3 from e 3 (by decide)), within_0 h1, bd_S, if_neg (fun h => h rfl)]
      exact ⟨_, rfl, rfl⟩
    · obtain ⟨j, hj, rfl⟩ := rng2 (b := 3) (by decide) (fun h => h1 (Or.inl h)) (fun h => h1 (Or.inr h))
      rw [within_1 h1, bd_S, if_pos (show ¬ (1 : Int32) = 0 by decide)]
      have hj' : j = 0 ∨ j = 1 ∨ j = 2 ∨ j = 3 := by omega
      rcases hj' with rfl | rfl | rfl | rfl
      · refine ⟨C.2.2.2, ?_, ?_⟩
        · rw [if_pos (show (ii 0 : Int32) = 0 from rfl), c_R g1.2.1 rfl, bd_S, c_I g1.ck rfl, bd_S]
        · rw [if_neg (show ¬ ¬ (ii 0 : Int32) = 0 from fun h => h rfl), md_i16, bd_S, m5]
      · refine ⟨C.2.2.2 / C.2.1 + 1, ?_, ?_⟩
        · rw [if_neg (show ¬ (ii 1 : Int32) = 0 by decide), if_pos (show (ii 1 : Int32) = 1 from rfl), c_R g1.2.1 rfl, bd_S, bd_S, c_I g1.ck rfl, bd_S, c_f g1.ck, bd_S, interval_S g1 hz, bd_S]
        · rw [if_pos (show ¬ (ii 1 : Int32) = 0 by decide), if_neg (show ¬ ¬ (ii 1 : Int32) = 1 from fun h => h rfl), md_f, bd_S, minterval_S (g3.i fun j h1 h2 => by rw [upI_nn (by omega)]) hz, bd_S]
      · refine ⟨ii cc, ?_, ?_⟩
        · rw [if_neg (show ¬ (ii 2 : Int32) = 0 by decide), if_neg (show ¬ (ii 2 : Int32) = 1 by decide), if_pos (show (ii 2 : Int32) = 2 from rfl), c_I g1.2.1 rfl, bd_S]
        · rw [if_pos (show ¬ (ii 2 : Int32) = 0 by decide), if_pos (show ¬ (ii 2 : Int32) = 1 by decide), if_neg (show ¬ ¬ (ii 2 : Int32) = 2 from fun h => h rfl), md_i17, bd_S, m6]
      · refine ⟨ii PL.length, ?_, ?_⟩
        · obtain ⟨fs, hfs⟩ := g1.2.2.2.2.2.1.f
          rw [if_neg (show ¬ (ii 3 : Int32) = 0 by decide), if_neg (show ¬ (ii 3 : Int32) = 1 by decide), if_neg (show ¬ (ii 3 : Int32) = 2 by decide), if_pos (show (ii 3 : Int32) = 3 from rfl), c_R g1.2.1 rfl, bd_S, hfs, bd_S, Al_size_S g1.2.2.2.2.2.1, bd_S]
        · rw [if_pos (show ¬ (ii 3 : Int32) = 0 by decide), if_pos (show ¬ (ii 3 : Int32) = 1 by decide), if_pos (show ¬ (ii 3 : Int32) = 2 by decide), md_i18, bd_S, m7]
  obtain ⟨v, k1, k2⟩ := key
  rw [← g2] at k2
  exact ⟨_, v, k1, k2, Nat.le_refl _, Nat.le_refl _, ⟨_, by rw [g2]; exact md_f⟩, gd⟩
end OQ
