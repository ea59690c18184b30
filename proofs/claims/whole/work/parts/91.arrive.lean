/-! arrive -/
def bump (s : RS) (k : Nat) : RS := (s.1, s.2.1, s.2.2.1, upd s.2.2.2 k (s.2.2.2 k + 1))
def msk1 (q : PQ) (i : Nat) (x : Int32) : PQ := (q.1, upd q.2 i (q.2 i ^^^ x))
theorem msk1_B {q : PQ} {i : Nat} {x : Int32} (h : pkB q) (hi : i < q.1) (hx : isb x) : pkB (msk1 q i x) := by
  refine ⟨h.1, h.2.1, fun k hk => ?_⟩
  show isb (upd q.2 i (q.2 i ^^^ x) k)
  unfold upd
  by_cases e : k = i
  · rw [if_pos e]
    exact isb_xor (h.2.2 i hi) hx
  · rw [if_neg e]
    exact h.2.2 k hk
section AR
variable {G : ho_G} {σ σ' : ho_H} {w w' : Nat → Nat} {N O n M : Nat} {C : CK} {cc : Nat} {bf : Nat → Int32} {W : Nat → Nat → Int32} {PL : List PQ} {ρ : Nat → RS} {dr : Nat → Int32} {I I' : Nat → Int32} {A A' : Nat → Nat → Int32} {R : ho_H}
theorem ma_72 {p : Nat} {q : PQ} {x y z : Int32} (h21 : A 21 p = ii q.1) (hp : p < 200) (hq : q.1 ≤ 68) (hN : 301 < N) : ho_it (f_Md_arrive_l72 G N M x (ii p) y z) N (md G R M I A, 0) = some (md G R M I (upA A 37 (ovr (fun k => A 22 (68 * p + k)) (A 37) q.1))) := by
  refine it_for q.1 (fun k => (md G R M I (upA A 37 (ovr (fun k => A 22 (68 * p + k)) (A 37) k)), ii k)) _ (fun k hk => ?_) ?_ (by omega) (by rw [upA_up0]; rfl)
  · have a3 : 68 * ii p + ii k = ii (68 * p + k) := by rw [show (68 : Int32) = ii 68 from rfl, ii_mul, ii_add]
    unfold f_Md_arrive_l72
    dsimp only
    rw [md_r21, bd_S, md_ld21 hp, bd_S, upA_ne (show (21 : Nat) ≠ 37 by decide), h21, if_neg (by rw [ii_le (by omega) (by omega)]; omega), md_r37, bd_S, md_r22, bd_S, a3, md_ld22 (by omega), bd_S, md_st37 (by omega), bd_S, ii_1, upA_upA, upA_eq, upA_ne (by decide), ovr_up rfl]
  · unfold f_Md_arrive_l72
    dsimp only
    rw [md_r21, bd_S, md_ld21 hp, bd_S, upA_ne (show (21 : Nat) ≠ 37 by decide), h21, if_pos (by rw [ii_le (by omega) (by omega)]; exact Nat.le_refl _)]
/-- the copy -/
theorem newc {p : Nat} {q : PQ} {i : Nat} {x : Int32} (g1 : cls G σ w O C cc bf W PL ρ dr) (hq : PL[p]? = some q) (hb : pkB q) (hi : i < q.1) (r1 : σ.1 + 20 ≤ gC G) (r2 : σ.2.1 + 6000 ≤ gS G) : ∃ b11 σ13 σ16 w16, ho_al G σ 1 (.inr (3, [.null])) = some (new σ 1 (.inr (3, [.null])), σ.1) ∧ ho_gR (new σ 1 (.inr (3, [.null]))) O 5 5 = some (O + 25) ∧ (∃ fs, ho_f (new σ 1 (.inr (3, [.null]))) (O + 25) 7 = some fs) ∧ f_Al_get G N (new σ 1 (.inr (3, [.null]))) (O + 25) (ii p) = some b11 ∧ (∃ fs, ho_f (new σ 1 (.inr (3, [.null]))) b11 3 = some fs) ∧ ho_cv (new σ 1 (.inr (3, [.null]))) (f_Pk_init2 G N (new σ 1 (.inr (3, [.null]))) σ.1 b11) = some σ13 ∧ ho_gR σ13 σ.1 3 0 = some (σ.1 + 1) ∧ ho_ldI G σ13 (σ.1 + 1) (ii i) = some (q.2 i) ∧ ho_stI G σ13 (σ.1 + 1) (ii i) (q.2 i ^^^ x) = some σ16 ∧ cls G σ16 w16 O C cc bf W PL ρ dr ∧ pk G σ16 w16 O σ.1 (msk1 q i x) ∧ frm σ w σ16 w16 (fun _ _ => False) ∧ σ16.1 = σ.1 + 2 ∧ σ16.2.1 = σ.2.1 + (1 + q.1) := by
  obtain ⟨hw, hO, hz, -⟩ := id g1.1
  have h68 := hb.2.1
  have e1 : ho_al G σ 1 (.inr (3, [.null])) = some (new σ 1 (.inr (3, [.null])), σ.1) := al_S (by omega) (by omega)
  have w1 : wf G (new σ 1 (.inr (3, [.null]))) := hw.new (by omega)
  have f1 : frm σ w (new σ 1 (.inr (3, [.null]))) w (fun _ _ => False) := frm.new fun _ _ => rfl
  have g2 : cls G (new σ 1 (.inr (3, [.null]))) w O C cc bf W PL ρ dr := g1.fr f1 w1 (fun _ _ _ h => h) (fun h => h) (fun _ _ _ _ h => h)
  obtain ⟨fl, hfl⟩ := g2.2.2.2.2.2.1.f
  obtain ⟨b11, p1, p2⟩ := Al_get_S (N := N) g2.2.2.2.2.2.1 hq
  obtain ⟨fp, hfp⟩ := p2.f
  obtain ⟨m', q1, q2, q3, q4, q5, q6⟩ := p2
  have e2 := Pk_init2_S (N := N) (p := σ.1) w1 new_at q1 q2 (show σ.1 + 1 + 1 ≤ gC G by omega) (show σ.2.1 + 1 + q.1 ≤ gS G by omega)
  have fs : (new σ 1 (.inr (3, [.null]))).1 = σ.1 + 1 := rfl
  generalize hσ2 : ho_set (new (new σ 1 (.inr (3, [.null]))) q.1 (.inl (gc G 0, q.1, .inl q.2))) σ.1 (.inr (3, [.ref (new σ 1 (.inr (3, [.null]))).1])) = σ2 at e2
  have z1 : σ2.1 = σ.1 + 2 := by rw [← hσ2]; rfl
  have z2 : σ2.2.1 = σ.2.1 + (1 + q.1) := by rw [← hσ2]; show σ.2.1 + 1 + q.1 = _; omega
  have c1 : σ2.2.2 σ.1 = some (.inr (3, [.ref (σ.1 + 1)])) := by rw [← hσ2, set_at, fs]
  have c2 : σ2.2.2 (σ.1 + 1) = some (.inl (gc G 0, q.1, .inl q.2)) := by rw [← hσ2, set_ne (by omega)]; exact new_at
  have c3 : ∀ a, a ≠ σ.1 → a ≠ σ.1 + 1 → σ2.2.2 a = σ.2.2 a := fun a h1 h2 => by rw [← hσ2, set_ne h1, new_ne (by rw [fs]; exact h2), new_ne h1]
  have e3 : ho_cv (new σ 1 (.inr (3, [.null]))) (f_Pk_init2 G N (new σ 1 (.inr (3, [.null]))) σ.1 b11) = some σ2 := by rw [e2, cv_S (by rw [fs]; omega) (by show σ.2.1 + 1 ≤ _; omega)]
  have d3 : ∀ a, a ≠ σ.1 → a ≠ σ.1 + 1 → (ho_set σ2 (σ.1 + 1) (.inl (gc G 0, q.1, .inl (upd q.2 i (q.2 i ^^^ x))))).2.2 a = σ.2.2 a := fun a h1 h2 => by rw [set_ne h2, c3 a h1 h2]
  have ff : frm σ w (ho_set σ2 (σ.1 + 1) (.inl (gc G 0, q.1, .inl (upd q.2 i (q.2 i ^^^ x))))) (fun a => if a = σ.1 ∨ a = σ.1 + 1 then 0 else w a) (fun _ _ => False) := ⟨by show σ.1 ≤ σ2.1; omega, by show σ.2.1 ≤ σ2.2.1; omega, fun a ha => ⟨if_neg (by omega), fun _ => d3 a (by omega) (by omega)⟩⟩
  have w2 : wf G (ho_set σ2 (σ.1 + 1) (.inl (gc G 0, q.1, .inl (upd q.2 i (q.2 i ^^^ x))))) := ⟨fun a ha => by rw [d3 a (by omega) (by omega)]; exact hw.1 a ha, fun a ha => by
    have ha' : σ2.1 ≤ a := ha
    rw [d3 a (by omega) (by omega)]
    exact hw.2 a (by omega)⟩
  exact ⟨b11, σ2, _, _, e1, c_R g2.2.1 rfl, ⟨_, hfl⟩, p1, ⟨_, hfp⟩, e3, c_R c1 rfl, c_ld c2 hi (by omega), c_st c2 hi (by omega), g1.fr ff w2 (fun _ _ _ h => h) (fun h => h) (fun _ _ _ _ h => h), ⟨σ.1 + 1, by rw [set_ne (by omega)]; exact c1, set_at, if_pos (Or.inl rfl), if_pos (Or.inr rfl), by omega, by omega⟩, ff, z1, z2⟩
/-- arrive -/
theorem J_arrive {x y z u : Int32} (hg : good G σ w O n C cc bf W PL ρ dr) (hr : roomy G O n) (ht : gtab G) (hA : gA G 4 < gB G) (hN : 1001 < N) : J G N σ O n (f_Lw_arrive G N σ O x y z u (O + 226)) (fun s => f_Md_arrive G N s (O + 195) x y z u) := by
  have g1 := hg.1
  have hl := g1.2.2.2.2.2.1.len
  obtain ⟨⟨lag, tk, er, tm, hck⟩, i2, i3, i4, i5⟩ := id hg.2.2.1
  obtain ⟨hC, l1, l2, t1, t2, t3, t4⟩ := id hck
  have hC1 : C.1 = ii lag := by rw [hC]
  unfold f_Lw_arrive
  have fail1 : (f_Of_arrive G N σ O x y z u = (ho_thr G σ).bind fun σ1 => some (σ1, .inl 2)) → (∀ I A, mdl I A C cc bf W PL ρ dr → ∀ R, f_Md_arrive G N (md G R (O + 195) I A) (O + 195) x y z u = some (md G R (O + 195) (upI (upI I 12 0) 12 (ii 1)) A, 0)) → J G N σ O n ((ho_f σ O 5).bind fun _ => bd2 (ho_ck σ (f_Of_arrive G N σ O x y z u)) fun σ2 o3 => sm_e (fun i4 => if i4 = 2 then some (σ2, 1) else if i4 = 1 then some (σ2, 2) else none) (fun v5 => (ho_stL G σ2 (O + 226) 2 0 v5.toInt64).bind fun σ6 => some (σ6, 0)) o3) (fun s => f_Md_arrive G N s (O + 195) x y z u) := fun ho hm => glue hg (lw_ex (k := 1) (v := 0) g1.2.1 (by rw [ho]; exact hg.th hr 2) (fun _ => rfl) (by decide)) (fun I A hmd => ms_fail hmd (by decide) fun R => hm I A hmd R) hg.2.2.1.succ (by decide)
  by_cases h1 : x < 0 ∨ 7 < x
  · refine fail1 ?_ fun I A hm R => ?_
    · unfold f_Of_arrive f_Of_arrive_j17
      rw [c_f g1.2.1, bd_S, isRec_S, if_pos h1, bd_S, if_pos rfl]
    · unfold f_Md_arrive f_Md_arrive_j45
      rw [md_p12, bd_S, within_0 h1, bd_S, if_pos rfl, md_f, bd_S, fail_S, md_mono2, bd2_S]
      rfl
  · obtain ⟨r, hr8, rfl⟩ := rng2 (b := 7) (by decide) (fun h => h1 (Or.inl h)) (fun h => h1 (Or.inr h))
    have hr' : r < 8 := by omega
    have rc := g1.2.2.2.2.2.2.2.1 r hr'
    obtain ⟨v1, v2, v3⟩ := i5 r hr'
    have hn := hr.2.2.2
    rcases idx (x := y) (m := PL.length) (by omega) with ⟨h2, h3⟩ | ⟨p, hp, rfl, h2, h3⟩
    · refine fail1 ?_ fun I A hm R => ?_
      · unfold f_Of_arrive f_Of_arrive_j17
        rw [c_f g1.2.1, bd_S, isRec_S, if_neg h1, bd_S, if_neg (show ¬ (1 : Int32) = 0 by decide), bd_S, hasPB_0 g1 h3, bd_S, if_neg (fun h => h rfl)]
      · unfold f_Md_arrive f_Md_arrive_j45
        rw [md_p12, bd_S, within_1 h1, bd_S, if_neg (show ¬ (1 : Int32) = 0 by decide), md_i18, bd_S, upI_nn (by decide), hm.2.2.2.1, within_0 h2, bd_S, if_pos rfl, md_f, bd_S, fail_S, md_mono2, bd2_S]
        rfl
    · obtain ⟨q, hq⟩ : ∃ q, PL[p]? = some q := ⟨_, List.getElem?_eq_getElem hp⟩
      have hb := i4 p q hq
      have hb1 := hb.1
      have hb2 := hb.2.1
      rcases idx (x := z) (m := q.1) (by omega) with ⟨h4, h5⟩ | ⟨i, hi, rfl, h4, h5⟩
      · refine fail1 ?_ fun I A hm R => ?_
        · unfold f_Of_arrive f_Of_arrive_j17
          rw [c_f g1.2.1, bd_S, isRec_S, if_neg h1, bd_S, if_neg (show ¬ (1 : Int32) = 0 by decide), bd_S, (hasPB_1 g1 hq).1 h5, bd_S, if_neg (fun h => h rfl)]
        · unfold f_Md_arrive f_Md_arrive_j45
          rw [md_p12, bd_S, within_1 h1, bd_S, if_neg (show ¬ (1 : Int32) = 0 by decide), md_i18, bd_S, upI_nn (by decide), hm.2.2.2.1, within_1 h2, bd_S, if_neg (show ¬ (1 : Int32) = 0 by decide), md_r21, bd_S, md_ld21 (by omega), bd_S, (hm.2.2.2.2.2.2.1 p q hq).1, within_0 h4, bd_S, if_neg (fun h => h rfl), md_f, bd_S, fail_S, md_mono2, bd2_S]
          rfl
      · by_cases h6 : u < 0 ∨ 255 < u
        · have ho : f_Of_arrive G N σ O (ii r) (ii p) (ii i) u = (ho_thr G σ).bind fun σ1 => some (σ1, .inl 1) := by
            unfold f_Of_arrive f_Of_arrive_j38
            rw [c_f g1.2.1, bd_S, isRec_S, if_neg h1, bd_S, if_neg (show ¬ (1 : Int32) = 0 by decide), bd_S, (hasPB_1 g1 hq).2 h5, bd_S, if_pos (show ¬ (1 : Int32) = 0 by decide)]
            by_cases h7 : u < 0
            · rw [if_pos h7]
            · rcases h6 with h6 | h6
              · exact absurd h6 h7
              · rw [if_neg h7, if_neg (Int32.not_le.mpr h6)]
          refine glue hg (lw_ex (k := 2) (v := 0) g1.2.1 (by rw [ho]; exact hg.th hr 1) (fun _ => rfl) (by decide)) (fun I A hm => ms_fail hm (by decide) fun R => ?_) hg.2.2.1.succ (by decide)
          unfold f_Md_arrive
          rw [md_p12, bd_S, within_1 h1, bd_S, if_neg (show ¬ (1 : Int32) = 0 by decide), md_i18, bd_S, upI_nn (by decide), hm.2.2.2.1, within_1 h2, bd_S, if_neg (show ¬ (1 : Int32) = 0 by decide), md_r21, bd_S, md_ld21 (by omega), bd_S, (hm.2.2.2.2.2.2.1 p q hq).1, within_1 h4, bd_S, if_pos (show ¬ (1 : Int32) = 0 by decide), within_0 h6, bd_S, if_neg (fun h => h rfl), md_f, bd_S, fail_S, md_mono2, bd2_S]
          rfl
        · obtain ⟨mk9, hmk, rfl⟩ := rng2 (b := 255) (by decide) (fun h => h6 (Or.inl h)) (fun h => h6 (Or.inr h))
          have hqB : pkB (msk1 q i (ii mk9)) := msk1_B hb hi (isb_ii (by omega))
          have rr1 := hg.r1 hr
          have rr2 := hg.r2 hr
          obtain ⟨b11, σ13, σ16, w16, n1, n2, ⟨fs3, n3⟩, n4, ⟨fs5, n5⟩, n6, n7, n8, n9, n10, n11, n12, n13, n14⟩ := newc (N := N) (x := ii mk9) g1 hq hb hi rr1 rr2
          have rc16 := n10.2.2.2.2.2.2.2.1 r hr'
          obtain ⟨fb, hfb⟩ := rc16.f
          obtain ⟨σ20, w20, a1, a2, a3, a4, a5, a6⟩ := take_S (N := N) rc16 n10.1 v1 n11 hqB hC1 l2 ht hA (by omega) (by omega) (by omega)
          have AV := arr_V (lag := lag) (C := C) (dr := dr r) v1 v2 hqB
          have g20 := n10.up hr' a4 a2 a3
          obtain ⟨cf, c1, c2⟩ := a3.2.2.2.2.2.1
          generalize hh : arr lag C (dr r) (ρ r) (msk1 q i (ii mk9)) = RR at *
          have f7 : frm σ20 w20 (ho_set σ20 (O + 27 + 21 * r + 4) (.inl (gc G 0, 7, .inl (upd cf RR.1 (cf RR.1 + 1))))) w20 (fun a _ => a = O + 27 + 21 * r + 4) := frm.set rfl
          have w7 : wf G (ho_set σ20 (O + 27 + 21 * r + 4) (.inl (gc G 0, 7, .inl (upd cf RR.1 (cf RR.1 + 1))))) := a2.1.set c1
          have rc7 := a3.cnts (cn := upd RR.2.2.2.2 RR.1 (RR.2.2.2.2 RR.1 + 1)) a2.1 f7 set_at (fun j hj => by
            unfold upd
            rw [c2 RR.1 AV.2.2.1]
            by_cases e : j = RR.1
            · rw [if_pos e, if_pos e]
            · rw [if_neg e, if_neg e]
              exact c2 j hj)
          have fT : frm σ16 w16 (ho_set σ20 (O + 27 + 21 * r + 4) (.inl (gc G 0, 7, .inl (upd cf RR.1 (cf RR.1 + 1))))) w20 (TR O (O + 27 + 21 * r)) := a4.trans (f7.mono fun a _ h => Or.inr (Or.inl (by omega)))
          have gn := n10.up hr' fT (a2.fr f7 w7 (fun a a1 a2 => by omega)) rc7
          have ho : OS G σ w O (f_Of_arrive G N σ O (ii r) (ii p) (ii i) (ii mk9)) (.inr (ii RR.1)) C cc bf W PL (fun j => if j = r then bump RR.2 RR.1 else ρ j) (fun j => if j = r then dr r else dr j) := by
            refine ⟨_, w20, ?_, gn, (n12.mono fun a _ h => h.elim).trans (fT.mono fun a _ h => TR_TT (by omega) (by omega) h), by show σ20.1 ≤ _; omega, by show σ20.2.1 ≤ _; omega⟩
            unfold f_Of_arrive
            rw [c_f g1.2.1, bd_S, isRec_S, if_neg h1, bd_S, if_neg (show ¬ (1 : Int32) = 0 by decide), bd_S, (hasPB_1 g1 hq).2 h5, bd_S, if_pos (show ¬ (1 : Int32) = 0 by decide), if_neg (fun h => h6 (Or.inl h)), if_pos (Int32.not_lt.mp fun h => h6 (Or.inr h)), n1, bd2_S, n2, bd_S, n3, bd_S, n4, bd_S, n5, bd_S, n6, bd_S, n7, bd_S, n8, bd_S, n9, bd_S, c_R n10.2.1 rfl, bd_S, n10.ld hr', bd_S, hfb, bd_S, a1, ck_S a4.1 a4.2.1, bd2_S, c_R g20.2.1 rfl, bd_S, g20.ld hr', bd_S, a3.r5, bd_S, c_ld c1 AV.2.2.1 (by have := AV.2.2.1; omega), bd_S, c_st c1 AV.2.2.1 (by have := AV.2.2.1; omega), bd_S]
          refine glue hg (lw_ok g1.2.1 ho) (fun I A hm R => ?_) (hg.2.2.1.up AV.1 AV.2.1 (by have := AV.2.2.2; show RR.2.2.1.length + RR.2.2.2.1.length ≤ _; omega)) (by decide)
          have hm' := hm.i (I' := upI I 12 0) fun j h1 h2 => by rw [upI_nn (by omega)]
          obtain ⟨m1, ⟨m2, m3, m4, m5⟩, m6, m7, m8, m9, m10, m11⟩ := id hm'
          have hy := m10 p q hq
          -- the copy
          have cq : ∀ k, k < (msk1 q i (ii mk9)).1 → upA (upA A 37 (ovr (fun k => A 22 (68 * p + k)) (A 37) q.1)) 37 (upd (upA A 37 (ovr (fun k => A 22 (68 * p + k)) (A 37) q.1) 37) i (q.2 i ^^^ ii mk9)) 37 k = (msk1 q i (ii mk9)).2 k := fun k hk => by
            have hk' : k < q.1 := hk
            rw [upA_eq, upA_eq]
            show upd _ _ _ _ = upd q.2 i (q.2 i ^^^ ii mk9) k
            unfold upd
            by_cases e : k = i
            · rw [if_pos e, if_pos e]
            · rw [if_neg e, if_neg e]
              unfold ovr
              rw [if_pos hk']
              exact hy.2 k hk'
          have f2 : mfr A (upA (upA A 37 (ovr (fun k => A 22 (68 * p + k)) (A 37) q.1)) 37 (upd (upA A 37 (ovr (fun k => A 22 (68 * p + k)) (A 37) q.1) 37) i (q.2 i ^^^ ii mk9))) r := (mfr.upF rfl).trans (mfr.upF rfl)
          obtain ⟨I3, A3, j1, j2, j3, j4⟩ := judge_S (G := G) (R := R) (M := O + 195) (N := N) (I := upI I 12 0) (A := upA (upA A 37 (ovr (fun k => A 22 (68 * p + k)) (A 37) q.1)) 37 (upd (upA A 37 (ovr (fun k => A 22 (68 * p + k)) (A 37) q.1) 37) i (q.2 i ^^^ ii mk9))) (r := r) (lag := lag) (s := ρ r) (q := msk1 q i (ii mk9)) (C := C) (dr := dr r) (((m11 r hr').2.eq (upF_eq rfl)).eq (upF_eq rfl)) v1 v2 hqB cq (by rw [upA_ne (by decide), upA_ne (by decide)]; exact (m11 r hr').1) m2 m3 m4 m5 hC1 l2 hr' (by omega) (f2.tab m1) hN
          rw [hh] at j1 j2
          have a8 : 8 * ii r + ii RR.1 = ii (8 * r + RR.1) := by rw [show (8 : Int32) = ii 8 from rfl, ii_mul, ii_add]
          have hk7 := AV.2.2.1
          have mf : mfr A (upA A3 28 (upd (A3 28) (8 * r + RR.1) (A3 28 (8 * r + RR.1) + 1))) r := (f2.trans j3).trans (mfr.upd1 (j := 28) (by show 8 * r ≤ _; omega) (by show _ < 8 * r + 8; omega))
          refine ⟨I3, upA A3 28 (upd (A3 28) (8 * r + RR.1) (A3 28 (8 * r + RR.1) + 1)), ii RR.1, ?_, by rw [j4 12 (by decide), upI_ee]; rfl, fun _ => rfl, ⟨mf.tab m1, ⟨by rw [j4 13 (by decide)]; exact m2, by rw [j4 14 (by decide)]; exact m3, by rw [j4 15 (by decide)]; exact m4, by rw [j4 16 (by decide)]; exact m5⟩, by rw [j4 17 (by decide)]; exact m6, by rw [j4 18 (by decide)]; exact m7, by rw [mf.con (j := 19) rfl rfl]; exact m8, by rw [mf.con (j := 20) rfl rfl]; exact m9, by rw [mf.con (j := 21) rfl rfl, mf.con (j := 22) rfl rfl]; exact m10, fun j hj => ⟨?_, ?_⟩⟩⟩
          · unfold f_Md_arrive
            rw [md_p12, bd_S, within_1 h1, bd_S, if_neg (show ¬ (1 : Int32) = 0 by decide), md_i18, bd_S, m7, within_1 h2, bd_S, if_neg (show ¬ (1 : Int32) = 0 by decide), md_r21, bd_S, md_ld21 (by omega), bd_S, hy.1, within_1 h4, bd_S, if_pos (show ¬ (1 : Int32) = 0 by decide), within_1 h6, bd_S, if_pos (show ¬ (1 : Int32) = 0 by decide), ma_72 hy.1 (by omega) hb2 (by omega), bd_S, md_r37, bd_S, bd_S, md_ld37 (by omega), bd_S, show upA A 37 (ovr (fun k => A 22 (68 * p + k)) (A 37) q.1) 37 i = q.2 i by
              rw [upA_eq]
              unfold ovr
              rw [if_pos hi]
              exact hy.2 i hi, md_st37 (by omega), bd_S, md_r21, bd_S, md_ld21 (by omega), bd_S, upA_ne (show (21 : Nat) ≠ 37 by decide), upA_ne (show (21 : Nat) ≠ 37 by decide), hy.1, md_f, bd_S, show ii q.1 = ii (msk1 q i (ii mk9)).1 from rfl, j1, md_mono2, bd2_S, md_r28, bd_S, a8, md_ld28 (by omega), bd_S, md_st28 (by omega), bd_S]
          · rw [mf.con (j := 23) rfl rfl]
            dsimp only
            by_cases e : j = r
            · rw [if_pos e, e]
              exact (m11 r hr').1
            · rw [if_neg e]
              exact (m11 j hj).1
          · dsimp only
            by_cases e : j = r
            · subst e
              rw [if_pos rfl]
              refine ⟨j2.1.eq (upA_ne (by decide)) (upA_ne (by decide)) (upA_ne (by decide)) (upA_ne (by decide)), j2.2.1.eq (upA_ne (by decide)) (upA_ne (by decide)) (upA_ne (by decide)), j2.2.2.1.eq (upA_ne (by decide)) (upA_ne (by decide)) (upA_ne (by decide)), fun k hk => ?_⟩
              rw [upA_eq]
              show upd _ _ _ _ = upd RR.2.2.2.2 RR.1 (RR.2.2.2.2 RR.1 + 1) k
              unfold upd
              by_cases e2 : k = RR.1
              · rw [if_pos (by omega), if_pos e2, j2.2.2.2 _ hk7]
              · rw [if_neg (by omega), if_neg e2]
                exact j2.2.2.2 k hk
            · rw [if_neg e]
              have iv := i5 j hj
              exact (m11 j hj).2.fr mf e iv.1 (by have := iv.2.2; omega)
end AR
