/-! receiver, released, releasedByte -/
theorem latR_le {kn : KN} (hv : knV kn) : ∀ c, latR kn c = -1 ∨ ∃ m, m ≤ 64 * c ∧ latR kn c = ii m := by
  intro c
  induction c with
  | zero => exact Or.inl rfl
  | succ c ih =>
    unfold latR
    cases e : kn c with
    | none =>
      dsimp only
      rcases ih with ih | ⟨m, h1, h2⟩
      · exact Or.inl ih
      · exact Or.inr ⟨m, by omega, h2⟩
    | some x =>
      obtain ⟨fi, v, K⟩ := x
      have := hv _ _ _ _ e
      exact Or.inr ⟨64 * c + v, by omega, rfl⟩
section OU
variable {G : ho_G} {σ : ho_H} {w : Nat → Nat} {N O n M : Nat} {C : CK} {cc : Nat} {bf : Nat → Int32} {W : Nat → Nat → Int32} {PL : List PQ} {ρ : Nat → RS} {dr : Nat → Int32} {I : Nat → Int32} {A : Nat → Nat → Int32}
theorem rec_82 {R : ho_H} {r : Nat} {kn : KN} (hk : mkn A r kn) (hv : knV kn) (hr : r < 8) (hN : 301 < N) : ho_it (f_Md_receiver_l82 G N (md G R M I A) M (ii r)) N ((-1), 0) = some (latR kn 8) := by
  refine it_for 8 (fun c => (latR kn c, ii c)) _ (fun c hc => ?_) ?_ (by omega) rfl
  · have a8 : 8 * ii r + ii c = ii (8 * r + c) := by rw [show (8 : Int32) = ii 8 from rfl, ii_mul, ii_add]
    unfold f_Md_receiver_l82 f_Md_receiver_j135_in82 f_Md_receiver_j136_in82
    dsimp only
    rw [if_neg (by rw [show (8 : Int32) = ii 8 from rfl, ii_le (by decide) (by omega)]; omega), md_r24, bd_S, a8, md_ld24 (by omega), bd_S, ii_1]
    have hkc := hk c hc
    cases e : kn c with
    | none =>
      rw [e] at hkc
      have hz : A 24 (8 * r + c) = 0 := hkc
      have el : latR kn (c + 1) = latR kn c := by rw [latR, e]
      rw [hz, if_pos rfl, el]
    | some x =>
      obtain ⟨fi, v, K⟩ := x
      rw [e] at hkc
      have hvc := hv _ _ _ _ e
      have el : latR kn (c + 1) = ii (64 * c + v) := by rw [latR, e]
      rw [hkc.1, if_neg (by decide), md_r26, bd_S, md_ld26 (by omega), bd_S, hkc.2.2.1, el]
      rcases latR_le hv c with h | ⟨m, h1, h2⟩
      · rw [h, if_neg (Int32.not_le.mpr (neg1_lt (by omega))), bd_S, md_ld26 (by omega), bd_S, hkc.2.2.1]
      · rw [h2]
        by_cases hlt : 64 * c + v ≤ m
        · have em : m = 64 * c + v := by omega
          rw [if_pos (by rw [ii_le (by omega) (by omega)]; exact hlt), em]
        · rw [if_neg (by rw [ii_le (by omega) (by omega)]; exact hlt), bd_S, md_ld26 (by omega), bd_S, hkc.2.2.1]
  · unfold f_Md_receiver_l82
    dsimp only
    rw [if_pos (by decide)]
/-- receiver -/
theorem J_receiver {x y : Int32} (hg : good G σ w O n C cc bf W PL ρ dr) (hr : roomy G O n) (hN : 1001 < N) : J G N σ O n (f_Lw_receiver G N σ O x y (O + 226)) (fun s => f_Md_receiver G N s (O + 195) x y) := by
  have g1 := hg.1
  unfold f_Lw_receiver
  by_cases h1 : x < 0 ∨ 7 < x
  · have ho : f_Of_receiver G N σ O x y = (ho_thr G σ).bind fun σ1 => some (σ1, .inl 2) := by
      unfold f_Of_receiver f_Of_receiver_j18
      rw [c_f g1.2.1, bd_S, isRec_S, if_pos h1, bd_S, if_pos rfl]
    refine glue hg (lw_ex (k := 1) (v := 0) g1.2.1 (by rw [ho]; exact hg.th hr 2) (fun _ => rfl) (by decide)) (fun I A hm => ms_fail hm (by decide) fun R => ?_) hg.2.2.1.succ (by decide)
    unfold f_Md_receiver f_Md_receiver_j25
    rw [md_p12, bd_S, within_0 h1, bd_S, if_pos rfl, md_f, bd_S, fail_S, md_mono2, bd2_S]
    rfl
  · obtain ⟨r, hr8, rfl⟩ := rng2 (b := 7) (by decide) (fun h => h1 (Or.inl h)) (fun h => h1 (Or.inr h))
    have hr' : r < 8 := by omega
    have rc := g1.2.2.2.2.2.2.2.1 r hr'
    have iv := hg.2.2.1.2.2.2.2 r hr'
    by_cases h2 : y < 0 ∨ 9 < y
    · have ho : f_Of_receiver G N σ O (ii r) y = (ho_thr G σ).bind fun σ1 => some (σ1, .inl 2) := by
        unfold f_Of_receiver f_Of_receiver_j18
        rw [c_f g1.2.1, bd_S, isRec_S, if_neg h1, bd_S, if_neg (show ¬ (1 : Int32) = 0 by decide)]
        by_cases h3 : y < 0
        · rw [if_pos h3]
        · rcases h2 with h2 | h2
          · exact absurd h2 h3
          · rw [if_neg h3, if_neg (Int32.not_le.mpr h2)]
      refine glue hg (lw_ex (k := 1) (v := 0) g1.2.1 (by rw [ho]; exact hg.th hr 2) (fun _ => rfl) (by decide)) (fun I A hm => ms_fail hm (by decide) fun R => ?_) hg.2.2.1.succ (by decide)
      unfold f_Md_receiver f_Md_receiver_j25
      rw [md_p12, bd_S, within_1 h1, bd_S, if_neg (by decide), within_0 h2, bd_S, if_neg (fun h => h rfl), md_f, bd_S, fail_S, md_mono2, bd2_S]
      rfl
    · obtain ⟨t, ht, rfl⟩ := rng2 (b := 9) (by decide) (fun h => h2 (Or.inl h)) (fun h => h2 (Or.inr h))
      have hcl : f_Of_receiver G N σ O (ii r) (ii t) = if ii t = 7 then (ho_gI σ (O + 27 + 21 * r) 4 6).bind fun v7 => some (σ, .inr v7) else if ii t = 8 then (ho_gR σ (O + 27 + 21 * r) 4 3).bind fun b8 => (ho_f σ b8 7).bind fun _ => (f_Al_size G N σ b8).bind fun v10 => some (σ, .inr v10) else if ii t = 9 then (ho_f σ (O + 27 + 21 * r) 4).bind fun _ => (f_Rc_latestInterval G N σ (O + 27 + 21 * r)).bind fun v12 => some (σ, .inr v12) else (ho_gR σ (O + 27 + 21 * r) 4 5).bind fun b13 => (ho_ldI G σ b13 (ii t)).bind fun v14 => some (σ, .inr v14) := by
        unfold f_Of_receiver
        rw [c_f g1.2.1, bd_S, isRec_S, if_neg h1, bd_S, if_neg (show ¬ (1 : Int32) = 0 by decide), if_neg (fun h => h2 (Or.inl h)), if_pos (Int32.not_lt.mp fun h => h2 (Or.inr h)), c_R g1.2.1 rfl, bd_S, g1.ld hr', bd_S]
      have hml : ∀ (I : Nat → Int32) (A : Nat → Nat → Int32) (R : ho_H), f_Md_receiver G N (md G R (O + 195) I A) (O + 195) (ii r) (ii t) = if 7 ≤ ii t then if 9 ≤ ii t then (ho_it (f_Md_receiver_l82 G N (md G R (O + 195) (upI I 12 0) A) (O + 195) (ii r)) N ((-1), 0)).bind fun x13 => some (md G R (O + 195) (upI I 12 0) A, x13) else if ¬ ii t = 7 then (ho_gR (md G R (O + 195) (upI I 12 0) A) (O + 195) 6 29).bind fun b16 => (ho_ldI G (md G R (O + 195) (upI I 12 0) A) b16 (ii r)).bind fun v17 => some (md G R (O + 195) (upI I 12 0) A, v17) else (ho_gR (md G R (O + 195) (upI I 12 0) A) (O + 195) 6 32).bind fun b18 => (ho_ldI G (md G R (O + 195) (upI I 12 0) A) b18 (ii r)).bind fun v19 => some (md G R (O + 195) (upI I 12 0) A, v19) else (ho_gR (md G R (O + 195) (upI I 12 0) A) (O + 195) 6 28).bind fun b20 => (ho_ldI G (md G R (O + 195) (upI I 12 0) A) b20 ((8 * ii r) + ii t)).bind fun v21 => some (md G R (O + 195) (upI I 12 0) A, v21) := fun I A R => by
        unfold f_Md_receiver f_Md_receiver_j76
        rw [md_p12, bd_S, within_1 h1, bd_S, if_neg (show ¬ (1 : Int32) = 0 by decide), within_1 h2, bd_S, if_pos (show ¬ (1 : Int32) = 0 by decide)]
      by_cases t7 : t = 7
      · subst t7
        have ho : OS G σ w O (f_Of_receiver G N σ O (ii r) (ii 7)) (.inr (ii (ρ r).2.2.1.length)) C cc bf W PL ρ dr := by
          rw [hcl, if_pos (show (ii 7 : Int32) = 7 from rfl), rc.i6, bd_S]
          exact same_S g1 _
        refine glue hg (lw_ok g1.2.1 ho) (fun I A hm => ms_same hm fun R => ?_) hg.2.2.1.succ (by decide)
        have y := (hm.2.2.2.2.2.2.2 r hr').2
        rw [hml, if_pos (by decide), if_neg (by decide), if_neg (fun h => h rfl), md_r32, bd_S, md_ld32 hr', bd_S, y.2.2.1.1]
      · by_cases t8 : t = 8
        · subst t8
          obtain ⟨fl, hfl⟩ := rc.2.2.2.1.f
          have ho : OS G σ w O (f_Of_receiver G N σ O (ii r) (ii 8)) (.inr (ii (ρ r).2.1.length)) C cc bf W PL ρ dr := by
            rw [hcl, if_neg (show ¬ (ii 8 : Int32) = 7 by decide), if_pos (show (ii 8 : Int32) = 8 from rfl), rc.r3, bd_S, hfl, bd_S, Al_size_S rc.2.2.2.1, bd_S]
            exact same_S g1 _
          refine glue hg (lw_ok g1.2.1 ho) (fun I A hm => ms_same hm fun R => ?_) hg.2.2.1.succ (by decide)
          have y := (hm.2.2.2.2.2.2.2 r hr').2
          rw [hml, if_pos (by decide), if_neg (by decide), if_pos (by decide), md_r29, bd_S, md_ld29 hr', bd_S, y.2.1.1]
        · by_cases t9 : t = 9
          · subst t9
            obtain ⟨fl, hfl⟩ := rc.f
            have ho : OS G σ w O (f_Of_receiver G N σ O (ii r) (ii 9)) (.inr (latR (ρ r).1 8)) C cc bf W PL ρ dr := by
              rw [hcl, if_neg (show ¬ (ii 9 : Int32) = 7 by decide), if_neg (show ¬ (ii 9 : Int32) = 8 by decide), if_pos (show (ii 9 : Int32) = 9 from rfl), hfl, bd_S, latest_S rc g1.1 iv.1.1 (by omega), bd_S]
              exact same_S g1 _
            refine glue hg (lw_ok g1.2.1 ho) (fun I A hm => ms_same hm fun R => ?_) hg.2.2.1.succ (by decide)
            have y := (hm.2.2.2.2.2.2.2 r hr').2
            rw [hml, if_pos (by decide), if_pos (by decide), rec_82 y.1 iv.1.1 hr' (by omega), bd_S]
          · have ht7 : t < 7 := by omega
            obtain ⟨cf, c1, c2⟩ := rc.2.2.2.2.2.1
            have ho : OS G σ w O (f_Of_receiver G N σ O (ii r) (ii t)) (.inr ((ρ r).2.2.2 t)) C cc bf W PL ρ dr := by
              rw [hcl, if_neg (by rw [show (7 : Int32) = ii 7 from rfl, ii_inj (by omega) (by decide)]; exact t7), if_neg (by rw [show (8 : Int32) = ii 8 from rfl, ii_inj (by omega) (by decide)]; exact t8), if_neg (by rw [show (9 : Int32) = ii 9 from rfl, ii_inj (by omega) (by decide)]; exact t9), rc.r5, bd_S, c_ld c1 ht7 (by omega), bd_S, c2 t ht7]
              exact same_S g1 _
            refine glue hg (lw_ok g1.2.1 ho) (fun I A hm => ms_same hm fun R => ?_) hg.2.2.1.succ (by decide)
            have y := (hm.2.2.2.2.2.2.2 r hr').2
            rw [hml, if_neg (by rw [show (7 : Int32) = ii 7 from rfl, ii_le (by decide) (by omega)]; omega), md_r28, bd_S, show (8 : Int32) = ii 8 from rfl, ii_mul, ii_add, md_ld28 (by omega), bd_S, y.2.2.2 t ht7]
theorem kept_S {r : Nat} {y : Int32} (g1 : cls G σ w O C cc bf W PL ρ dr) (hr : r < 8) : (y < 0 ∨ ii ((ρ r).2.2.1.take 100).length ≤ y → f_Of_isKept G N σ O (ii r) y = some 0) ∧ (¬ (y < 0 ∨ ii ((ρ r).2.2.1.take 100).length ≤ y) → f_Of_isKept G N σ O (ii r) y = some 1) := by
  have rc := g1.2.2.2.2.2.2.2.1 r hr
  obtain ⟨fl, hfl⟩ := rc.2.2.2.2.1.f
  have h1 : ¬ (ii r < 0 ∨ 7 < ii r) := fun h => by
    rcases h with h | h
    · exact ii_nneg (by omega) h
    · rw [show (7 : Int32) = ii 7 from rfl, ii_lt (by decide) (by omega)] at h
      omega
  unfold f_Of_isKept f_Of_isKept_j32 f_Of_isKept_j33
  rw [c_f g1.2.1, bd_S, isRec_S, if_neg h1, bd_S, if_neg (show ¬ (1 : Int32) = 0 by decide)]
  refine ⟨fun h => ?_, fun h => ?_⟩
  · by_cases h2 : y < 0
    · rw [if_pos h2]
      rfl
    · rcases h with h | h
      · exact absurd h h2
      · rw [if_neg h2, c_R g1.2.1 rfl, bd_S, g1.ld hr, bd_S, rc.r4, bd_S, hfl, bd_S, Al_size_S rc.2.2.2.2.1, bd_S, if_pos h]
        rfl
  · rw [if_neg (fun hh => h (Or.inl hh)), c_R g1.2.1 rfl, bd_S, g1.ld hr, bd_S, rc.r4, bd_S, hfl, bd_S, Al_size_S rc.2.2.2.2.1, bd_S, if_neg (fun hh => h (Or.inr hh))]
    rfl
theorem mkept_S {R : ho_H} {r : Nat} {y : Int32} {o : List PQ} (h32 : A 32 r = ii o.length) (ho : o.length ≤ 1000) (hr : r < 8) : f_Md_isKept G N (md G R M I A) M (ii r) y = some (if y < 0 ∨ ii (o.take 100).length - 1 < y then 0 else 1) := by
  have h1 : ¬ (ii r < 0 ∨ 7 < ii r) := fun h => by
    rcases h with h | h
    · exact ii_nneg (by omega) h
    · rw [show (7 : Int32) = ii 7 from rfl, ii_lt (by decide) (by omega)] at h
      omega
  have last : ∀ m : Nat, f_Md_isKept_j34 G N (md G R M I A) (ii m) 0 y = some (if y < 0 ∨ ii m - 1 < y then 0 else 1) := fun m => by
    unfold f_Md_isKept_j34 f_Md_isKept_j46 f_Md_isKept_j47
    rw [within_S, bd_S]
    by_cases h : y < 0 ∨ ii m - 1 < y
    · rw [if_pos h, if_pos rfl]
      rfl
    · rw [if_neg h, if_neg (by decide)]
      rfl
  have tl : (o.take 100).length = min 100 o.length := List.length_take
  unfold f_Md_isKept
  rw [within_1 h1, bd_S, if_neg (by decide), md_r32, bd_S, md_ld32 hr, bd_S, h32]
  by_cases h100 : 100 ≤ o.length
  · rw [if_pos (by rw [show (100 : Int32) = ii 100 from rfl, ii_le (by decide) (by omega)]; exact h100), show (100 : Int32) = ii 100 from rfl, last 100, show (o.take 100).length = 100 by omega]
  · rw [if_neg (by rw [show (100 : Int32) = ii 100 from rfl, ii_le (by decide) (by omega)]; exact h100), bd_S, md_ld32 hr, bd_S, h32, last, show (o.take 100).length = o.length by omega]
/-- released -/
theorem J_released {x y z : Int32} (hg : good G σ w O n C cc bf W PL ρ dr) (hr : roomy G O n) (hN : 1001 < N) : J G N σ O n (f_Lw_released G N σ O x y z (O + 226)) (fun s => f_Md_released G N s (O + 195) x y z) := by
  have g1 := hg.1
  have hn := hr.2.2.2
  unfold f_Lw_released
  by_cases h1 : x < 0 ∨ 7 < x
  · have ho : f_Of_released G N σ O x y z = (ho_thr G σ).bind fun σ1 => some (σ1, .inl 2) := by
      unfold f_Of_released f_Of_released_j18 f_Of_isKept f_Of_isKept_j32 f_Of_isKept_j33
      rw [c_f g1.2.1, bd_S, bd_S, isRec_S, if_pos h1, bd_S, if_pos rfl]
      rfl
    refine glue hg (lw_ex (k := 1) (v := 0) g1.2.1 (by rw [ho]; exact hg.th hr 2) (fun _ => rfl) (by decide)) (fun I A hm => ms_fail hm (by decide) fun R => ?_) hg.2.2.1.succ (by decide)
    unfold f_Md_released f_Md_released_j23 f_Md_isKept f_Md_isKept_j46 f_Md_isKept_j47
    rw [md_p12, bd_S, md_f, bd_S, within_0 h1, bd_S, if_pos rfl, ho_bz_0, bd_S, bd_S, if_pos rfl, bd_S, fail_S, md_mono2, bd2_S]
    rfl
  · obtain ⟨r, hr8, rfl⟩ := rng2 (b := 7) (by decide) (fun h => h1 (Or.inl h)) (fun h => h1 (Or.inr h))
    have hr' : r < 8 := by omega
    have rc := g1.2.2.2.2.2.2.2.1 r hr'
    have iv := hg.2.2.1.2.2.2.2 r hr'
    have hol : (ρ r).2.2.1.length ≤ 1000 := by have := iv.2.2; omega
    have tl : ((ρ r).2.2.1.take 100).length = min 100 (ρ r).2.2.1.length := List.length_take
    rcases idx (x := y) (m := ((ρ r).2.2.1.take 100).length) (by omega) with ⟨h3, h4⟩ | ⟨k, hk, rfl, h3, h4⟩
    · have ho : f_Of_released G N σ O (ii r) y z = (ho_thr G σ).bind fun σ1 => some (σ1, .inl 2) := by
        unfold f_Of_released f_Of_released_j18
        rw [c_f g1.2.1, bd_S, (kept_S g1 hr').1 h4, bd_S, if_pos rfl]
      refine glue hg (lw_ex (k := 1) (v := 0) g1.2.1 (by rw [ho]; exact hg.th hr 2) (fun _ => rfl) (by decide)) (fun I A hm => ms_fail hm (by decide) fun R => ?_) hg.2.2.1.succ (by decide)
      have y := (hm.2.2.2.2.2.2.2 r hr').2
      unfold f_Md_released f_Md_released_j23
      rw [md_p12, bd_S, md_f, bd_S, mkept_S y.2.2.1.1 hol hr', if_pos h3, bd_S, if_pos rfl, bd_S, fail_S, md_mono2, bd2_S]
      rfl
    · obtain ⟨q, hq⟩ : ∃ q, ((ρ r).2.2.1.take 100)[k]? = some q := ⟨_, List.getElem?_eq_getElem hk⟩
      have hq2 : (ρ r).2.2.1[k]? = some q := by
        rw [List.getElem?_take, if_pos (by omega)] at hq
        exact hq
      have hv := (iv.1.2.2.2 k q hq2).1
      have hln := hv.ln
      have n32 := hv.n32
      by_cases h5 : z < 0 ∨ 2 < z
      · have ho : f_Of_released G N σ O (ii r) (ii k) z = (ho_thr G σ).bind fun σ1 => some (σ1, .inl 2) := by
          unfold f_Of_released f_Of_released_j18
          rw [c_f g1.2.1, bd_S, (kept_S g1 hr').2 h4, bd_S, if_neg (show ¬ (1 : Int32) = 0 by decide)]
          by_cases h6 : z < 0
          · rw [if_pos h6]
          · rcases h5 with h5 | h5
            · exact absurd h5 h6
            · rw [if_neg h6, if_neg (Int32.not_le.mpr h5)]
        refine glue hg (lw_ex (k := 1) (v := 0) g1.2.1 (by rw [ho]; exact hg.th hr 2) (fun _ => rfl) (by decide)) (fun I A hm => ms_fail hm (by decide) fun R => ?_) hg.2.2.1.succ (by decide)
        have y := (hm.2.2.2.2.2.2.2 r hr').2
        unfold f_Md_released f_Md_released_j23
        rw [md_p12, bd_S, md_f, bd_S, mkept_S y.2.2.1.1 hol hr', if_neg h3, bd_S, if_neg (show ¬ (1 : Int32) = 0 by decide), within_0 h5, bd_S, if_neg (fun h => h rfl), bd_S, fail_S, md_mono2, bd2_S]
        rfl
      · obtain ⟨t, ht, rfl⟩ := rng2 (b := 2) (by decide) (fun h => h5 (Or.inl h)) (fun h => h5 (Or.inr h))
        obtain ⟨fl, hfl⟩ := rc.2.2.2.2.1.f
        obtain ⟨p, p1, p2⟩ := Al_get_S (N := N) rc.2.2.2.2.1 hq
        obtain ⟨fp, hfp⟩ := p2.f
        have hcl : f_Of_released G N σ O (ii r) (ii k) (ii t) = if ii t = 0 then (ho_f σ p 3).bind fun _ => (f_Pk_interval G N σ p).bind fun v12 => some (σ, .inr v12) else if ii t = 1 then (ho_f σ p 3).bind fun _ => (f_Pk_kind G N σ p).bind fun v14 => some (σ, .inr v14) else (ho_f σ p 3).bind fun _ => (f_Pk_size G N σ p).bind fun v16 => some (σ, .inr v16) := by
          unfold f_Of_released
          rw [c_f g1.2.1, bd_S, (kept_S g1 hr').2 h4, bd_S, if_neg (show ¬ (1 : Int32) = 0 by decide), if_neg (fun h => h5 (Or.inl h)), if_pos (Int32.not_lt.mp fun h => h5 (Or.inr h)), c_R g1.2.1 rfl, bd_S, g1.ld hr', bd_S, rc.r4, bd_S, hfl, bd_S, p1, bd_S, hfp, bd_S]
        have hml : ∀ (I : Nat → Int32) (A : Nat → Nat → Int32) (R : ho_H), mdl I A C cc bf W PL ρ dr → f_Md_released G N (md G R (O + 195) I A) (O + 195) (ii r) (ii k) (ii t) = if ¬ ii t = 0 then if ¬ ii t = 1 then (ho_gR (md G R (O + 195) (upI I 12 0) A) (O + 195) 6 36).bind fun b8 => (ho_ldI G (md G R (O + 195) (upI I 12 0) A) b8 ((68 * ((100 * ii r) + ii k)) + 5)).bind fun v9 => some (md G R (O + 195) (upI I 12 0) A, v9) else (ho_gR (md G R (O + 195) (upI I 12 0) A) (O + 195) 6 36).bind fun b10 => (ho_ldI G (md G R (O + 195) (upI I 12 0) A) b10 ((68 * ((100 * ii r) + ii k)) + 4)).bind fun v11 => some (md G R (O + 195) (upI I 12 0) A, v11) else (ho_gR (md G R (O + 195) (upI I 12 0) A) (O + 195) 6 33).bind fun b12 => (ho_ldI G (md G R (O + 195) (upI I 12 0) A) b12 ((1024 * ii r) + ii k)).bind fun v13 => some (md G R (O + 195) (upI I 12 0) A, v13) := fun I A R hm => by
          have y := (hm.2.2.2.2.2.2.2 r hr').2
          unfold f_Md_released f_Md_released_j85
          rw [md_p12, bd_S, md_f, bd_S, mkept_S y.2.2.1.1 hol hr', if_neg h3, bd_S, if_neg (show ¬ (1 : Int32) = 0 by decide), within_1 h5, bd_S, if_pos (show ¬ (1 : Int32) = 0 by decide)]
        have a68 : ∀ j : Nat, 68 * ((100 * ii r) + ii k) + ii j = ii (68 * (100 * r + k) + j) := fun j => by rw [show (100 : Int32) = ii 100 from rfl, show (68 : Int32) = ii 68 from rfl, ii_mul, ii_add, ii_mul, ii_add]
        have a1024 : 1024 * ii r + ii k = ii (1024 * r + k) := by rw [show (1024 : Int32) = ii 1024 from rfl, ii_mul, ii_add]
        have ht' : t = 0 ∨ t = 1 ∨ t = 2 := by omega
        rcases ht' with rfl | rfl | rfl
        · have ho : OS G σ w O (f_Of_released G N σ O (ii r) (ii k) (ii 0)) (.inr (ii (gN q))) C cc bf W PL ρ dr := by
            rw [hcl, if_pos (show (ii 0 : Int32) = 0 from rfl), hfp, bd_S, p2.gi g1.1 (by omega), bd_S, hv.i]
            exact same_S g1 _
          refine glue hg (lw_ok g1.2.1 ho) (fun I A hm => ms_same hm fun R => ?_) hg.2.2.1.succ (by decide)
          have y := (hm.2.2.2.2.2.2.2 r hr').2
          rw [hml I A R hm, if_neg (fun h => h rfl), md_r33, bd_S, a1024, md_ld33 (by omega), bd_S, (y.2.2.1.2 k q hq2).1]
        · have ho : OS G σ w O (f_Of_released G N σ O (ii r) (ii k) (ii 1)) (.inr (q.2 4)) C cc bf W PL ρ dr := by
            rw [hcl, if_neg (show ¬ (ii 1 : Int32) = 0 by decide), if_pos (show (ii 1 : Int32) = 1 from rfl), hfp, bd_S, p2.kd g1.1 (by omega), bd_S]
            exact same_S g1 _
          refine glue hg (lw_ok g1.2.1 ho) (fun I A hm => ms_same hm fun R => ?_) hg.2.2.1.succ (by decide)
          have y := (hm.2.2.2.2.2.2.2 r hr').2
          rw [hml I A R hm, if_pos (by decide), if_neg (fun h => h rfl), md_r36, bd_S, show (4 : Int32) = ii 4 from rfl, a68, md_ld36 (by omega), bd_S, (y.2.2.1.2 k q hq2).2 (by omega) 4 (by omega)]
        · have ho : OS G σ w O (f_Of_released G N σ O (ii r) (ii k) (ii 2)) (.inr (q.2 5)) C cc bf W PL ρ dr := by
            rw [hcl, if_neg (by decide), if_neg (by decide), hfp, bd_S, p2.sz g1.1 (by omega), bd_S]
            exact same_S g1 _
          refine glue hg (lw_ok g1.2.1 ho) (fun I A hm => ms_same hm fun R => ?_) hg.2.2.1.succ (by decide)
          have y := (hm.2.2.2.2.2.2.2 r hr').2
          rw [hml I A R hm, if_pos (by decide), if_pos (by decide), md_r36, bd_S, show (5 : Int32) = ii 5 from rfl, a68, md_ld36 (by omega), bd_S, (y.2.2.1.2 k q hq2).2 (by omega) 5 (by omega)]
/-- releasedByte -/
theorem J_releasedByte {x y z : Int32} (hg : good G σ w O n C cc bf W PL ρ dr) (hr : roomy G O n) (hN : 1001 < N) : J G N σ O n (f_Lw_releasedByte G N σ O x y z (O + 226)) (fun s => f_Md_releasedByte G N s (O + 195) x y z) := by
  have g1 := hg.1
  have hn := hr.2.2.2
  unfold f_Lw_releasedByte
  by_cases h1 : x < 0 ∨ 7 < x
  · have ho : f_Of_releasedByte G N σ O x y z = (ho_thr G σ).bind fun σ1 => some (σ1, .inl 2) := by
      unfold f_Of_releasedByte f_Of_releasedByte_j36 f_Of_isKept f_Of_isKept_j32 f_Of_isKept_j33
      rw [c_f g1.2.1, bd_S, bd_S, isRec_S, if_pos h1, bd_S, if_pos rfl]
      rfl
    refine glue hg (lw_ex (k := 1) (v := 0) g1.2.1 (by rw [ho]; exact hg.th hr 2) (fun _ => rfl) (by decide)) (fun I A hm => ms_fail hm (by decide) fun R => ?_) hg.2.2.1.succ (by decide)
    unfold f_Md_releasedByte f_Md_releasedByte_j40 f_Md_isKept f_Md_isKept_j46 f_Md_isKept_j47
    rw [md_p12, bd_S, md_f, bd_S, within_0 h1, bd_S, if_pos rfl, ho_bz_0, bd_S, bd_S, if_pos rfl, bd_S, fail_S, md_mono2, bd2_S]
    rfl
  · obtain ⟨r, hr8, rfl⟩ := rng2 (b := 7) (by decide) (fun h => h1 (Or.inl h)) (fun h => h1 (Or.inr h))
    have hr' : r < 8 := by omega
    have rc := g1.2.2.2.2.2.2.2.1 r hr'
    have iv := hg.2.2.1.2.2.2.2 r hr'
    have hol : (ρ r).2.2.1.length ≤ 1000 := by have := iv.2.2; omega
    have tl : ((ρ r).2.2.1.take 100).length = min 100 (ρ r).2.2.1.length := List.length_take
    rcases idx (x := y) (m := ((ρ r).2.2.1.take 100).length) (by omega) with ⟨h3, h4⟩ | ⟨k, hk, rfl, h3, h4⟩
    · have ho : f_Of_releasedByte G N σ O (ii r) y z = (ho_thr G σ).bind fun σ1 => some (σ1, .inl 2) := by
        unfold f_Of_releasedByte f_Of_releasedByte_j36
        rw [c_f g1.2.1, bd_S, (kept_S g1 hr').1 h4, bd_S, if_pos rfl]
      refine glue hg (lw_ex (k := 1) (v := 0) g1.2.1 (by rw [ho]; exact hg.th hr 2) (fun _ => rfl) (by decide)) (fun I A hm => ms_fail hm (by decide) fun R => ?_) hg.2.2.1.succ (by decide)
      have y := (hm.2.2.2.2.2.2.2 r hr').2
      unfold f_Md_releasedByte f_Md_releasedByte_j40
      rw [md_p12, bd_S, md_f, bd_S, mkept_S y.2.2.1.1 hol hr', if_pos h3, bd_S, if_pos rfl, bd_S, fail_S, md_mono2, bd2_S]
      rfl
    · obtain ⟨q, hq⟩ : ∃ q, ((ρ r).2.2.1.take 100)[k]? = some q := ⟨_, List.getElem?_eq_getElem hk⟩
      have hq2 : (ρ r).2.2.1[k]? = some q := by
        rw [List.getElem?_take, if_pos (by omega)] at hq
        exact hq
      have hv := (iv.1.2.2.2 k q hq2).1
      have hln := hv.ln
      have n32 := hv.n32
      obtain ⟨fl, hfl⟩ := rc.2.2.2.2.1.f
      obtain ⟨p, p1, p2⟩ := Al_get_S (N := N) rc.2.2.2.2.1 hq
      obtain ⟨fp, hfp⟩ := p2.f
      have a68 : ∀ j : Nat, 68 * ((100 * ii r) + ii k) + ii j = ii (68 * (100 * r + k) + j) := fun j => by rw [show (100 : Int32) = ii 100 from rfl, show (68 : Int32) = ii 68 from rfl, ii_mul, ii_add, ii_mul, ii_add]
      have hml : ∀ (I : Nat → Int32) (A : Nat → Nat → Int32) (R : ho_H), mdl I A C cc bf W PL ρ dr → f_Md_releasedByte G N (md G R (O + 195) I A) (O + 195) (ii r) (ii k) z = (f_Md_within G N (md G R (O + 195) (upI I 12 0) A) z 0 (ii (nN q) - 1)).bind fun v9 => if ¬ v9 = 0 then (ho_gR (md G R (O + 195) (upI I 12 0) A) (O + 195) 6 36).bind fun b10 => (ho_ldI G (md G R (O + 195) (upI I 12 0) A) b10 (((68 * ((100 * ii r) + ii k)) + ii 6) + z)).bind fun v11 => some (md G R (O + 195) (upI I 12 0) A, v11) else f_Md_releasedByte_j40 G N (md G R (O + 195) (upI I 12 0) A) (O + 195) := fun I A R hm => by
        have y := (hm.2.2.2.2.2.2.2 r hr').2
        unfold f_Md_releasedByte
        rw [md_p12, bd_S, md_f, bd_S, mkept_S y.2.2.1.1 hol hr', if_neg h3, bd_S, if_neg (show ¬ (1 : Int32) = 0 by decide), md_r36, bd_S, show (5 : Int32) = ii 5 from rfl, a68, md_ld36 (by omega), bd_S, (y.2.2.1.2 k q hq2).2 (by omega) 5 (by omega), hv.n5]
        rfl
      have hcl : ∀ f, f_Of_releasedByte G N σ O (ii r) (ii k) z = f → (¬ z < 0 → f_Of_releasedByte G N σ O (ii r) (ii k) z = f) := fun f h _ => h
      rcases idx (x := z) (m := nN q) (by omega) with ⟨h5, h6⟩ | ⟨i, hi, rfl, h5, h6⟩
      · have ho : f_Of_releasedByte G N σ O (ii r) (ii k) z = (ho_thr G σ).bind fun σ1 => some (σ1, .inl 2) := by
          unfold f_Of_releasedByte f_Of_releasedByte_j36
          rw [c_f g1.2.1, bd_S, (kept_S g1 hr').2 h4, bd_S, if_neg (show ¬ (1 : Int32) = 0 by decide)]
          by_cases h7 : z < 0
          · rw [if_pos h7]
          · rcases h6 with h6 | h6
            · exact absurd h6 h7
            · rw [if_neg h7, c_R g1.2.1 rfl, bd_S, g1.ld hr', bd_S, rc.r4, bd_S, hfl, bd_S, p1, bd_S, hfp, bd_S, bd_S, p2.sz g1.1 (by omega), bd_S, hv.n5, if_neg (Int32.not_lt.mpr h6)]
        refine glue hg (lw_ex (k := 1) (v := 0) g1.2.1 (by rw [ho]; exact hg.th hr 2) (fun _ => rfl) (by decide)) (fun I A hm => ms_fail hm (by decide) fun R => ?_) hg.2.2.1.succ (by decide)
        rw [hml I A R hm, within_0 h5, bd_S, if_neg (fun h => h rfl)]
        unfold f_Md_releasedByte_j40
        rw [md_f, bd_S, fail_S, md_mono2, bd2_S]
        rfl
      · obtain ⟨m, q1, q2, -⟩ := id p2
        have ho : OS G σ w O (f_Of_releasedByte G N σ O (ii r) (ii k) (ii i)) (.inr (q.2 (6 + i))) C cc bf W PL ρ dr := by
          unfold f_Of_releasedByte
          rw [c_f g1.2.1, bd_S, (kept_S g1 hr').2 h4, bd_S, if_neg (show ¬ (1 : Int32) = 0 by decide), if_neg (fun h => h6 (Or.inl h)), c_R g1.2.1 rfl, bd_S, g1.ld hr', bd_S, rc.r4, bd_S, hfl, bd_S, p1, bd_S, hfp, bd_S, bd_S, p2.sz g1.1 (by omega), bd_S, hv.n5, if_pos (by rw [ii_lt (by omega) (by omega)]; exact hi), bd_S, g1.ld hr', bd_S, rc.r4, bd_S, hfl, bd_S, p1, bd_S, hfp, bd_S, c_R q1 rfl, bd_S, show (6 : Int32) + ii i = ii (6 + i) from ii_add 6 i, c_ld q2 (by omega) (by omega), bd_S]
          exact same_S g1 _
        refine glue hg (lw_ok g1.2.1 ho) (fun I A hm => ms_same hm fun R => ?_) hg.2.2.1.succ (by decide)
        have y := (hm.2.2.2.2.2.2.2 r hr').2
        rw [hml I A R hm, within_1 h5, bd_S, if_pos (by decide), md_r36, bd_S, a68, ii_add, show 68 * (100 * r + k) + 6 + i = 68 * (100 * r + k) + (6 + i) from Nat.add_assoc _ _ _, md_ld36 (by omega), bd_S, (y.2.2.1.2 k q hq2).2 (by omega) (6 + i) (by omega)]
end OU
