/-! the model's receivers: frames; the key that a packet shows -/
theorem mfr.ot {A A' : Nat → Nat → Int32} {r j q : Nat} (h : mfr A A' r) (h1 : fre j = false) (h2 : q < wd j * r ∨ wd j * r + wd j ≤ q) : A' j q = A j q := h j q h1 h2
theorem mkn.eq {A A' : Nat → Nat → Int32} {r : Nat} {kn : KN} (h : mkn A r kn) (h1 : A' 24 = A 24) (h2 : A' 25 = A 25) (h3 : A' 26 = A 26) (h4 : A' 27 = A 27) : mkn A' r kn := by
  intro c hc
  have := h c hc
  rw [h1, h2, h3, h4]
  exact this
theorem mhd.eq {A A' : Nat → Nat → Int32} {r : Nat} {x : List PQ} (h : mhd A r x) (h1 : A' 29 = A 29) (h2 : A' 30 = A 30) (h3 : A' 31 = A 31) : mhd A' r x := by
  unfold mhd
  rw [h1, h2, h3]
  exact h
theorem mot.eq {A A' : Nat → Nat → Int32} {r : Nat} {x : List PQ} (h : mot A r x) (h1 : A' 32 = A 32) (h2 : A' 33 = A 33) (h3 : A' 36 = A 36) : mot A' r x := by
  unfold mot
  rw [h1, h2, h3]
  exact h
theorem mcn.eq {A A' : Nat → Nat → Int32} {r : Nat} {x : Nat → Int32} (h : mcn A r x) (h1 : A' 28 = A 28) : mcn A' r x := by
  unfold mcn
  rw [h1]
  exact h
/-- another receiver's call -/
theorem mrc.fr {A A' : Nat → Nat → Int32} {r r' : Nat} {s : RS} (h : mrc A r' s) (hf : mfr A A' r) (hne : r' ≠ r) (hs : rsV s) (ho : s.2.2.1.length ≤ 1024) : mrc A' r' s := by
  obtain ⟨h1, h2, h3, h4⟩ := h
  refine ⟨fun c hc => ?_, ⟨?_, fun k q hq => ?_⟩, ⟨?_, fun k q hq => ?_⟩, fun j hj => ?_⟩
  · have := h1 c hc
    rw [hf.ot (j := 24) (q := 8 * r' + c) rfl (by show _ < 8 * r ∨ 8 * r + 8 ≤ _; omega), hf.ot (j := 25) (q := 8 * r' + c) rfl (by show _ < 8 * r ∨ 8 * r + 8 ≤ _; omega), hf.ot (j := 26) (q := 8 * r' + c) rfl (by show _ < 8 * r ∨ 8 * r + 8 ≤ _; omega)]
    cases e : s.1 c with
    | none => rw [e] at this; exact this
    | some x =>
      obtain ⟨fi, v, K⟩ := x
      rw [e] at this
      refine ⟨this.1, this.2.1, this.2.2.1, fun i hi => ?_⟩
      rw [hf.ot (j := 27) rfl (by show _ < 160 * r ∨ 160 * r + 160 ≤ _; omega)]
      exact this.2.2.2 i hi
  · rw [hf.ot (j := 29) rfl (by show _ < 1 * r ∨ 1 * r + 1 ≤ _; omega)]
    exact h2.1
  · have hk : k < s.2.1.length := (List.getElem?_eq_some_iff.mp hq).1
    have hl := hs.2.2.1
    have hv := (hs.2.1 k q hq).1
    have h5 := hv.ln
    have h6 := hv.n32
    have := h2.2 k q hq
    refine ⟨?_, fun i hi => ?_⟩
    · rw [hf.ot (j := 30) rfl (by show _ < 16 * r ∨ 16 * r + 16 ≤ _; omega)]
      exact this.1
    · rw [hf.ot (j := 31) rfl (by show _ < 1088 * r ∨ 1088 * r + 1088 ≤ _; omega)]
      exact this.2 i hi
  · rw [hf.ot (j := 32) rfl (by show _ < 1 * r ∨ 1 * r + 1 ≤ _; omega)]
    exact h3.1
  · have hk : k < s.2.2.1.length := (List.getElem?_eq_some_iff.mp hq).1
    have hv := (hs.2.2.2 k q hq).1
    have h5 := hv.ln
    have h6 := hv.n32
    have := h3.2 k q hq
    refine ⟨?_, fun h100 i hi => ?_⟩
    · rw [hf.ot (j := 33) rfl (by show _ < 1024 * r ∨ 1024 * r + 1024 ≤ _; omega)]
      exact this.1
    · rw [hf.ot (j := 36) rfl (by show _ < 6800 * r ∨ 6800 * r + 6800 ≤ _; omega)]
      exact this.2 h100 i hi
  · rw [hf.ot (j := 28) rfl (by show _ < 8 * r ∨ 8 * r + 8 ≤ _; omega)]
    exact h4 j hj
section MO
variable {G : ho_G} {R : ho_H} {M N : Nat} {I : Nat → Int32} {A : Nat → Nat → Int32}
theorem li20 : (20 : Int32) = ii 20 := rfl
theorem ii_1 (k : Nat) : ii k + 1 = ii (k + 1) := ii_add k 1
theorem loadLatest_S {sl : Nat} (h : sl < 64) (hN : 301 < N) : f_Md_loadLatest G N (md G R M I A) M (ii sl) = some (md G R M I (upA A 38 (ovr (fun i => A 27 (20 * sl + i)) (A 38) 20))) := by
  have e : ho_it (f_Md_loadLatest_l2 G N M (ii sl)) N (md G R M I A, 0) = some (md G R M I (upA A 38 (ovr (fun i => A 27 (20 * sl + i)) (A 38) 20))) := by
    refine it_for 20 (fun k => (md G R M I (upA A 38 (ovr (fun i => A 27 (20 * sl + i)) (A 38) k)), ii k)) _ (fun k hk => ?_) ?_ (by omega) (by rw [upA_up0]; rfl)
    · have e0 : ((20 : Int32) ≤ ii k) = False := by rw [li20, ii_le (by omega) (by omega)]; exact eq_false (by omega)
      have a3 : 20 * ii sl + ii k = ii (20 * sl + k) := by rw [li20, ii_mul, ii_add]
      simp only [f_Md_loadLatest_l2, e0, ↓reduceIte, md_r38, md_r27, bd_S, a3, md_ld27 (show 20 * sl + k < 1280 by omega), md_st38 (show k < 20 by omega), ii_1]
      rw [upA_upA, upA_eq, upA_ne (by decide), ovr_up rfl]
    · simp only [f_Md_loadLatest_l2]
      rw [if_pos (by decide)]
  unfold f_Md_loadLatest
  rw [e, bd_S]
theorem look_75 {fr : Nat} {x y z u : Int32} (h : fr + 20 ≤ 68) (hN : 301 < N) : ho_it (f_Md_lookAtKey_l75 G N M x y z (ii fr) u) N (md G R M I A, 0) = some (md G R M I (upA A 38 (ovr (fun i => A 37 (fr + i)) (A 38) 20))) := by
  refine it_for 20 (fun k => (md G R M I (upA A 38 (ovr (fun i => A 37 (fr + i)) (A 38) k)), ii k)) _ (fun k hk => ?_) ?_ (by omega) (by rw [upA_up0]; rfl)
  · have e0 : ((20 : Int32) ≤ ii k) = False := by rw [li20, ii_le (by omega) (by omega)]; exact eq_false (by omega)
    simp only [f_Md_lookAtKey_l75, e0, ↓reduceIte, md_r38, md_r37, bd_S, ii_add, md_ld37 (show fr + k < 68 by omega), md_st38 (show k < 20 by omega), ii_1]
    rw [upA_upA, upA_eq, upA_ne (by decide), ovr_up rfl]
  · simp only [f_Md_lookAtKey_l75]
    rw [if_pos (by decide)]
theorem look_192 {fr sl : Nat} (h : fr + 20 ≤ 68) (hs : sl < 64) (hN : 301 < N) : ho_it (f_Md_lookAtKey_l192 G N M (ii sl) (ii fr)) N (md G R M I A, 0) = some (md G R M I (upA A 27 (s_cp (A 27) (fun i => A 37 (fr + i)) (20 * sl) 20))) := by
  refine it_for 20 (fun k => (md G R M I (upA A 27 (s_cp (A 27) (fun i => A 37 (fr + i)) (20 * sl) k)), ii k)) _ (fun k hk => ?_) ?_ (by omega) (by rw [s_cp_0, upA_self]; rfl)
  · have e0 : ((20 : Int32) ≤ ii k) = False := by rw [li20, ii_le (by omega) (by omega)]; exact eq_false (by omega)
    have a3 : 20 * ii sl + ii k = ii (20 * sl + k) := by rw [li20, ii_mul, ii_add]
    simp only [f_Md_lookAtKey_l192, e0, ↓reduceIte, md_r27, md_r37, bd_S, ii_add, a3, md_ld37 (show fr + k < 68 by omega), md_st27 (show 20 * sl + k < 1280 by omega), ii_1]
    rw [upA_upA, upA_eq, upA_ne (by decide), s_cp_up rfl]
  · simp only [f_Md_lookAtKey_l192]
    rw [if_pos (by decide)]
theorem look_269 {fr : Nat} (h : fr + 20 ≤ 68) (hN : 301 < N) : ∃ b, ho_it (f_Md_lookAtKey_l269 G N (md G R M I A) M (ii fr)) N (1, 0) = some b ∧ ((b = 1 ∧ ∀ k, k < 20 → A 38 k = A 37 (fr + k)) ∨ (b = 0 ∧ ¬ ∀ k, k < 20 → A 38 k = A 37 (fr + k))) := by
  refine (it_cmp (n := 20) (fun k => A 38 k = A 37 (fr + k)) (fun k hk hp => ?_) (fun k hk hp => ?_) (fun k hk => ?_) (fun b => ?_) (by omega)).2
  · have e0 : ((20 : Int32) ≤ ii k) = False := by rw [li20, ii_le (by omega) (by omega)]; exact eq_false (by omega)
    simp only [f_Md_lookAtKey_l269, f_Md_lookAtKey_j305_in269, f_Md_lookAtKey_j306_in269, e0, ↓reduceIte, show ¬ (1 : Int32) = 0 by decide, md_r38, md_r37, bd_S, ii_add, md_ld37 (show fr + k < 68 by omega), md_ld38 (show k < 20 by omega), ii_1, hp, not_true_eq_false]
  · have e0 : ((20 : Int32) ≤ ii k) = False := by rw [li20, ii_le (by omega) (by omega)]; exact eq_false (by omega)
    simp only [f_Md_lookAtKey_l269, f_Md_lookAtKey_j305_in269, f_Md_lookAtKey_j306_in269, e0, ↓reduceIte, show ¬ (1 : Int32) = 0 by decide, md_r38, md_r37, bd_S, ii_add, md_ld37 (show fr + k < 68 by omega), md_ld38 (show k < 20 by omega), ii_1, hp, not_false_eq_true]
  · have e0 : ((20 : Int32) ≤ ii k) = False := by rw [li20, ii_le (by omega) (by omega)]; exact eq_false (by omega)
    simp only [f_Md_lookAtKey_l269, f_Md_lookAtKey_j305_in269, f_Md_lookAtKey_j306_in269, e0, ↓reduceIte, ii_1]
  · simp only [f_Md_lookAtKey_l269]
    rw [if_pos (by decide)]
theorem look_128 {sl : Nat} {x z : Int32} (h : sl < 64) (hN : 301 < N) : ∃ b, ho_it (f_Md_lookAtKey_l128 G N (md G R M I A) M x (ii sl) z) N (1, 0) = some b ∧ ((b = 1 ∧ ∀ k, k < 20 → A 38 k = A 27 (20 * sl + k)) ∨ (b = 0 ∧ ¬ ∀ k, k < 20 → A 38 k = A 27 (20 * sl + k))) := by
  refine (it_cmp (n := 20) (fun k => A 38 k = A 27 (20 * sl + k)) (fun k hk hp => ?_) (fun k hk hp => ?_) (fun k hk => ?_) (fun b => ?_) (by omega)).2
  · have e0 : ((20 : Int32) ≤ ii k) = False := by rw [li20, ii_le (by omega) (by omega)]; exact eq_false (by omega)
    have a3 : 20 * ii sl + ii k = ii (20 * sl + k) := by rw [li20, ii_mul, ii_add]
    simp only [f_Md_lookAtKey_l128, f_Md_lookAtKey_j166_in128, f_Md_lookAtKey_j167_in128, e0, ↓reduceIte, show ¬ (1 : Int32) = 0 by decide, md_r38, md_r27, bd_S, a3, md_ld27 (show 20 * sl + k < 1280 by omega), md_ld38 (show k < 20 by omega), ii_1, hp, not_true_eq_false]
  · have e0 : ((20 : Int32) ≤ ii k) = False := by rw [li20, ii_le (by omega) (by omega)]; exact eq_false (by omega)
    have a3 : 20 * ii sl + ii k = ii (20 * sl + k) := by rw [li20, ii_mul, ii_add]
    simp only [f_Md_lookAtKey_l128, f_Md_lookAtKey_j166_in128, f_Md_lookAtKey_j167_in128, e0, ↓reduceIte, show ¬ (1 : Int32) = 0 by decide, md_r38, md_r27, bd_S, a3, md_ld27 (show 20 * sl + k < 1280 by omega), md_ld38 (show k < 20 by omega), ii_1, hp, not_false_eq_true]
  · have e0 : ((20 : Int32) ≤ ii k) = False := by rw [li20, ii_le (by omega) (by omega)]; exact eq_false (by omega)
    simp only [f_Md_lookAtKey_l128, f_Md_lookAtKey_j166_in128, f_Md_lookAtKey_j167_in128, e0, ↓reduceIte, ii_1]
  · simp only [f_Md_lookAtKey_l128]
    rw [if_pos (by decide)]
theorem lt_sub1 {a b : Nat} (h : a ≤ b) (hb : b < 1073741824) : ii a - ii b < (1 : Int32) := by
  rw [Int32.lt_iff_toInt_lt, Int32.toInt_sub, ii_toInt (by omega), ii_toInt (by omega), Int.bmod_eq_of_le (by omega) (by omega), show (1 : Int32).toInt = 1 from rfl]
  omega
theorem cpV {q : PQ} (hq : pkV q) (hc : ∀ i, i < q.1 → A 37 i = q.2 i) : s_wd (A 37) 0 = ii (gN q) ∧ A 37 5 = ii (nN q) ∧ A 37 4 = ii (kN q) := by
  have := hq.ln
  refine ⟨?_, ?_, ?_⟩
  · rw [← hq.i]
    exact s_wd_congr (hc _ (by omega)) (hc _ (by omega)) (hc _ (by omega)) (hc _ (by omega))
  · rw [hc _ (by omega), hq.n5]
  · rw [hc _ (by omega), hq.k4]
theorem look_S {r lag : Nat} {kn : KN} {q : PQ} (hk : mkn A r kn) (hv : knV kn) (hq : pkV q) (hc : ∀ i, i < q.1 → A 37 i = q.2 i) (hI : I 13 = ii lag) (hlag : lag ≤ 8) (hr : r < 8) (ht : mtab A) (hN : 301 < N) : ∃ I' A', f_Md_lookAtKey G N (md G R M I A) M (ii r) = some (md G R M I' A', ii (tkey lag kn q).1) ∧ mkn A' r (tkey lag kn q).2 ∧ mfr A A' r ∧ ikeep I I' ∧ (∀ j, fre j = false → j ≠ 26 → j ≠ 27 → A' j = A j) ∧ A' 37 = A 37 := by
  have g1 := hq.g1
  have g2 := hq.g2
  have n32 := hq.n32
  have hln := hq.ln
  obtain ⟨v1, v2, v3⟩ := cpV hq hc
  have stay : ∀ v : Int32, (tkey lag kn q) = ((tkey lag kn q).1, kn) → v = ii (tkey lag kn q).1 → ∃ I' A', some (md G R M I A, v) = some (md G R M I' A', ii (tkey lag kn q).1) ∧ mkn A' r (tkey lag kn q).2 ∧ mfr A A' r ∧ ikeep I I' ∧ (∀ j, fre j = false → j ≠ 26 → j ≠ 27 → A' j = A j) ∧ A' 37 = A 37 := fun v e1 e2 => ⟨I, A, by rw [e2], by rw [e1]; exact hk, mfr.refl, ikeep.rf, fun j _ _ _ => rfl, rfl⟩
  have kpj : ∀ A' : Nat → Nat → Int32, mkeep A A' → ∀ j, fre j = false → A' j = A j := fun A' h j hj => h j (fun hm => by
    have : fre j = true := decide_eq_true (by
      simp only [List.mem_cons, List.not_mem_nil, or_false] at hm ⊢
      omega)
    rw [this] at hj
    cases hj)
  unfold f_Md_lookAtKey f_Md_lookAtKey_j32
  rw [md_f, bd_S, copyI_S, bd_S, v1, md_i13, bd_S, hI]
  by_cases hgl : gN q ≤ lag
  · have e : tkey lag kn q = (0, kn) := by unfold tkey; rw [if_pos hgl]
    rw [if_pos (lt_sub1 hgl (by omega))]
    exact stay 0 (by rw [e]) (by rw [e]; rfl)
  · have hc8 : ch (gN q - lag) < 8 := ch_lt (by omega)
    have hk1 : 1 ≤ nu (gN q - lag) := nu_ge
    have hk2 : nu (gN q - lag) ≤ 64 := nu_le
    have hck : gN q - lag = 64 * ch (gN q - lag) + nu (gN q - lag) := by unfold ch nu; omega
    have et : tkey lag kn q = match kn (ch (gN q - lag)) with
      | none => (0, kn)
      | some (fi, v, K) => if nu (gN q - lag) < fi then (0, kn) else if nu (gN q - lag) ≤ v then (if ∀ i : Nat, i < 20 → q.2 (16 + nN q + i) = dnN (v - nu (gN q - lag)) K i then (0, kn) else (2, kn)) else (if ∀ i : Nat, i < 20 → dnN (nu (gN q - lag) - v) (fun i => q.2 (16 + nN q + i)) i = K i then (1, fun c => if c = ch (gN q - lag) then some (fi, nu (gN q - lag), fun i => q.2 (16 + nN q + i)) else kn c) else (2, kn)) := by
      rw [tkey, if_neg hgl]
      rfl
    rw [ii_sub (by omega), if_neg (by rw [show (1 : Int32) = ii 1 from rfl, ii_lt (by omega) (by decide)]; omega), md_r24, bd_S, mchain_S (by omega) (by omega), bd_S]
    generalize hcc : ch (gN q - lag) = c at *
    generalize hkk : nu (gN q - lag) = k at *
    have a8 : (8 : Int32) * ii r + ii c = ii (8 * r + c) := by rw [show (8 : Int32) = ii 8 from rfl, ii_mul, ii_add]
    have a16 : (16 : Int32) + A 37 5 = ii (16 + nN q) := by rw [v2, show (16 : Int32) = ii 16 from rfl, ii_add]
    rw [a8, md_ld24 (by omega), bd_S]
    have hkc := hk c hc8
    cases ek : kn c with
    | none =>
      rw [ek] at hkc et
      have hz : A 24 (8 * r + c) = 0 := hkc
      rw [hz, if_neg (fun hh => hh rfl)]
      exact stay 0 (by rw [et]) (by rw [et]; rfl)
    | some x =>
      obtain ⟨fi, v, K⟩ := x
      rw [ek] at hkc et
      obtain ⟨k1, k2, k3, k4⟩ := hkc
      obtain ⟨w1, w2⟩ := hv _ _ _ _ ek
      dsimp only at et
      rw [k1, if_pos (by decide), bd_S, a8, md_r26, bd_S, md_ld26 (by omega), bd_S, md_r37, bd_S, show (5 : Int32) = ii 5 from rfl, md_ld37 (by decide), bd_S, a16, k3, md_r25, bd_S, md_ld25 (by omega), bd_S, k2, hck]
      by_cases hkv : k ≤ v
      · rw [if_pos (by rw [ii_le (by omega) (by omega)]; omega)]
        by_cases hkf : k < fi
        · rw [if_pos hkf] at et
          rw [if_neg (by rw [ii_le (by omega) (by omega)]; omega)]
          exact stay 0 (by rw [et]) (by rw [et]; rfl)
        · rw [if_neg hkf, if_pos hkv] at et
          rw [if_pos (by rw [ii_le (by omega) (by omega)]; omega), bd_S, loadLatest_S (by omega) hN, md_mono, bd_S]
          have hmt : mtab (upA A 38 (ovr (fun i => A 27 (20 * (8 * r + c) + i)) (A 38) 20)) := by
            unfold mtab
            rw [upA_ne (by decide), upA_ne (by decide)]
            exact ht
          obtain ⟨I1, A1, d1, d2, d3, d4⟩ := md_downs (G := G) (R := R) (M := M) (N := N) (I := I) (f := f_Md_lookAtKey_l249 G N M (ii (64 * c + v)) (ii (16 + nN q)) 1) (64 * c + k) (v - k) hmt (fun I' A' j _ hj => by
            simp only [f_Md_lookAtKey_l249]
            rw [if_neg (by rw [ii_le (by omega) (by omega)]; omega), md_f, bd_S]) (fun I' A' _ => by
            simp only [f_Md_lookAtKey_l249]
            rw [if_pos (by rw [ii_le (by omega) (by omega)]; omega)]) hN (by omega)
          rw [d1, bd_S]
          have z38 : ∀ i, i < 20 → A1 38 i = dnN (v - k) K i := fun i hi => by
            rw [d2 i hi]
            refine dnN_congr (fun z hz => ?_) _ i hi
            rw [upA_eq]
            unfold ovr
            rw [if_pos hz]
            exact k4 z hz
          have z37 : A1 37 = A 37 := (d3 37 (by decide)).trans (upA_ne (by decide))
          have zj : ∀ j, fre j = false → A1 j = A j := fun j hj => by
            have hne : j ≠ 38 := fun e => by rw [e] at hj; cases hj
            rw [d3 j (fun hm => by
              have : fre j = true := decide_eq_true (by
                simp only [List.mem_cons, List.not_mem_nil, or_false] at hm ⊢
                omega)
              rw [this] at hj
              cases hj), upA_ne hne]
          obtain ⟨bb, c1, c2⟩ := look_269 (G := G) (R := R) (M := M) (N := N) (I := I1) (A := A1) (fr := 16 + nN q) (by omega) hN
          rw [c1, bd_S]
          unfold f_Md_lookAtKey_j324
          have hcmp : (∀ z, z < 20 → A1 38 z = A1 37 (16 + nN q + z)) ↔ ∀ i : Nat, i < 20 → q.2 (16 + nN q + i) = dnN (v - k) K i := by
            rw [z37]
            exact ⟨fun h i hi => by rw [← z38 i hi, h i hi, hc _ (by omega)], fun h i hi => by rw [z38 i hi, ← h i hi, hc _ (by omega)]⟩
          have mf : mfr A A1 r := mfr.trans (mfr.upF rfl) (mfr.keep d3)
          have fin : ∀ t : Nat, tkey lag kn q = (t, kn) → ∃ I' A', some (md G R M I1 A1, ii t) = some (md G R M I' A', ii (tkey lag kn q).1) ∧ mkn A' r (tkey lag kn q).2 ∧ mfr A A' r ∧ ikeep I I' ∧ (∀ j, fre j = false → j ≠ 26 → j ≠ 27 → A' j = A j) ∧ A' 37 = A 37 := fun t e => ⟨I1, A1, by rw [e], by rw [e]; exact hk.eq (zj 24 rfl) (zj 25 rfl) (zj 26 rfl) (zj 27 rfl), mf, d4, fun j hj _ _ => zj j hj, z37⟩
          rcases c2 with ⟨rfl, c2⟩ | ⟨rfl, c2⟩
          · rw [if_pos (hcmp.mp c2)] at et
            rw [if_neg (by decide)]
            exact fin 0 et
          · rw [if_neg (fun h => c2 (hcmp.mpr h))] at et
            rw [if_pos rfl]
            exact fin 2 et
      · have hkf : ¬ k < fi := by omega
        rw [if_neg hkf, if_neg hkv] at et
        rw [if_neg (by rw [ii_le (by omega) (by omega)]; omega), look_75 (by omega) hN, bd_S]
        have hmt : mtab (upA A 38 (ovr (fun i => A 37 (16 + nN q + i)) (A 38) 20)) := by
          unfold mtab
          rw [upA_ne (by decide), upA_ne (by decide)]
          exact ht
        obtain ⟨I1, A1, d1, d2, d3, d4⟩ := md_downs (G := G) (R := R) (M := M) (N := N) (I := I) (f := f_Md_lookAtKey_l109 G N M (ii (64 * c + k)) (ii (8 * r + c)) (ii (16 + nN q)) 1) (64 * c + v) (k - v) hmt (fun I' A' j _ hj => by
          simp only [f_Md_lookAtKey_l109]
          rw [if_neg (by rw [ii_le (by omega) (by omega)]; omega), md_f, bd_S]) (fun I' A' _ => by
          simp only [f_Md_lookAtKey_l109]
          rw [if_pos (by rw [ii_le (by omega) (by omega)]; omega)]) hN (by omega)
        rw [d1, bd_S]
        have z38 : ∀ i, i < 20 → A1 38 i = dnN (k - v) (fun i => q.2 (16 + nN q + i)) i := fun i hi => by
          rw [d2 i hi]
          refine dnN_congr (fun z hz => ?_) _ i hi
          rw [upA_eq]
          unfold ovr
          rw [if_pos hz]
          exact hc _ (by omega)
        have z37 : A1 37 = A 37 := (d3 37 (by decide)).trans (upA_ne (by decide))
        have zj : ∀ j, fre j = false → A1 j = A j := fun j hj => by
          have hne : j ≠ 38 := fun e => by rw [e] at hj; cases hj
          rw [d3 j (fun hm => by
            have : fre j = true := decide_eq_true (by
              simp only [List.mem_cons, List.not_mem_nil, or_false] at hm ⊢
              omega)
            rw [this] at hj
            cases hj), upA_ne hne]
        obtain ⟨bb, c1, c2⟩ := look_128 (G := G) (R := R) (M := M) (N := N) (I := I1) (A := A1) (sl := 8 * r + c) (x := ii (64 * c + k)) (z := ii (16 + nN q)) (by omega) hN
        rw [c1, bd_S]
        have hcmp : (∀ z, z < 20 → A1 38 z = A1 27 (20 * (8 * r + c) + z)) ↔ ∀ i : Nat, i < 20 → dnN (k - v) (fun i => q.2 (16 + nN q + i)) i = K i := by
          rw [zj 27 rfl]
          exact ⟨fun h i hi => by rw [← z38 i hi, h i hi, k4 i hi], fun h i hi => by rw [z38 i hi, h i hi, k4 i hi]⟩
        have mf : mfr A A1 r := mfr.trans (mfr.upF rfl) (mfr.keep d3)
        rcases c2 with ⟨rfl, c2⟩ | ⟨rfl, c2⟩
        · rw [if_pos (hcmp.mp c2)] at et
          rw [if_pos (by decide), md_r26, bd_S, md_st26 (by omega), bd_S, look_192 (by omega) (by omega) hN, bd_S]
          refine ⟨I1, _, by rw [et]; rfl, ?_, ?_, d4, fun j hj h26 h27 => ?_, ?_⟩
          · rw [et]
            intro c' hc'
            dsimp only
            rw [upA_ne (show (24 : Nat) ≠ 27 by decide), upA_ne (show (24 : Nat) ≠ 26 by decide), upA_ne (show (25 : Nat) ≠ 27 by decide), upA_ne (show (25 : Nat) ≠ 26 by decide), upA_ne (show (26 : Nat) ≠ 27 by decide), upA_eq, upA_eq, upA_ne (show (27 : Nat) ≠ 26 by decide), upA_ne (show (37 : Nat) ≠ 26 by decide), zj 24 rfl, zj 25 rfl, zj 26 rfl, zj 27 rfl, z37]
            have hkc' := hk c' hc'
            by_cases e : c' = c
            · subst e
              rw [if_pos rfl]
              refine ⟨k1, k2, ?_, fun i hi => ?_⟩
              · unfold upd
                rw [if_pos rfl]
              · unfold s_cp
                rw [if_pos (by omega), Nat.add_sub_cancel_left]
                exact hc _ (by omega)
            · rw [if_neg e]
              cases ek' : kn c' with
              | none => rw [ek'] at hkc'; exact hkc'
              | some x =>
                obtain ⟨fi', v', K'⟩ := x
                rw [ek'] at hkc'
                refine ⟨hkc'.1, hkc'.2.1, ?_, fun i hi => ?_⟩
                · unfold upd
                  rw [if_neg (by omega)]
                  exact hkc'.2.2.1
                · unfold s_cp
                  rw [if_neg (by omega)]
                  exact hkc'.2.2.2 i hi
          · refine (mf.trans (mfr.upd1 (j := 26) ?_ ?_)).trans (mfr.cp (j := 27) ?_ ?_)
            · show 8 * r ≤ _; omega
            · show _ < 8 * r + 8; omega
            · show 160 * r ≤ _; omega
            · show _ ≤ 160 * r + 160; omega
          · rw [upA_ne h27, upA_ne h26, zj j hj]
          · rw [upA_ne (by decide), upA_ne (by decide), z37]
        · rw [if_neg (fun h => c2 (hcmp.mpr h))] at et
          rw [if_neg (fun h => h rfl)]
          exact ⟨I1, A1, by rw [et]; rfl, by rw [et]; exact hk.eq (zj 24 rfl) (zj 25 rfl) (zj 26 rfl) (zj 27 rfl), mf, d4, fun j hj _ _ => zj j hj, z37⟩
end MO
