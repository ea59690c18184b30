/-! packet, key -/
theorem idx {x : Int32} {m : Nat} (hm : m < 1073741824) : ((x < 0 ∨ ii m - 1 < x) ∧ (x < 0 ∨ ii m ≤ x)) ∨ ∃ p, p < m ∧ x = ii p ∧ ¬ (x < 0 ∨ ii m - 1 < x) ∧ ¬ (x < 0 ∨ ii m ≤ x) := by
  by_cases h0 : x < 0
  · exact Or.inl ⟨Or.inl h0, Or.inl h0⟩
  · obtain ⟨e, hn⟩ := ge0 h0
    have e1 : (ii m - 1).toInt = (m : Int) - 1 := by
      rw [Int32.toInt_sub, ii_toInt (by omega), show (1 : Int32).toInt = 1 from rfl, Int.bmod_eq_of_le (by omega) (by omega)]
    generalize x.toNatClampNeg = p at e hn
    subst e
    have e2 : (ii m - 1 < ii p) ↔ m ≤ p := by
      rw [Int32.lt_iff_toInt_lt, e1, ii_toInt hn]
      omega
    have e3 : (ii m ≤ ii p) ↔ m ≤ p := by rw [ii_le (by omega) hn]
    by_cases h : m ≤ p
    · exact Or.inl ⟨Or.inr (e2.mpr h), Or.inr (e3.mpr h)⟩
    · refine Or.inr ⟨p, by omega, rfl, fun hh => ?_, fun hh => ?_⟩
      · rcases hh with hh | hh
        · exact h0 hh
        · exact h (e2.mp hh)
      · rcases hh with hh | hh
        · exact h0 hh
        · exact h (e3.mp hh)
section OR
variable {G : ho_G} {σ : ho_H} {w : Nat → Nat} {N O n M : Nat} {C : CK} {cc : Nat} {bf : Nat → Int32} {W : Nat → Nat → Int32} {PL : List PQ} {ρ : Nat → RS} {dr : Nat → Int32} {I : Nat → Int32} {A : Nat → Nat → Int32}
theorem hasPB_0 {x y : Int32} (g1 : cls G σ w O C cc bf W PL ρ dr) (h : x < 0 ∨ ii PL.length ≤ x) : f_Of_hasPacketByte G N σ O x y = some 0 := by
  obtain ⟨fs, hfs⟩ := g1.2.2.2.2.2.1.f
  unfold f_Of_hasPacketByte f_Of_hasPacketByte_j42 f_Of_hasPacketByte_j43
  by_cases h1 : x < 0
  · rw [if_pos h1]
    rfl
  · rcases h with h | h
    · exact absurd h h1
    · rw [if_neg h1, c_R g1.2.1 rfl, bd_S, hfs, bd_S, Al_size_S g1.2.2.2.2.2.1, bd_S, if_pos h]
      rfl
theorem hasPB_1 {p : Nat} {q : PQ} {y : Int32} (g1 : cls G σ w O C cc bf W PL ρ dr) (hq : PL[p]? = some q) : (y < 0 ∨ ii q.1 ≤ y → f_Of_hasPacketByte G N σ O (ii p) y = some 0) ∧ (¬ (y < 0 ∨ ii q.1 ≤ y) → f_Of_hasPacketByte G N σ O (ii p) y = some 1) := by
  have hl := g1.2.2.2.2.2.1.len
  have hp : p < PL.length := (List.getElem?_eq_some_iff.mp hq).1
  obtain ⟨fs, hfs⟩ := g1.2.2.2.2.2.1.f
  obtain ⟨a, p1, p2⟩ := Al_get_S (N := N) g1.2.2.2.2.2.1 hq
  obtain ⟨fp, hfp⟩ := p2.f
  obtain ⟨m, q1, q2, -⟩ := p2
  have hln : ho_lnI G σ m = some (ii q.1) := by
    unfold ho_lnI
    rw [c_r q2]
    rfl
  unfold f_Of_hasPacketByte f_Of_hasPacketByte_j42 f_Of_hasPacketByte_j43
  rw [if_neg (ii_nneg (by omega)), c_R g1.2.1 rfl, bd_S, hfs, bd_S, Al_size_S g1.2.2.2.2.2.1, bd_S, if_neg (by rw [ii_le (by omega) (by omega)]; omega)]
  refine ⟨fun h => ?_, fun h => ?_⟩
  · by_cases h1 : y < 0
    · rw [if_pos h1]
      rfl
    · rcases h with h | h
      · exact absurd h h1
      · rw [if_neg h1, bd_S, hfs, bd_S, p1, bd_S, hfp, bd_S, c_R q1 rfl, bd_S, hln, bd_S, if_pos h]
        rfl
  · rw [if_neg (fun hh => h (Or.inl hh)), bd_S, hfs, bd_S, p1, bd_S, hfp, bd_S, c_R q1 rfl, bd_S, hln, bd_S, if_neg (fun hh => h (Or.inr hh))]
    rfl
/-- packet -/
theorem J_packet {x y : Int32} (hg : good G σ w O n C cc bf W PL ρ dr) (hr : roomy G O n) : J G N σ O n (f_Lw_packet G N σ O x y (O + 226)) (fun s => f_Md_packet G N s (O + 195) x y) := by
  have g1 := hg.1
  have hl := g1.2.2.2.2.2.1.len
  have hB := hg.2.2.1.2.2.2.1
  have h200 := hg.2.2.1.2.2.1
  unfold f_Lw_packet
  have bad : f_Of_hasPacketByte G N σ O x y = some 0 → OS G σ w O (f_Of_packet G N σ O x y) (.inl 2) C cc bf W PL ρ dr := fun e => by
    unfold f_Of_packet
    rw [c_f g1.2.1, bd_S, e, bd_S, if_neg (fun h => h rfl)]
    exact hg.th hr 2
  rcases idx (x := x) (m := PL.length) (by omega) with ⟨h1, h2⟩ | ⟨p, hp, rfl, h1, h2⟩
  · refine glue hg (lw_ex (k := 1) (v := 0) g1.2.1 (bad (hasPB_0 g1 h2)) (fun _ => rfl) (by decide)) (fun I A hm => ms_fail hm (by decide) fun R => ?_) hg.2.2.1.succ (by decide)
    unfold f_Md_packet f_Md_packet_j49 f_Md_packet_j54
    rw [md_p12, bd_S, md_i18, bd_S, upI_nn (by decide), hm.2.2.2.1, within_0 h1, bd_S, if_pos rfl, md_f, bd_S, fail_S, md_mono2, bd2_S]
    rfl
  · obtain ⟨q, hq⟩ : ∃ q, PL[p]? = some q := ⟨_, List.getElem?_eq_getElem hp⟩
    have hb := hB p q hq
    have hb1 := hb.1
    have hb2 := hb.2.1
    rcases idx (x := y) (m := q.1) (by omega) with ⟨h3, h4⟩ | ⟨i, hi, rfl, h3, h4⟩
    · refine glue hg (lw_ex (k := 1) (v := 0) g1.2.1 (bad ((hasPB_1 g1 hq).1 h4)) (fun _ => rfl) (by decide)) (fun I A hm => ms_fail hm (by decide) fun R => ?_) hg.2.2.1.succ (by decide)
      unfold f_Md_packet f_Md_packet_j49 f_Md_packet_j54
      rw [md_p12, bd_S, md_i18, bd_S, upI_nn (by decide), hm.2.2.2.1, within_1 h1, bd_S, if_neg (by decide), md_r21, bd_S, md_ld21 (by omega), bd_S, (hm.2.2.2.2.2.2.1 p q hq).1, within_0 h3, bd_S, if_pos rfl, md_f, bd_S, fail_S, md_mono2, bd2_S]
      rfl
    · obtain ⟨fs, hfs⟩ := g1.2.2.2.2.2.1.f
      obtain ⟨a, p1, p2⟩ := Al_get_S (N := N) g1.2.2.2.2.2.1 hq
      obtain ⟨fp, hfp⟩ := p2.f
      obtain ⟨m, q1, q2, -⟩ := p2
      have ho : OS G σ w O (f_Of_packet G N σ O (ii p) (ii i)) (.inr (q.2 i)) C cc bf W PL ρ dr := by
        unfold f_Of_packet
        rw [c_f g1.2.1, bd_S, (hasPB_1 g1 hq).2 h4, bd_S, if_pos (by decide), c_R g1.2.1 rfl, bd_S, hfs, bd_S, p1, bd_S, hfp, bd_S, c_R q1 rfl, bd_S, c_ld q2 hi (by omega), bd_S]
        exact same_S g1 _
      refine glue hg (lw_ok g1.2.1 ho) (fun I A hm => ms_same hm fun R => ?_) hg.2.2.1.succ (by decide)
      unfold f_Md_packet f_Md_packet_j54
      rw [md_p12, bd_S, md_i18, bd_S, upI_nn (by decide), hm.2.2.2.1, within_1 h1, bd_S, if_neg (by decide), md_r21, bd_S, md_ld21 (by omega), bd_S, (hm.2.2.2.2.2.2.1 p q hq).1, within_1 h3, bd_S, if_neg (by decide), md_r22, bd_S, show (68 : Int32) = ii 68 from rfl, ii_mul, ii_add, md_ld22 (by omega), bd_S, (hm.2.2.2.2.2.2.1 p q hq).2 i hi]
theorem cls.ch (g1 : cls G σ w O C cc bf W PL ρ dr) {c : Nat} (hc : c < 8) : ho_ldR G σ (O + 8) 3 (ii c) = some (O + 9 + 2 * c) := by
  obtain ⟨f, h1, h2⟩ := g1.2.2.2.1
  exact c_ldR h1 hc (by omega) (h2 c hc)
theorem cls.isK (g1 : cls G σ w O C cc bf W PL ρ dr) {c : Nat} (hc : c < 8) : ∃ fi la f, isK G σ (O + 2) (O + 9 + 2 * c) (O + 10 + 2 * c) fi la f ∧ σ.2.2 (O + 9 + 2 * c) = some (.inr (2, [.ref (O + 10 + 2 * c), .int fi, .int la])) ∧ σ.2.2 (O + 10 + 2 * c) = some (.inl (gc G 0, 325, .inl f)) ∧ (c < cc → ∀ i, i < 1300 → s_bs f i = W c i) := by
  obtain ⟨fi, la, f, k1, k2, k3⟩ := g1.2.2.2.2.1 c hc
  exact ⟨fi, la, f, ⟨c_f k1, c_a k2, Or.inr (by omega), Or.inr (by omega), by omega, by have := g1.1.2.1; omega⟩, k1, k2, k3⟩
/-- a key's byte, by the class -/
theorem key64 {c k i : Nat} (g1 : cls G σ w O C cc bf W PL ρ dr) (hcc : cc ≤ 8) (hk : k ≤ 64) (hi : i < 20) (hc9 : c < 9) : (c < cc → OS G σ w O (f_Of_key_j64 G N σ O (ii i) (ii c) (ii k)) (.inr (W c (20 * k + i))) C cc bf W PL ρ dr) ∧ (¬ c < cc → f_Of_key_j64 G N σ O (ii i) (ii c) (ii k) = (ho_thr G σ).bind fun σ8 => some (σ8, .inl 0)) := by
  unfold f_Of_key_j64
  rw [c_I g1.2.1 rfl, bd_S]
  refine ⟨fun h => ?_, fun h => ?_⟩
  · obtain ⟨fi, la, f, hK, k1, k2, k3⟩ := g1.isK (c := c) (by omega)
    obtain ⟨-, -, -, ⟨L, B, hσ⟩, -⟩ := g1.1
    have e := Kc_byteAt_S (N := N) (L := L) (B := B) (k := k) (i := i) hK (by omega)
    rw [← hσ] at e
    rw [if_pos (by rw [ii_lt (by omega) (by omega)]; exact h), c_R g1.2.1 rfl, bd_S, g1.ch (by omega), bd_S, c_f k1, bd_S, e, bd_S, k3 h _ (by omega)]
    exact same_S g1 _
  · rw [if_neg (by rw [ii_lt (by omega) (by omega)]; exact h)]
theorem chainFor_S {R : ho_H} {g : Nat} {z : Int32} (h17 : I 17 = ii cc) (hcc : cc ≤ 8) (hg : g ≤ 512) : (g / 64 < cc → f_Md_chainFor G N (md G R M I A) M (ii g) z = some (ii (g / 64))) ∧ (¬ g / 64 < cc → z = 0 → g % 64 = 0 → 1 ≤ g / 64 → g / 64 - 1 < cc → f_Md_chainFor G N (md G R M I A) M (ii g) z = some (ii (g / 64 - 1))) ∧ (¬ g / 64 < cc → (¬ z = 0 ∨ ¬ g % 64 = 0 ∨ ¬ 1 ≤ g / 64 ∨ ¬ g / 64 - 1 < cc) → f_Md_chainFor G N (md G R M I A) M (ii g) z = some (-1)) := by
  have e64 : ho_rm (ii g) 64 = ii (g % 64) := by rw [show (64 : Int32) = ii 64 from rfl, ii_rm (by omega) (by decide)]
  have ed : ii g / 64 = ii (g / 64) := by rw [show (64 : Int32) = ii 64 from rfl, ii_div (by omega) (by decide)]
  have hz : (ii (g % 64) = 0) ↔ g % 64 = 0 := by
    rw [show (0 : Int32) = ii 0 from rfl, ii_inj (by omega) (by decide)]
  -- the last test
  have last : ∀ y : Int32, f_Md_chainFor_j42 G N (md G R M I A) M y = some (if y < 0 ∨ ii cc - 1 < y then -1 else y) := fun y => by
    unfold f_Md_chainFor_j42 f_Md_chainFor_j61
    rw [md_i17, bd_S, h17, within_S, bd_S]
    by_cases h : y < 0 ∨ ii cc - 1 < y
    · rw [if_pos h, if_pos rfl, if_pos h]
    · rw [if_neg h, if_neg (by decide), if_neg h]
  have lastN : ∀ c : Nat, c < 9 → f_Md_chainFor_j42 G N (md G R M I A) M (ii c) = some (if c < cc then ii c else -1) := fun c hc => by
    rw [last]
    rcases idx (x := ii c) (m := cc) (by omega) with ⟨h1, h2⟩ | ⟨p, hp, e, h1, h2⟩
    · rw [if_pos h1, if_neg]
      intro h
      rcases h2 with h2 | h2
      · exact ii_nneg (by omega) h2
      · rw [ii_le (by omega) (by omega)] at h2
        omega
    · rw [ii_inj (by omega) (by omega)] at e
      rw [if_neg h1, if_pos (by omega)]
  have first : f_Md_chainFor G N (md G R M I A) M (ii g) z = f_Md_chainFor_j18 G N (md G R M I A) M (ii g) z (ii (g / 64)) := by
    unfold f_Md_chainFor
    rw [e64, ed]
    by_cases h : g % 64 = 0
    · rw [if_neg (fun hh => hh (hz.mpr h))]
    · rw [if_pos (fun hh => h (hz.mp hh)), mchain_S (by omega) (by omega), bd_S, show ch g = g / 64 by unfold ch; omega]
  rw [first]
  unfold f_Md_chainFor_j18
  rw [e64, md_i17, h17, lastN (g / 64) (by omega)]
  refine ⟨fun h => ?_, fun h h0 h1 h2 h3 => ?_, fun h hh => ?_⟩
  · rw [if_pos h]
    by_cases c1 : g % 64 = 0
    · rw [if_neg (fun hh => hh (hz.mpr c1))]
      by_cases c2 : z = 0
      · rw [if_neg (fun hh => hh c2), bd_S, if_pos (by rw [ii_lt (by omega) (by omega)]; exact h)]
      · rw [if_pos c2]
    · rw [if_pos (fun hh => c1 (hz.mp hh))]
  · rw [if_neg (fun hh => hh (hz.mpr h1)), if_neg (fun hh => hh h0), bd_S, if_neg (by rw [ii_lt (by omega) (by omega)]; exact h), show ii (g / 64) - 1 = ii (g / 64 - 1) from ii_sub (b := 1) h2, lastN _ (by omega), if_pos h3]
  · rw [if_neg h]
    by_cases c1 : g % 64 = 0
    · rw [if_neg (fun hh => hh (hz.mpr c1))]
      by_cases c2 : z = 0
      · rw [if_neg (fun hh => hh c2), bd_S, if_neg (by rw [ii_lt (by omega) (by omega)]; exact h)]
        by_cases c3 : 1 ≤ g / 64
        · rw [show ii (g / 64) - 1 = ii (g / 64 - 1) from ii_sub (b := 1) c3, lastN _ (by omega), if_neg]
          intro c4
          rcases hh with hh | hh | hh | hh
          · exact hh c2
          · exact hh c1
          · exact hh c3
          · exact hh c4
        · have e0 : g / 64 = 0 := by omega
          rw [e0, last, if_pos (Or.inl (by decide))]
      · rw [if_pos c2]
    · rw [if_pos (fun hh => c1 (hz.mp hh))]
/-- key -/
theorem J_key {x y : Int32} (hg : good G σ w O n C cc bf W PL ρ dr) (hr : roomy G O n) : J G N σ O n (f_Lw_key G N σ O x y (O + 226)) (fun s => f_Md_key G N s (O + 195) x y) := by
  have g1 := hg.1
  have hcc := hg.2.2.1.2.1
  unfold f_Lw_key
  by_cases h1 : x < 0 ∨ 512 < x
  · have ho : f_Of_key G N σ O x y = (ho_thr G σ).bind fun σ1 => some (σ1, .inl 2) := by
      unfold f_Of_key f_Of_key_j21
      by_cases h2 : x < 0
      · rw [if_pos h2]
      · rcases h1 with h1 | h1
        · exact absurd h1 h2
        · rw [if_neg h2, if_pos h1]
    refine glue hg (lw_ex (k := 1) (v := 0) g1.2.1 (by rw [ho]; exact hg.th hr 2) (fun _ => rfl) (by decide)) (fun I A hm => ms_fail hm (by decide) fun R => ?_) hg.2.2.1.succ (by decide)
    unfold f_Md_key f_Md_key_j26
    rw [md_p12, bd_S, within_0 h1, bd_S, if_pos rfl, md_f, bd_S, fail_S, md_mono2, bd2_S]
    rfl
  · obtain ⟨g, hg5, rfl⟩ := rng2 (b := 512) (by decide) (fun h => h1 (Or.inl h)) (fun h => h1 (Or.inr h))
    by_cases h2 : y < 0 ∨ 19 < y
    · have ho : f_Of_key G N σ O (ii g) y = (ho_thr G σ).bind fun σ1 => some (σ1, .inl 2) := by
        unfold f_Of_key f_Of_key_j21
        rw [if_neg (fun h => h1 (Or.inl h)), if_neg (fun h => h1 (Or.inr h))]
        by_cases h3 : y < 0
        · rw [if_pos h3]
        · rw [if_neg h3, if_neg]
          intro h4
          rw [show (20 : Int32) = ii (19 + 1) from rfl, lt_succ (by decide) h3] at h4
          rcases h2 with h2 | h2
          · exact h3 h2
          · exact h4 h2
      refine glue hg (lw_ex (k := 1) (v := 0) g1.2.1 (by rw [ho]; exact hg.th hr 2) (fun _ => rfl) (by decide)) (fun I A hm => ms_fail hm (by decide) fun R => ?_) hg.2.2.1.succ (by decide)
      unfold f_Md_key f_Md_key_j26
      rw [md_p12, bd_S, within_1 h1, bd_S, if_neg (by decide), within_0 h2, bd_S, if_neg (fun h => h rfl), md_f, bd_S, fail_S, md_mono2, bd2_S]
      rfl
    · obtain ⟨i, hi, rfl⟩ := rng2 (b := 19) (by decide) (fun h => h2 (Or.inl h)) (fun h => h2 (Or.inr h))
      have e64 : ho_rm (ii g) 64 = ii (g % 64) := by rw [show (64 : Int32) = ii 64 from rfl, ii_rm (by omega) (by decide)]
      have ed : ii g / 64 = ii (g / 64) := by rw [show (64 : Int32) = ii 64 from rfl, ii_div (by omega) (by decide)]
      -- the class up to the choice
      have hcl : f_Of_key G N σ O (ii g) (ii i) = if ii (g / 64) < ii cc then f_Of_key_j64 G N σ O (ii i) (ii (g / 64)) (ii (g % 64)) else if ii (g / 64) ≤ 0 then f_Of_key_j64 G N σ O (ii i) (ii (g / 64)) (ii (g % 64)) else if ¬ ii (g % 64) = 0 then f_Of_key_j64 G N σ O (ii i) (ii (g / 64)) (ii (g % 64)) else f_Of_key_j64 G N σ O (ii i) (ii (g / 64) + (-1)) 64 := by
        unfold f_Of_key
        rw [if_neg (fun h => h1 (Or.inl h)), if_neg (fun h => h1 (Or.inr h)), if_neg (fun h => h2 (Or.inl h)), if_pos (by rw [show (20 : Int32) = ii 20 from rfl, ii_lt (by omega) (by decide)]; omega), c_I g1.2.1 rfl, bd_S, e64, ed]
      -- the model up to the choice
      have hml : ∀ (I : Nat → Int32) (A : Nat → Nat → Int32) (R : ho_H), f_Md_key G N (md G R (O + 195) I A) (O + 195) (ii g) (ii i) = (f_Md_chainFor G N (md G R (O + 195) (upI I 12 0) A) (O + 195) (ii g) 0).bind fun v8 => if 0 ≤ v8 then (ho_f (md G R (O + 195) (upI I 12 0) A) (O + 195) 6).bind fun _ => (f_Md_keyAt G N (md G R (O + 195) (upI I 12 0) A) (O + 195) v8 (ii g - 64 * v8) (ii i)).bind fun v10 => some (md G R (O + 195) (upI I 12 0) A, v10) else (ho_f (md G R (O + 195) (upI I 12 0) A) (O + 195) 6).bind fun _ => bd2 (ho_ck (md G R (O + 195) (upI I 12 0) A) (f_Md_fail G N (md G R (O + 195) (upI I 12 0) A) (O + 195) 2)) fun σ12 v13 => some (σ12, v13) := fun I A R => by
        unfold f_Md_key f_Md_key_j63
        rw [md_p12, bd_S, within_1 h1, bd_S, if_neg (by decide), within_1 h2, bd_S, if_pos (by decide), md_f, bd_S]
      have a17 : ∀ I : Nat → Int32, I 17 = ii cc → upI I 12 0 17 = ii cc := fun I h => by rw [upI_nn (by decide)]; exact h
      have pos : ∀ c k : Nat, c < cc → k ≤ 64 → g = 64 * c + k → OS G σ w O (f_Of_key G N σ O (ii g) (ii i)) (.inr (W c (20 * k + i))) C cc bf W PL ρ dr → (∀ I A, mdl I A C cc bf W PL ρ dr → ∀ R, f_Md_chainFor G N (md G R (O + 195) (upI I 12 0) A) (O + 195) (ii g) 0 = some (ii c)) → J G N σ O n ((ho_f σ O 5).bind fun _ => bd2 (ho_ck σ (f_Of_key G N σ O (ii g) (ii i))) fun σ2 o3 => sm_e (fun i4 => if i4 = 2 then some (σ2, 1) else if i4 = 0 then some (σ2, 2) else none) (fun v5 => (ho_stL G σ2 (O + 226) 2 0 v5.toInt64).bind fun σ6 => some (σ6, 0)) o3) (fun s => f_Md_key G N s (O + 195) (ii g) (ii i)) := by
        intro c k hc hk he ho hch
        refine glue hg (lw_ok g1.2.1 ho) (fun I A hm => ms_same hm fun R => ?_) hg.2.2.1.succ (by decide)
        have es : ii g - 64 * ii c = ii k := by
          rw [show (64 : Int32) = ii 64 from rfl, ii_mul, ii_sub (by omega), show g - 64 * c = k by omega]
        rw [hml I A R, hch I A hm R, bd_S, if_pos (by rw [show (0 : Int32) = ii 0 from rfl, ii_le (by decide) (by omega)]; omega), md_f, bd_S, es, keyAt_S (by omega), bd_S, Nat.add_assoc, hm.2.2.2.2.2.1 c hc _ (by omega)]
      have neg : f_Of_key G N σ O (ii g) (ii i) = ((ho_thr G σ).bind fun σ8 => some (σ8, .inl 0)) → (∀ I A, mdl I A C cc bf W PL ρ dr → ∀ R, f_Md_chainFor G N (md G R (O + 195) (upI I 12 0) A) (O + 195) (ii g) 0 = some (-1)) → J G N σ O n ((ho_f σ O 5).bind fun _ => bd2 (ho_ck σ (f_Of_key G N σ O (ii g) (ii i))) fun σ2 o3 => sm_e (fun i4 => if i4 = 2 then some (σ2, 1) else if i4 = 0 then some (σ2, 2) else none) (fun v5 => (ho_stL G σ2 (O + 226) 2 0 v5.toInt64).bind fun σ6 => some (σ6, 0)) o3) (fun s => f_Md_key G N s (O + 195) (ii g) (ii i)) := by
        intro ho hch
        refine glue hg (lw_ex (k := 2) (v := 0) g1.2.1 (by rw [ho]; exact hg.th hr 0) (fun _ => rfl) (by decide)) (fun I A hm => ms_fail hm (by decide) fun R => ?_) hg.2.2.1.succ (by decide)
        rw [hml I A R, hch I A hm R, bd_S, if_neg (by decide), md_f, bd_S, fail_S, md_mono2, bd2_S]
        rfl
      by_cases c1 : g / 64 < cc
      · refine pos (g / 64) (g % 64) c1 (by omega) (by omega) ?_ (fun I A hm R => (chainFor_S (a17 I hm.2.2.1) hcc hg5).1 c1)
        rw [hcl, if_pos (by rw [ii_lt (by omega) (by omega)]; exact c1)]
        exact (key64 g1 hcc (by omega) (by omega) (by omega)).1 c1
      · have nlt : ¬ ii (g / 64) < ii cc := by rw [ii_lt (by omega) (by omega)]; exact c1
        by_cases c2 : g % 64 = 0 ∧ 1 ≤ g / 64 ∧ g / 64 - 1 < cc
        · obtain ⟨c2, c3, c4⟩ := c2
          refine pos (g / 64 - 1) 64 c4 (by omega) (by omega) ?_ (fun I A hm R => (chainFor_S (a17 I hm.2.2.1) hcc hg5).2.1 c1 rfl c2 c3 c4)
          rw [hcl, if_neg nlt, if_neg (by rw [show (0 : Int32) = ii 0 from rfl, ii_le (by omega) (by decide)]; omega), if_neg (by rw [c2]; exact fun h => h rfl), ii_dec c3]
          exact (key64 (k := 64) g1 hcc (by omega) (by omega) (by omega)).1 c4
        · refine neg ?_ (fun I A hm R => (chainFor_S (a17 I hm.2.2.1) hcc hg5).2.2 c1 ?_)
          · rw [hcl, if_neg nlt]
            by_cases c3 : 1 ≤ g / 64
            · rw [if_neg (by rw [show (0 : Int32) = ii 0 from rfl, ii_le (by omega) (by decide)]; omega)]
              by_cases c4 : g % 64 = 0
              · rw [if_neg (by rw [c4]; exact fun h => h rfl), ii_dec c3]
                exact (key64 (k := 64) g1 hcc (by omega) (by omega) (by omega)).2 (fun c5 => c2 ⟨c4, c3, c5⟩)
              · rw [if_pos (by rw [show (0 : Int32) = ii 0 from rfl, ii_inj (by omega) (by decide)]; exact c4)]
                exact (key64 g1 hcc (by omega) (by omega) (by omega)).2 c1
            · rw [if_pos (by rw [show (0 : Int32) = ii 0 from rfl, ii_le (by omega) (by decide)]; omega)]
              exact (key64 g1 hcc (by omega) (by omega) (by omega)).2 c1
          · by_cases c3 : g % 64 = 0
            · by_cases c4 : 1 ≤ g / 64
              · exact Or.inr (Or.inr (Or.inr fun c5 => c2 ⟨c3, c4, c5⟩))
              · exact Or.inr (Or.inr (Or.inl c4))
            · exact Or.inr (Or.inl c3)
end OR
