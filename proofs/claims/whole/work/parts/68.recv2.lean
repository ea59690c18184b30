/-! a receiver takes the key that a packet shows -/
def TC (O b c : Nat) : Nat → Nat → Prop := fun a _ => (O + 2 ≤ a ∧ a < O + 7) ∨ a = b + 5 + 2 * c ∨ a = b + 6 + 2 * c
theorem bs_sh {f : Nat → Int32} {k i : Nat} : s_bs f (20 * k + i) = s_bs (fun z => f (5 * k + z)) i := by
  unfold s_bs
  rw [show (20 * k + i) / 4 = 5 * k + i / 4 by omega, show (20 * k + i) % 4 = i % 4 by omega]
theorem sub_le1 {a b : Nat} (h : a ≤ b) (hb : b < 1073741824) : ¬ (1 : Int32) ≤ ii a - ii b := by
  rw [Int32.le_iff_toInt_le, Int32.toInt_sub, ii_toInt (by omega), ii_toInt (by omega), Int.bmod_eq_of_le (by omega) (by omega), show (1 : Int32).toInt = 1 from rfl]
  omega
section RT
variable {G : ho_G} {σ : ho_H} {N : Nat} {w : Nat → Nat} {O b : Nat} {s : RS} {dr : Int32} {C : Int32 × Int32 × Int32 × Int32}
theorem rcv.chain {σ' : ho_H} {w' : Nat → Nat} {c : Nat} {x : Option (Nat × Nat × (Nat → Int32))} {fi la : Int32} {f : Nat → Int32} (h : rcv G σ w O b s dr) (hw : wf G σ) (hf : frm σ w σ' w' (TC O b c)) (hc : c < 8) (k1 : σ'.2.2 (b + 5 + 2 * c) = some (.inr (2, [.ref (b + 6 + 2 * c), .int fi, .int la]))) (k2 : σ'.2.2 (b + 6 + 2 * c) = some (.inl (gc G 0, 325, .inl f))) (k3 : kr x fi la f) : rcv G σ' w' O b (fun c' => if c' = c then x else s.1 c', s.2) dr := by
  obtain ⟨⟨z1, z2⟩, a1, ⟨kf, a2, a3⟩, a4, a5, ⟨cf, a6, a7⟩, a8⟩ := h
  have hT : ∀ a, O + 227 ≤ a → ∀ o, ¬ TC O b c a o := fun a ha o ht => by rcases ht with ht | ht | ht <;> omega
  refine ⟨⟨z1, z2⟩, hf.at hw a1 ?_, ⟨kf, hf.at hw a2 ?_, a3⟩, a4.fr hw hf ?_ (fun a ha => hT a ha 0) (fun a ha => hT a ha _), a5.fr hw hf ?_ (fun a ha => hT a ha 0) (fun a ha => hT a ha _), ⟨cf, hf.at hw a6 ?_, a7⟩, fun c' hc' => ?_⟩
  · intro ht; rcases ht with ht | ht | ht <;> omega
  · intro ht; rcases ht with ht | ht | ht <;> omega
  · intro ht; rcases ht with ht | ht | ht <;> omega
  · intro ht; rcases ht with ht | ht | ht <;> omega
  · intro ht; rcases ht with ht | ht | ht <;> omega
  · by_cases e : c' = c
    · subst e
      exact ⟨fi, la, f, k1, k2, by dsimp only; rw [if_pos rfl]; exact k3⟩
    · obtain ⟨fi', la', f', y1, y2, y3⟩ := a8 c' hc'
      refine ⟨fi', la', f', hf.at hw y1 ?_, hf.at hw y2 ?_, by dsimp only; rw [if_neg e]; exact y3⟩
      · intro ht; rcases ht with ht | ht | ht <;> omega
      · intro ht; rcases ht with ht | ht | ht <;> omega
theorem TC_TR {c : Nat} (hc : c < 8) {a o : Nat} (h : TC O b c a o) : TR O b a o := by
  rcases h with h | h | h
  · exact Or.inl h
  · exact Or.inr (Or.inl (by omega))
  · exact Or.inr (Or.inl (by omega))
theorem rcv.isK {c : Nat} {fi la : Int32} {f : Nat → Int32} (hb : bse G σ O C) (z : O + 27 ≤ b) (k1 : σ.2.2 (b + 5 + 2 * c) = some (.inr (2, [.ref (b + 6 + 2 * c), .int fi, .int la]))) (k2 : σ.2.2 (b + 6 + 2 * c) = some (.inl (gc G 0, 325, .inl f))) : isK G σ (O + 2) (b + 5 + 2 * c) (b + 6 + 2 * c) fi la f := ⟨c_f k1, c_a k2, Or.inr (by omega), Or.inr (by omega), by omega, by have := hb.2.1; omega⟩
theorem kn_same {c : Nat} {x : Option (Nat × Nat × (Nat → Int32))} {kn : KN} (h : kn c = x) : (fun c' => if c' = c then x else kn c') = kn := by
  funext c'
  by_cases e : c' = c
  · rw [if_pos e, e, h]
  · rw [if_neg e]
theorem takeShown_S {p lag : Nat} {q : PQ} (h : rcv G σ w O b s dr) (hb : bse G σ O C) (hs : rsV s) (hp : pk G σ w O p q) (hq : pkV q) (hC : C.1 = ii lag) (hlag : lag ≤ 8) (hg : gtab G) (hN : 301 < N) : ∃ σ', f_Rc_takeShownKey G N σ b p = some (σ', if (tkey lag s.1 q).1 = 2 then 0 else 1) ∧ bse G σ' O C ∧ rcv G σ' w O b ((tkey lag s.1 q).2, s.2) dr ∧ frm σ w σ' w (TR O b) ∧ σ'.1 = σ.1 ∧ σ'.2.1 = σ.2.1 := by
  have hb0 := hb
  have h0 := h
  obtain ⟨hw, hO, hz, ⟨L, B, hσ⟩, hck⟩ := hb
  obtain ⟨⟨z1, z2⟩, -⟩ := h
  have g1 := hq.g1
  have g2 := hq.g2
  have n32 := hq.n32
  have hln := hq.ln
  obtain ⟨fp, hfp⟩ := hp.f
  have hi := hp.gi (N := N) hb0 (by omega)
  rw [hq.i] at hi
  -- what stays as it was
  have stay : ∀ v : Int32, (v = if (tkey lag s.1 q).1 = 2 then 0 else 1) → (tkey lag s.1 q).2 = s.1 → ∃ σ', some (σ, v) = some (σ', if (tkey lag s.1 q).1 = 2 then 0 else 1) ∧ bse G σ' O C ∧ rcv G σ' w O b ((tkey lag s.1 q).2, s.2) dr ∧ frm σ w σ' w (TR O b) ∧ σ'.1 = σ.1 ∧ σ'.2.1 = σ.2.1 := fun v hv ht => ⟨σ, by rw [hv], hb0, by rw [ht]; exact h0, frm.refl, rfl, rfl⟩
  unfold f_Rc_takeShownKey f_Rc_takeShownKey_j52
  rw [hfp, bd_S, hi, bd_S, h0.r0, bd_S, c_I hck rfl, bd_S, hC]
  by_cases hgl : gN q ≤ lag
  · rw [if_neg (sub_le1 hgl (by omega))]
    have e : tkey lag s.1 q = (0, s.1) := by unfold tkey; rw [if_pos hgl]
    exact stay 1 (by rw [e]; rfl) (by rw [e])
  · rw [ii_sub (by omega), if_pos (by rw [show (1 : Int32) = ii 1 from rfl, ii_le (by decide) (by omega)]; omega), h0.r2, bd_S, chainOf_S (by omega) (by omega), bd_S, h0.kn (ch_lt (by omega)), bd_S, number_S (by omega) (by omega), bd_S]
    have hc8 : ch (gN q - lag) < 8 := ch_lt (by omega)
    have hk1 : 1 ≤ nu (gN q - lag) := nu_ge
    have hk2 : nu (gN q - lag) ≤ 64 := nu_le
    obtain ⟨fi, la, f, k1, k2, k3⟩ := h0.2.2.2.2.2.2 _ hc8
    have et : tkey lag s.1 q = match s.1 (ch (gN q - lag)) with
      | none => (0, s.1)
      | some (fi, v, K) => if nu (gN q - lag) < fi then (0, s.1) else if nu (gN q - lag) ≤ v then (if ∀ i : Nat, i < 20 → q.2 (16 + nN q + i) = dnN (v - nu (gN q - lag)) K i then (0, s.1) else (2, s.1)) else (if ∀ i : Nat, i < 20 → dnN (nu (gN q - lag) - v) (fun i => q.2 (16 + nN q + i)) i = K i then (1, fun c => if c = ch (gN q - lag) then some (fi, nu (gN q - lag), fun i => q.2 (16 + nN q + i)) else s.1 c) else (2, s.1)) := by
      rw [tkey, if_neg hgl]
      rfl
    generalize hcc : ch (gN q - lag) = c at *
    generalize hkk : nu (gN q - lag) = k at *
    have hK := rcv.isK hb0 z1 k1 k2
    have e1 : f_Kc_isKnown G N σ (b + 5 + 2 * c) = some (if la = -1 then 0 else 1) := by
      have := Kc_isKnown_S (N := N) (L := L) (B := B) hK
      rw [← hσ] at this
      exact this
    rw [c_f k1, bd_S, e1, bd_S]
    cases ek : s.1 c with
    | none =>
      rw [ek] at k3 et
      have k4 : la = -1 := k3
      rw [k4, if_pos rfl, if_pos rfl]
      exact stay 1 (by rw [et]; rfl) (by rw [et])
    | some x =>
      obtain ⟨fi0, v, K⟩ := x
      rw [ek] at k3 et
      obtain ⟨k4, k5, k6⟩ := k3
      obtain ⟨hv1, hv2⟩ := hs.1 _ _ _ _ ek
      dsimp only at et
      have hla : (if la = -1 then (0 : Int32) else 1) = 1 := by rw [k5, if_neg (ne_neg1 (by omega))]
      rw [hla, if_neg (show ¬ (1 : Int32) = 0 by decide), c_I k1 rfl, bd_S]
      by_cases hkf : k < fi0
      · rw [if_pos hkf] at et
        rw [k4, if_neg (by rw [ii_le (by omega) (by omega)]; omega)]
        exact stay 1 (by rw [et]; rfl) (by rw [et])
      · rw [if_neg hkf] at et
        rw [k4, if_pos (by rw [ii_le (by omega) (by omega)]; omega), c_I k1 rfl, bd_S, k5]
        obtain ⟨m, hP⟩ := hp.isP hO
        have e2 : f_Pk_shownAt G N σ p = some (ii (16 + nN q)) := by
          have := Pk_shownAt_S (N := N) (L := L) (B := B) hP (by omega) hq.n5
          rw [← hσ] at this
          exact this
        obtain ⟨m', hp1, hp2, -, -, hp5, hp6⟩ := hp
        have e3 : ho_gR σ p 3 0 = some m' := c_R hp1 rfl
        by_cases hkv : k ≤ v
        · rw [if_pos hkv] at et
          rw [if_neg (by rw [ii_lt (by omega) (by omega)]; omega), e3, bd_S, bd_S, e2, bd_S, bd_S]
          have e4 := Kc_isKey_S (N := N) (L := L) (B := B) (m := m') (bn := q.1) (bf := q.2) (k := k) (fr := 16 + nN q) hK (by omega) (by rw [← hσ]; exact c_r hp2) (by omega) (by omega) (by omega)
          rw [← hσ] at e4
          by_cases hall : ∀ i : Nat, i < 20 → q.2 (16 + nN q + i) = dnN (v - k) K i
          · rw [if_pos hall] at et
            rw [e4.1 (fun i hi => (hall i hi).trans (k6 k (by omega) hkv i hi).symm), bd_S, ho_bz_1, bd_S]
            exact stay 1 (by rw [et]; rfl) (by rw [et])
          · rw [if_neg hall] at et
            rw [e4.2 (fun hh => hall fun i hi => (hh i hi).trans (k6 k (by omega) hkv i hi)), bd_S, ho_bz_0, bd_S]
            exact stay 0 (by rw [et]; rfl) (by rw [et])
        · rw [if_neg hkv] at et
          rw [if_pos (by rw [ii_lt (by omega) (by omega)]; omega), e3, bd_S, bd_S, e2, bd_S, bd_S]
          have hne1 : m' ≠ b + 6 + 2 * c := by omega
          have r1 := Kc_readKey_S (N := N) (L := L) (B := B) (k := k) (fr := 16 + nN q) hK (by omega) (Or.inr (show O + 2 + 5 ≤ m' by omega)) hne1 (c_r hp2) (by omega) (by omega) (by omega)
          rw [← hσ] at r1
          rw [r1, cv_S (by exact Nat.le_refl _) (by exact Nat.le_refl _), bd_S]
          generalize hf1 : s_cp f (fun i => s_wd q.2 (16 + nN q + 4 * i)) (5 * k) 5 = f1 at r1 ⊢
          have hK1 : isK G (wset G σ (b + 6 + 2 * c) 325 f1) (O + 2) (b + 5 + 2 * c) (b + 6 + 2 * c) fi la f1 := hK.ws
          have hl1 : lowR G (wset G σ (b + 6 + 2 * c) 325 f1) := wset_low hw.1 (by omega)
          have y1 : ho_gI (sl G (wset G σ (b + 6 + 2 * c) 325 f1) (O + 2) L B) (b + 5 + 2 * c) 2 2 = some la := hK1.la
          have hb4 : ∀ (f2 : Nat → Int32) (L2 : Int32) (B2 : Nat → Nat → Int32), ho_gR (sl G (wset G σ (b + 6 + 2 * c) 325 f2) (O + 2) L2 B2) b 4 1 = some (O + 2) := fun f2 L2 B2 => by
            rw [sl_gRO (Or.inr (by omega))]
            unfold ho_gR
            rw [wset_f (by omega), c_f h0.2.1]
            rfl
          rw [y1, bd_S, hb4, bd_S, hK1.f, bd_S, k5, show ii v + 1 = ii (v + 1) from ii_add v 1]
          obtain ⟨f2, L2, B2, r2, -, r3, r4⟩ := Kc_fillDown_S (N := N) (L := L) (B := B) (k := k) (low := v + 1) hK1 (by omega) (by omega) hl1 hg (show gB G ≤ O + 2 by omega) (by omega)
          rw [wset_wset] at r2
          rw [r2, cv_S (by exact Nat.le_refl _) (by exact Nat.le_refl _), bd_S, hb4, bd_S]
          have hK2 : isK G (wset G σ (b + 6 + 2 * c) 325 f2) (O + 2) (b + 5 + 2 * c) (b + 6 + 2 * c) fi (ii v) f2 := by rw [k5] at hK; exact hK.ws
          have hl2 : lowR G (wset G σ (b + 6 + 2 * c) 325 f2) := wset_low hw.1 (by omega)
          obtain ⟨L3, B3, -, r5, r6⟩ := Kc_raiseTo_S (N := N) (L := L2) (B := B2) (k := k) hK2 (by omega) hl2 hg (show gB G ≤ O + 2 by omega) (by omega)
          rw [hK2.f, bd_S]
          -- the keys above the latest
          have up : ∀ d, d ≤ k - (v + 1) → ∀ i, i < 20 → s_bs f2 (20 * (k - d) + i) = dnN d (fun i => q.2 (16 + nN q + i)) i := by
            intro d
            induction d with
            | zero =>
              intro _ i hi
              rw [Nat.sub_zero, bs_sh]
              have e5 : ∀ z, z < 5 → f2 (5 * k + z) = s_wd q.2 (16 + nN q + 4 * z) := fun z hz => by
                rw [r3 _ (Or.inr (by omega)), ← hf1]
                unfold s_cp
                rw [if_pos (by omega), Nat.add_sub_cancel_left]
              rw [s_bs_congr (w := fun z => f2 (5 * k + z)) (w' := fun z => s_wd q.2 (16 + nN q + 4 * z)) (e5 _ (by omega)), bs_wd (fun z hz => hq.bb _ (by omega)) hi]
              rfl
            | succ d ih =>
              intro hd i hi
              have e6 := r4 (k - d) (by omega) (by omega)
              rw [show k - (d + 1) = k - d - 1 by omega, bs_sh, s_bs_congr (w := fun z => f2 (5 * (k - d - 1) + z)) (w' := dnW fun i => f2 (5 * (k - d) + i)) (e6 _ (by omega))]
              show s_dn (s_bs fun i => f2 (5 * (k - d) + i)) i = s_dn (dnN d fun i => q.2 (16 + nN q + i)) i
              refine s_dn_congr (fun z hz => ?_) i (by omega)
              rw [← bs_sh]
              exact ih (by omega) z hz
          have low : ∀ j, j ≤ v → ∀ i, i < 20 → s_bs f2 (20 * j + i) = s_bs f (20 * j + i) := by
            intro j hj i hi
            refine s_bs_congr ?_
            rw [r3 _ (Or.inl (by omega)), ← hf1]
            unfold s_cp
            rw [if_neg (by omega)]
          have cond : (∀ i, i < 5 → dnW (fun i => f2 (5 * (v + 1) + i)) i = f2 (5 * v + i)) ↔ ∀ i : Nat, i < 20 → dnN (k - v) (fun i => q.2 (16 + nN q + i)) i = K i := by
            rw [wd_eq (b := fun i => f2 (5 * v + i))]
            have e7 : ∀ i, i < 20 → s_bs (dnW fun i => f2 (5 * (v + 1) + i)) i = dnN (k - v) (fun i => q.2 (16 + nN q + i)) i := fun i hi => by
              show s_dn (s_bs fun i => f2 (5 * (v + 1) + i)) i = _
              rw [show k - v = (k - (v + 1)) + 1 by omega]
              show _ = s_dn (dnN (k - (v + 1)) fun i => q.2 (16 + nN q + i)) i
              refine s_dn_congr (fun z hz => ?_) i (by omega)
              rw [← bs_sh]
              have := up (k - (v + 1)) (Nat.le_refl _) z hz
              rw [show k - (k - (v + 1)) = v + 1 by omega] at this
              exact this
            have e8 : ∀ i, i < 20 → s_bs (fun i => f2 (5 * v + i)) i = K i := fun i hi => by
              rw [← bs_sh, low v (Nat.le_refl _) i hi, k6 v hv1 (Nat.le_refl _) i hi, Nat.sub_self]
              rfl
            exact ⟨fun hh i hi => by rw [← e7 i hi, hh i hi, e8 i hi], fun hh i hi => by rw [e7 i hi, hh i hi, e8 i hi]⟩
          have fw : frm σ w (wset G σ (b + 6 + 2 * c) 325 f2) w (TC O b c) := frm.set (Or.inr (Or.inr rfl))
          have ww : wf G (wset G σ (b + 6 + 2 * c) 325 f2) := hw.set k2
          have cw : (wset G σ (b + 6 + 2 * c) 325 f2).2.2 (b + 5 + 2 * c) = some (.inr (2, [.ref (b + 6 + 2 * c), .int fi, .int la])) := by
            show (ho_set σ (b + 6 + 2 * c) _).2.2 (b + 5 + 2 * c) = _
            rw [set_ne (by omega)]
            exact k1
          have hTs : ∀ a, O + 2 ≤ a → a < O + 7 → TC O b c a (w a) := fun a h1 h2 => Or.inl ⟨h1, h2⟩
          by_cases hall : ∀ i : Nat, i < 20 → dnN (k - v) (fun i => q.2 (16 + nN q + i)) i = K i
          · rw [if_pos hall] at et
            rw [r5 (cond.mpr hall), ck_S (by exact Nat.le_refl _) (by exact Nat.le_refl _), bd2_S, ho_bz_1, bd_S]
            have fk : frm σ w (kset (wset G σ (b + 6 + 2 * c) 325 f2) (b + 5 + 2 * c) (b + 6 + 2 * c) fi (ii k)) w (TC O b c) := fw.trans (frm.set (Or.inr (Or.inl rfl)))
            have fs := fk.sl (G := G) (L := L3) (B := B3) hTs
            have bs : bse G (sl G (kset (wset G σ (b + 6 + 2 * c) 325 f2) (b + 5 + 2 * c) (b + 6 + 2 * c) fi (ii k)) (O + 2) L3 B3) O C := hb0.sl (Nat.le_refl _) (ww.set cw) (by
              show (ho_set (ho_set σ _ _) _ _).2.2 (O + 1) = _
              rw [set_ne (by omega), set_ne (by omega)])
            refine ⟨_, by rw [et]; rfl, bs, ?_, fs.mono fun a _ ht => TC_TR hc8 ht, rfl, rfl⟩
            rw [et]
            refine h0.chain (la := ii k) (fi := fi) (f := f2) hw fs hc8 ?_ ?_ ⟨k4, rfl, fun j hj1 hj2 i hi => ?_⟩
            · rw [sl_out (Or.inr (by omega))]
              exact set_at
            · rw [sl_out (Or.inr (by omega))]
              show (ho_set (ho_set σ _ _) _ _).2.2 (b + 6 + 2 * c) = _
              rw [set_ne (by omega)]
              exact set_at
            · by_cases hjv : j ≤ v
              · rw [low j hjv i hi, k6 j hj1 hjv i hi, dnN_congr (fun z hz => (hall z hz).symm) _ i hi, dnN_add, show v - j + (k - v) = k - j by omega]
              · have := up (k - j) (by omega) i hi
                rw [show k - (k - j) = j by omega] at this
                exact this
          · rw [if_neg hall] at et
            rw [r6 (fun hh => hall (cond.mp hh)), ck_S (by exact Nat.le_refl _) (by exact Nat.le_refl _), bd2_S, ho_bz_0, bd_S]
            have fs := fw.sl (G := G) (L := L3) (B := B3) hTs
            have bs : bse G (sl G (wset G σ (b + 6 + 2 * c) 325 f2) (O + 2) L3 B3) O C := hb0.sl (Nat.le_refl _) ww (by
              show (ho_set σ _ _).2.2 (O + 1) = _
              rw [set_ne (by omega)])
            refine ⟨_, by rw [et]; rfl, bs, ?_, fs.mono fun a _ ht => TC_TR hc8 ht, rfl, rfl⟩
            rw [et]
            have := h0.chain (x := some (fi0, v, K)) (la := la) (fi := fi) (f := f2) hw fs hc8 (by rw [sl_out (Or.inr (by omega))]; exact cw) (by rw [sl_out (Or.inr (by omega))]; exact set_at) ⟨k4, k5, fun j hj1 hj2 i hi => (low j hj2 i hi).trans (k6 j hj1 hj2 i hi)⟩
            rw [kn_same ek] at this
            exact this
end RT
