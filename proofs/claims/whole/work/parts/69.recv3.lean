/-! a receiver lets packets go -/
theorem it_ex2 {S E : Type} {f : S → Option (S ⊕ E)} {N : Nat} {s0 : S} (n : Nat) (P : Nat → S → Prop) (Q : E → Prop) (h : ∀ k s, k < n → P k s → (∃ s', f s = some (.inl s') ∧ P (k + 1) s') ∨ (∃ e, f s = some (.inr e) ∧ Q e)) (he : ∀ s, P n s → ∃ e, f s = some (.inr e) ∧ Q e) (hN : n < N) (h0 : P 0 s0) : ∃ e, ho_it f N s0 = some e ∧ Q e := by
  have key : ∀ (d m N : Nat) (s : S), m + d = n → d < N → P m s → ∃ e, ho_it f N s = some e ∧ Q e := by
    intro d
    induction d with
    | zero =>
      intro m N s hm hN hP
      have : m = n := by omega
      subst this
      obtain ⟨e, h1, h2⟩ := he s hP
      cases N with
      | zero => omega
      | succ N => exact ⟨e, by simp only [ho_it, h1], h2⟩
    | succ d ih =>
      intro m N s hm hN hP
      cases N with
      | zero => omega
      | succ N =>
        rcases h m s (by omega) hP with ⟨s', h1, h2⟩ | ⟨e, h1, h2⟩
        · obtain ⟨e, g1, g2⟩ := ih (m + 1) N s' (by omega) (by omega) h2
          exact ⟨e, by simp only [ho_it, h1]; exact g1, g2⟩
        · exact ⟨e, by simp only [ho_it, h1], h2⟩
  exact key n 0 N s0 (by omega) hN h0
section RG
variable {G : ho_G} {σ σ' : ho_H} {N : Nat} {w w' : Nat → Nat} {O b : Nat} {s : RS} {dr : Int32} {C : Int32 × Int32 × Int32 × Int32}
/-- a new held list -/
theorem rcv.held {hd : List PQ} (h : rcv G σ w O b s dr) (hw : wf G σ) (hf : frm σ w σ' w' (TL O (b + 2))) (hl : pls G σ' w' O (b + 2) hd) : rcv G σ' w' O b (s.1, hd, s.2.2) dr := by
  obtain ⟨⟨z1, z2⟩, a1, ⟨kf, a2, a3⟩, a4, a5, ⟨cf, a6, a7⟩, a8⟩ := h
  have hT : ∀ a, O + 227 ≤ a → ∀ o, o ≠ b + 2 → ¬ TL O (b + 2) a o := fun a ha o ho ht => by rcases ht with ht | ht <;> omega
  refine ⟨⟨z1, z2⟩, hf.at hw a1 ?_, ⟨kf, hf.at hw a2 ?_, a3⟩, hl, a5.fr hw hf ?_ (fun a ha => hT a ha 0 (by omega)) (fun a ha => hT a ha _ (by omega)), ⟨cf, hf.at hw a6 ?_, a7⟩, fun c' hc' => ?_⟩
  · intro ht; rcases ht with ht | ht <;> omega
  · intro ht; rcases ht with ht | ht <;> omega
  · intro ht; rcases ht with ht | ht <;> omega
  · intro ht; rcases ht with ht | ht <;> omega
  · obtain ⟨fi', la', f', y1, y2, y3⟩ := a8 c' hc'
    refine ⟨fi', la', f', hf.at hw y1 ?_, hf.at hw y2 ?_, y3⟩
    · intro ht; rcases ht with ht | ht <;> omega
    · intro ht; rcases ht with ht | ht <;> omega
def TB (O b : Nat) : Nat → Nat → Prop := fun a o => a = b ∨ a = b + 3 ∨ (O + 227 ≤ a ∧ o = b + 3)
/-- new released ones -/
theorem rcv.outs {os : List PQ} {dr' : Int32} (h : rcv G σ w O b s dr) (hw : wf G σ) (hf : frm σ w σ' w' (TB O b)) (hl : pls G σ' w' O (b + 3) (os.take 100)) (hc : σ'.2.2 b = some (.inr (4, [.ref (O + 1), .ref (O + 2), .ref (b + 1), .ref (b + 2), .ref (b + 3), .ref (b + 4), .int (ii os.length), .int dr']))) : rcv G σ' w' O b (s.1, s.2.1, os, s.2.2.2) dr' := by
  obtain ⟨⟨z1, z2⟩, a1, ⟨kf, a2, a3⟩, a4, a5, ⟨cf, a6, a7⟩, a8⟩ := h
  have hT : ∀ a, O + 227 ≤ a → ∀ o, o ≠ b + 3 → ¬ TB O b a o := fun a ha o ho ht => by rcases ht with ht | ht | ht <;> omega
  refine ⟨⟨z1, z2⟩, hc, ⟨kf, hf.at hw a2 ?_, a3⟩, a4.fr hw hf ?_ (fun a ha => hT a ha 0 (by omega)) (fun a ha => hT a ha _ (by omega)), hl, ⟨cf, hf.at hw a6 ?_, a7⟩, fun c' hc' => ?_⟩
  · intro ht; rcases ht with ht | ht | ht <;> omega
  · intro ht; rcases ht with ht | ht | ht <;> omega
  · intro ht; rcases ht with ht | ht | ht <;> omega
  · obtain ⟨fi', la', f', y1, y2, y3⟩ := a8 c' hc'
    refine ⟨fi', la', f', hf.at hw y1 ?_, hf.at hw y2 ?_, y3⟩
    · intro ht; rcases ht with ht | ht | ht <;> omega
    · intro ht; rcases ht with ht | ht | ht <;> omega
/-- new counts -/
theorem rcv.cnts {cn f : Nat → Int32} (h : rcv G σ w O b s dr) (hw : wf G σ) (hf : frm σ w σ' w' (fun a _ => a = b + 4)) (hc : σ'.2.2 (b + 4) = some (.inl (gc G 0, 7, .inl f))) (hcn : ∀ j, j < 7 → f j = cn j) : rcv G σ' w' O b (s.1, s.2.1, s.2.2.1, cn) dr := by
  obtain ⟨⟨z1, z2⟩, a1, ⟨kf, a2, a3⟩, a4, a5, -, a8⟩ := h
  refine ⟨⟨z1, z2⟩, hf.at hw a1 (by omega), ⟨kf, hf.at hw a2 (by omega), a3⟩, a4.fr hw hf (by omega) (fun a ha => by omega) (fun a ha => by omega), a5.fr hw hf (by omega) (fun a ha => by omega) (fun a ha => by omega), ⟨f, hc, hcn⟩, fun c' hc' => ?_⟩
  obtain ⟨fi', la', f', y1, y2, y3⟩ := a8 c' hc'
  exact ⟨fi', la', f', hf.at hw y1 (by omega), hf.at hw y2 (by omega), y3⟩
/-- only the sealer, or cells of others -/
theorem rcv.fr {T : Nat → Nat → Prop} (h : rcv G σ w O b s dr) (hw : wf G σ) (hf : frm σ w σ' w' T) (h1 : ∀ a, b ≤ a → a < b + 21 → ¬ T a (w a)) (h2 : ∀ a o, O + 227 ≤ a → (o = 0 ∨ o = b + 2 ∨ o = b + 3) → ¬ T a o) : rcv G σ' w' O b s dr := by
  obtain ⟨⟨z1, z2⟩, a1, ⟨kf, a2, a3⟩, a4, a5, ⟨cf, a6, a7⟩, a8⟩ := h
  refine ⟨⟨z1, z2⟩, hf.at hw a1 (h1 _ (by omega) (by omega)), ⟨kf, hf.at hw a2 (h1 _ (by omega) (by omega)), a3⟩, a4.fr hw hf (h1 _ (by omega) (by omega)) (fun a ha => h2 a 0 ha (Or.inl rfl)) (fun a ha => h2 a _ ha (Or.inr (Or.inl rfl))), a5.fr hw hf (h1 _ (by omega) (by omega)) (fun a ha => h2 a 0 ha (Or.inl rfl)) (fun a ha => h2 a _ ha (Or.inr (Or.inr rfl))), ⟨cf, hf.at hw a6 (h1 _ (by omega) (by omega)), a7⟩, fun c' hc' => ?_⟩
  obtain ⟨fi', la', f', y1, y2, y3⟩ := a8 c' hc'
  exact ⟨fi', la', f', hf.at hw y1 (h1 _ (by omega) (by omega)), hf.at hw y2 (h1 _ (by omega) (by omega)), y3⟩
theorem TL_TR {l a o : Nat} (hl : l = b + 2 ∨ l = b + 3) (h : TL O l a o) : TR O b a o := by
  rcases h with h | h
  · exact Or.inr (Or.inl (by omega))
  · exact Or.inr (Or.inr ⟨h.1, by omega⟩)
theorem TB_TR {a o : Nat} (h : TB O b a o) : TR O b a o := by
  rcases h with h | h | h
  · exact Or.inr (Or.inl (by omega))
  · exact Or.inr (Or.inl (by omega))
  · exact Or.inr (Or.inr ⟨h.1, Or.inr h.2⟩)
theorem letGo2_S {p : Nat} {q : PQ} (h : rcv G σ w O b s dr) (hb : bse G σ O C) (hs : knV s.1) (hp : pk G σ w O p q) (hq : pkV q) (hN : 301 < N) : ∃ σ', f_Rc_letGo_j31 G N σ b p = some σ' ∧ bse G σ' O C ∧ rcv G σ' w O b (learn s.1 q, s.2) dr ∧ frm σ w σ' w (TR O b) ∧ σ'.1 = σ.1 ∧ σ'.2.1 = σ.2.1 := by
  have hb0 := hb
  have h0 := h
  obtain ⟨hw, hO, hz, ⟨L, B, hσ⟩, hck⟩ := hb
  obtain ⟨⟨z1, z2⟩, -⟩ := h
  have g1 := hq.g1
  have g2 := hq.g2
  have n32 := hq.n32
  have hln := hq.ln
  have k1' := hq.2.2.1
  obtain ⟨fp, hfp⟩ := hp.f
  have hi := hp.gi (N := N) hb0 (by omega)
  rw [hq.i] at hi
  have hkd := hp.kd (N := N) hb0 (by omega)
  rw [hq.k4] at hkd
  have stay : learn s.1 q = s.1 → ∃ σ', some σ = some σ' ∧ bse G σ' O C ∧ rcv G σ' w O b (learn s.1 q, s.2) dr ∧ frm σ w σ' w (TR O b) ∧ σ'.1 = σ.1 ∧ σ'.2.1 = σ.2.1 := fun e => ⟨σ, rfl, hb0, by rw [e]; exact h0, frm.refl, rfl, rfl⟩
  unfold f_Rc_letGo_j31 f_Rc_letGo_j82
  rw [hfp, bd_S, hi, bd_S, chainOf_S g1 (by omega), bd_S, bd_S, hkd, bd_S, show ii (ch (gN q)) + 1 = ii (ch (gN q) + 1) from ii_add _ 1]
  by_cases hk : kN q = 1
  · rw [if_neg (by rw [hk]; decide)]
    have hc8 : ch (gN q) < 8 := ch_lt g2
    by_cases h8 : ch (gN q) + 1 < 8
    · rw [if_neg (by rw [show (8 : Int32) = ii 8 from rfl, ii_le (by decide) (by omega)]; omega), h0.r2, bd_S, h0.kn h8, bd_S]
      obtain ⟨fi, la, f, k1, k2, k3⟩ := h0.2.2.2.2.2.2 _ h8
      have hK := rcv.isK hb0 z1 k1 k2
      have e1 : f_Kc_isKnown G N σ (b + 5 + 2 * (ch (gN q) + 1)) = some (if la = -1 then 0 else 1) := by
        have := Kc_isKnown_S (N := N) (L := L) (B := B) hK
        rw [← hσ] at this
        exact this
      rw [c_f k1, bd_S, e1, bd_S]
      cases ek : s.1 (ch (gN q) + 1) with
      | some x =>
        obtain ⟨fi0, v, K⟩ := x
        rw [ek] at k3
        obtain ⟨-, k5, -⟩ := k3
        have := hs _ _ _ _ ek
        have hla : (if la = -1 then (0 : Int32) else 1) = 1 := by rw [k5, if_neg (ne_neg1 (by omega))]
        rw [hla, if_pos (by decide)]
        refine stay ?_
        unfold learn
        rw [if_neg]
        rintro ⟨-, -, hh⟩
        rw [ek] at hh
        cases hh
      | none =>
        rw [ek] at k3
        have k4 : la = -1 := k3
        rw [k4, if_pos rfl, if_neg (by decide), bd_S, h0.kn h8, bd_S]
        obtain ⟨m', hp1, hp2, -, -, hp5, hp6⟩ := hp
        have hne1 : m' ≠ b + 6 + 2 * (ch (gN q) + 1) := by omega
        have r1 := Kc_learnRoot_S (N := N) (L := L) (B := B) (fr := 6) hK (Or.inr (show O + 2 + 5 ≤ m' by omega)) hne1 (c_r hp2) (by omega) (by decide) (by omega)
        rw [← hσ] at r1
        rw [c_R hp1 rfl, bd_S, c_f k1, bd_S, show (6 : Int32) = ii 6 from rfl, r1, cv_S (by exact Nat.le_refl _) (by exact Nat.le_refl _), bd_S]
        generalize hc : ch (gN q) + 1 = c at *
        have fk : frm σ w (kset (wset G σ (b + 6 + 2 * c) 325 (s_cp f (fun i => s_wd q.2 (6 + 4 * i)) 0 5)) (b + 5 + 2 * c) (b + 6 + 2 * c) 0 0) w (TC O b c) := (frm.set (Or.inr (Or.inr rfl))).trans (frm.set (Or.inr (Or.inl rfl)))
        have fs := fk.sl (G := G) (L := L) (B := B) (fun a h1 h2 => Or.inl ⟨h1, h2⟩)
        have ww : wf G (kset (wset G σ (b + 6 + 2 * c) 325 (s_cp f (fun i => s_wd q.2 (6 + 4 * i)) 0 5)) (b + 5 + 2 * c) (b + 6 + 2 * c) 0 0) := (hw.set k2).set (by rw [set_ne (by omega)]; exact k1)
        have bs : bse G (sl G (kset (wset G σ (b + 6 + 2 * c) 325 (s_cp f (fun i => s_wd q.2 (6 + 4 * i)) 0 5)) (b + 5 + 2 * c) (b + 6 + 2 * c) 0 0) (O + 2) L B) O C := hb0.sl (Nat.le_refl _) ww (by
          show (ho_set (ho_set σ _ _) _ _).2.2 (O + 1) = _
          rw [set_ne (by omega), set_ne (by omega)])
        refine ⟨_, rfl, bs, ?_, fs.mono fun a _ ht => TC_TR h8 ht, rfl, rfl⟩
        have el : learn s.1 q = fun c' => if c' = c then some (0, 0, fun i => q.2 (6 + i)) else s.1 c' := by
          unfold learn
          rw [hc, if_pos ⟨hk, h8, by rw [ek]; rfl⟩]
        rw [el]
        refine h0.chain (fi := 0) (la := 0) (f := s_cp f (fun i => s_wd q.2 (6 + 4 * i)) 0 5) hw fs h8 ?_ ?_ ⟨rfl, rfl, fun j hj1 hj2 i hi => ?_⟩
        · rw [sl_out (Or.inr (by omega))]
          exact set_at
        · rw [sl_out (Or.inr (by omega))]
          show (ho_set (ho_set σ _ _) _ _).2.2 (b + 6 + 2 * c) = _
          rw [set_ne (by omega)]
          exact set_at
        · have hj : j = 0 := by omega
          subst hj
          rw [bs_sh, s_bs_congr (w' := fun z => s_wd q.2 (6 + 4 * z)) (by
            show s_cp f (fun i => s_wd q.2 (6 + 4 * i)) 0 5 (5 * 0 + i / 4) = s_wd q.2 (6 + 4 * (i / 4))
            unfold s_cp
            rw [if_pos (by omega), show 5 * 0 + i / 4 - 0 = i / 4 by omega]), bs_wd (fun z hz => hq.bb _ (by omega)) hi]
          rfl
    · rw [if_pos (by rw [show (8 : Int32) = ii 8 from rfl, ii_le (by decide) (by omega)]; omega)]
      refine stay ?_
      unfold learn
      rw [if_neg]
      rintro ⟨-, hh, -⟩
      exact h8 hh
  · rw [if_pos (by rw [show (1 : Int32) = ii 1 from rfl, ii_inj (by omega) (by decide)]; exact hk)]
    refine stay ?_
    unfold learn
    rw [if_neg]
    rintro ⟨hh, -⟩
    exact hk hh
theorem letGo_S {p : Nat} {q : PQ} (h : rcv G σ w O b s dr) (hb : bse G σ O C) (hs : knV s.1) (hp : pk G σ w O p q) (hq : pkV q) (hA : gA G 4 < gB G) (r1 : σ.1 + 1 ≤ gC G) (r2 : σ.2.1 + 300 ≤ gS G) (hN : 301 < N) : ∃ σ' w', f_Rc_letGo G N σ b p = some σ' ∧ bse G σ' O C ∧ rcv G σ' w' O b (learn s.1 q, s.2.1, s.2.2.1 ++ [q], s.2.2.2) dr ∧ frm σ w σ' w' (TR O b) ∧ σ'.1 ≤ σ.1 + 1 ∧ σ'.2.1 ≤ σ.2.1 + 300 := by
  have hb0 := hb
  have h0 := h
  obtain ⟨hw, hO, hz, ⟨L, B, hσ⟩, hck⟩ := hb
  obtain ⟨⟨z1, z2⟩, ob, -⟩ := h
  have a1 : ho_p σ b 4 6 (.int (ii s.2.2.1.length + 1)) = some (ho_set σ b (.inr (4, [.ref (O + 1), .ref (O + 2), .ref (b + 1), .ref (b + 2), .ref (b + 3), .ref (b + 4), .int (ii (s.2.2.1.length + 1)), .int dr]))) := by
    rw [c_p ob (show 6 < 8 by decide), show ii s.2.2.1.length + 1 = ii (s.2.2.1.length + 1) from ii_add _ 1]
    rfl
  have b1 : (ho_set σ b (.inr (4, [.ref (O + 1), .ref (O + 2), .ref (b + 1), .ref (b + 2), .ref (b + 3), .ref (b + 4), .int (ii (s.2.2.1.length + 1)), .int dr]))).2.2 b = some (.inr (4, [.ref (O + 1), .ref (O + 2), .ref (b + 1), .ref (b + 2), .ref (b + 3), .ref (b + 4), .int (ii (s.2.2.1.length + 1)), .int dr])) := set_at
  have w1 : wf G (ho_set σ b (.inr (4, [.ref (O + 1), .ref (O + 2), .ref (b + 1), .ref (b + 2), .ref (b + 3), .ref (b + 4), .int (ii (s.2.2.1.length + 1)), .int dr]))) := hw.set ob
  have f1 : frm σ w (ho_set σ b (.inr (4, [.ref (O + 1), .ref (O + 2), .ref (b + 1), .ref (b + 2), .ref (b + 3), .ref (b + 4), .int (ii (s.2.2.1.length + 1)), .int dr]))) w (fun a _ => a = b) := frm.set rfl
  unfold f_Rc_letGo
  rw [h0.i6, bd_S, a1, bd_S]
  generalize hσ1 : ho_set σ b (.inr (4, [.ref (O + 1), .ref (O + 2), .ref (b + 1), .ref (b + 2), .ref (b + 3), .ref (b + 4), .int (ii (s.2.2.1.length + 1)), .int dr])) = σ1 at b1 w1 f1 ⊢
  have s1 : σ1.1 = σ.1 := by rw [← hσ1]; rfl
  have s2 : σ1.2.1 = σ.2.1 := by rw [← hσ1]; rfl
  have p1 : pls G σ1 w O (b + 3) (s.2.2.1.take 100) := h0.2.2.2.2.1.fr hw f1 (by omega) (fun a ha => by omega) (fun a ha => by omega)
  have q1 : pk G σ1 w O p q := hp.fr hw f1 (fun a ha => by omega)
  obtain ⟨fl, hfl⟩ := p1.f
  have bs1 : bse G σ1 O C := hb0.fr f1 w1 (fun a h1 h2 => by omega)
  have ln1 : (s.2.2.1 ++ [q]).length = s.2.2.1.length + 1 := by simp
  rw [c_R b1 rfl, bd_S, hfl, bd_S, Al_size_S p1, bd_S]
  have tl : (s.2.2.1.take 100).length = min 100 s.2.2.1.length := List.length_take
  by_cases h100 : 100 ≤ s.2.2.1.length
  · rw [if_pos (by rw [show (100 : Int32) = ii 100 from rfl, ii_le (by decide) (by omega)]; omega)]
    have rc1 : rcv G σ1 w O b (s.1, s.2.1, s.2.2.1 ++ [q], s.2.2.2) dr := h0.outs hw (f1.mono fun a _ ht => Or.inl ht) (by rw [List.take_append_of_le_length h100]; exact p1) (by rw [ln1]; exact b1)
    obtain ⟨σ', e1, e2, e3, e4, e5, e6⟩ := letGo2_S (N := N) rc1 bs1 hs q1 hq hN
    exact ⟨σ', w, e1, e2, e3, (f1.mono fun a _ ht => Or.inr (Or.inl (by omega))).trans e4, by omega, by omega⟩
  · rw [if_neg (by rw [show (100 : Int32) = ii 100 from rfl, ii_le (by decide) (by omega)]; omega), bd_S, hfl, bd_S]
    obtain ⟨σ2, w2, e1, e2, e3, e4, e5, e6⟩ := Al_add_S (N := N) (p := p) (q := q) w1 p1 q1 (show b + 3 < O + 227 by omega) (by omega) hO (by omega) (by omega) hA (by omega) (by omega)
    rw [e1, ck_S e4.1 e4.2.1, bd2_S]
    have f2 : frm σ w σ2 w2 (TB O b) := (f1.mono fun a _ ht => Or.inl ht).trans (e4.mono fun a _ ht => Or.inr ht)
    have tk : (s.2.2.1 ++ [q]).take 100 = s.2.2.1.take 100 ++ [q] := by
      rw [List.take_of_length_le (by simp; omega), List.take_of_length_le (by omega)]
    have rc2 : rcv G σ2 w2 O b (s.1, s.2.1, s.2.2.1 ++ [q], s.2.2.2) dr := h0.outs hw f2 (by rw [tk]; exact e3) (by rw [ln1]; exact e4.at w1 b1 (fun ht => by rcases ht with ht | ht <;> omega))
    have bs2 : bse G σ2 O C := bs1.fr e4 e2 (fun a h1 h2 ht => by rcases ht with ht | ht <;> omega)
    obtain ⟨σ', g1, g2, g3, g4, g5, g6⟩ := letGo2_S (N := N) rc2 bs2 hs (q1.fr w1 e4 (fun a ha ht => by rcases ht with ht | ht <;> omega)) hq hN
    exact ⟨σ', w2, g1, g2, g3, (f2.mono fun a _ ht => TB_TR ht).trans g4, by omega, by omega⟩
end RG
