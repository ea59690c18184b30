/-! a receiver takes a packet -/
section RH
variable {G : ho_G} {σ σ' : ho_H} {N : Nat} {w w' : Nat → Nat} {O b : Nat} {s : RS} {dr : Int32} {C : Int32 × Int32 × Int32 × Int32}
/-- one turn of releaseAll -/
theorem turn_S {t : Nat} (h : rcv G σ w O b s dr) (hb : bse G σ O C) (hs : rsV s) (ht : t < 16) (hg : gtab G) (hA : gA G 4 < gB G) (r1 : σ.1 + 1 ≤ gC G) (r2 : σ.2.1 + 300 ≤ gS G) (hN : 301 < N) : ((bst s.1 s.2.1 s.2.1.length).1 = none ∧ f_Rc_releaseAll_l2 G N b (σ, ii t) = some (.inr (.inr σ))) ∨ ∃ σ' w', f_Rc_releaseAll_l2 G N b (σ, ii t) = some (.inl (σ', ii (t + 1))) ∧ bse G σ' O C ∧ rcv G σ' w' O b (rel1 s) dr ∧ frm σ w σ' w' (TR O b) ∧ σ'.1 ≤ σ.1 + 1 ∧ σ'.2.1 ≤ σ.2.1 + 300 := by
  have hb0 := hb
  have h0 := h
  obtain ⟨hw, hO, hz, -, -⟩ := hb
  obtain ⟨⟨z1, z2⟩, -⟩ := h
  obtain ⟨fb, hfb⟩ := h0.f
  obtain ⟨fl, hfl⟩ := h0.2.2.2.1.f
  have hnx := nextTo_S (N := N) h0 hb0 hs hN
  unfold f_Rc_releaseAll_l2 f_Rc_releaseAll_j93_in2
  dsimp only
  rw [if_neg (by rw [show (16 : Int32) = ii 16 from rfl, ii_le (by decide) (by omega)]; omega), hfb, bd_S, hnx, bd_S]
  rcases rel1_cases hs with ⟨e0, e1, -⟩ | ⟨k, q, e0, e1, e2, e3⟩
  · rw [e0]
    exact Or.inl ⟨rfl, if_neg (fun hh => hh rfl)⟩
  · refine Or.inr ?_
    have hk : k < s.2.1.length := (List.getElem?_eq_some_iff.mp e1).1
    have hl16 := hs.2.2.1
    have hq : pkV q := (hs.2.1 k q e1).1
    have g1 := hq.g1
    have g2 := hq.g2
    have n32 := hq.n32
    have hln := hq.ln
    obtain ⟨σ5, p, y1, y2, y3, y4, y5, y6, y7⟩ := Al_remove_S (N := N) hw h0.2.2.2.1 (by omega) (by omega) e1
    have hp5 : pk G σ5 w O p q := y2.fr hw y5 (fun a ha ht => by rcases ht with ht | ht <;> omega)
    have rc5 : rcv G σ5 w O b (s.1, s.2.1.eraseIdx k, s.2.2) dr := h0.held hw y5 y4
    have bs5 : bse G σ5 O C := hb0.fr y5 y3 (fun a h1 h2 ht => by rcases ht with ht | ht <;> omega)
    have f5 : frm σ w σ5 w (TR O b) := y5.mono fun a _ ht => TL_TR (Or.inl rfl) ht
    obtain ⟨fp, hfp⟩ := hp5.f
    have hi := hp5.gi (N := N) bs5 (by omega)
    rw [hq.i] at hi
    rw [e0]
    dsimp only
    rw [if_pos (ne_neg1 (by omega)), h0.r3, bd_S, hfl, bd_S, y1, ck_S (by omega) (by omega), bd2_S, hfp, bd_S, bd_S, hi, bd_S, rc5.r2, bd_S, chainOf_S g1 (by omega), bd_S, rc5.kn (ch_lt g2), bd_S, number_S g1 (by omega), bd_S, rc5.r1, bd_S]
    obtain ⟨fi, la, f, k1, k2, k3⟩ := rc5.2.2.2.2.2.2 _ (ch_lt g2)
    have hK := rcv.isK bs5 z1 k1 k2
    obtain ⟨hw5, -, hz5, ⟨L, B, hσ5⟩, hck5⟩ := bs5
    have bs5 : bse G σ5 O C := ⟨hw5, hO, hz5, ⟨L, B, hσ5⟩, hck5⟩
    obtain ⟨m, hP⟩ := hp5.isP hO
    obtain ⟨L2, B2, s1, s2⟩ := Kc_sealPacket_S (N := N) (L := L) (B := B) (k := nu (gN q)) hK hP nu_le hq.n5 n32 (by omega) hw5.1 hg (show gB G ≤ O + 2 by omega) (by omega)
    rw [← hσ5] at s1
    rw [c_f k1, bd_S, s1, cv_S (by exact Nat.le_refl _) (by exact Nat.le_refl _), bd_S]
    have hc := Pk_hasCode_S (N := N) (L := L2) (B := B2) hP hq.n5 n32 (by omega) (by omega)
    -- the heap with the sealer's new block
    have f6 : frm σ w (sl G σ5 (O + 2) L2 B2) w (TR O b) := f5.sl (fun a h1 h2 => Or.inl ⟨h1, h2⟩)
    have bs6 : bse G (sl G σ5 (O + 2) L2 B2) O C := bs5.sl (Nat.le_refl _) hw5 rfl
    have f56 : frm σ5 w (sl G σ5 (O + 2) L2 B2) w (fun a _ => O + 2 ≤ a ∧ a < O + 7) := frm.refl.sl (fun a h1 h2 => ⟨h1, h2⟩)
    have rc6 : rcv G (sl G σ5 (O + 2) L2 B2) w O b (s.1, s.2.1.eraseIdx k, s.2.2) dr := rc5.fr hw5 f56 (fun a h1 h2 => by omega) (fun a o h1 _ => by omega)
    have hp6 : pk G (sl G σ5 (O + 2) L2 B2) w O p q := hp5.fr hw5 f56 (fun a h1 => by omega)
    have hr0 : ho_gR (sl G σ5 (O + 2) L2 B2) (O + 2) 1 0 = some (O + 2 + 1) := sl_r0
    have sz1 : (sl G σ5 (O + 2) L2 B2).1 = σ.1 := y6
    have sz2 : (sl G σ5 (O + 2) L2 B2).2.1 = σ.2.1 := y7
    generalize sl G σ5 (O + 2) L2 B2 = σ6 at *
    obtain ⟨fp6, hfp6⟩ := hp6.f
    rw [rc6.r1, bd_S, hr0, bd_S, hfp6, bd_S]
    -- the code
    have hcode : (∀ i, i < 10 → q.2 (6 + nN q + i) = s_bs (B2 1) i) ↔ codeOK s.1 q = true := by
      unfold codeOK
      rw [decide_eq_true_iff]
      cases ek : s.1 (ch (gN q)) with
      | none =>
        unfold due at e2
        rw [ek] at e2
        cases e2
      | some x =>
        obtain ⟨a, v, K⟩ := x
        have k3' : kr (s.1 (ch (gN q))) fi la f := k3
        rw [ek] at k3'
        obtain ⟨-, -, k6⟩ := k3'
        have hfi := (hs.2.1 k q e1).2 _ _ _ ek
        have hdv : nu (gN q) ≤ v := by
          unfold due at e2
          rw [ek] at e2
          exact of_decide_eq_true e2
        have e9 : ∀ i, i < 32 → s_bs (B2 1) i = s_cd (keyOf s.1 (gN q)) q.2 (6 + nN q) i := fun i hi => by
          rw [s2 i hi]
          refine s_cd_congr (fun z hz => ?_) (fun _ _ => rfl) i hi
          rw [← bs_sh, k6 _ hfi hdv z hz]
          unfold keyOf
          rw [ek]
        exact ⟨fun hh i hi => (hh i hi).trans (e9 i (by omega)), fun hh i hi => (hh i hi).trans (e9 i (by omega)).symm⟩
    rw [show ii t + 1 = ii (t + 1) from ii_add t 1, e3]
    unfold relQ
    by_cases hok : codeOK s.1 q = true
    · rw [if_pos hok, hc.1 (hcode.mpr hok), bd_S, if_neg (by decide)]
      obtain ⟨f6b, hf6b⟩ := rc6.f
      obtain ⟨σ7, w7, x1, x2, x3, x4, x5, x6⟩ := letGo_S (N := N) rc6 bs6 hs.1 hp6 hq hA (by omega) (by omega) hN
      rw [hf6b, bd_S, x1, cv_S x4.1 x4.2.1, bd_S]
      exact ⟨σ7, w7, rfl, x2, x3, f6.trans x4, by omega, by omega⟩
    · rw [if_neg hok, hc.2 (fun hh => hok (hcode.mp hh)), bd_S, if_pos rfl]
      obtain ⟨cf, c1, c2⟩ := rc6.2.2.2.2.2.1
      rw [rc6.r5, bd_S, show (6 : Int32) = ii 6 from rfl, c_ld c1 (by decide) (by decide), bd_S, c_st c1 (by decide) (by decide), bd_S]
      have f7 : frm σ6 w (ho_set σ6 (b + 4) (.inl (gc G 0, 7, .inl (upd cf 6 (cf 6 + 1))))) w (fun a _ => a = b + 4) := frm.set rfl
      have w7 : wf G (ho_set σ6 (b + 4) (.inl (gc G 0, 7, .inl (upd cf 6 (cf 6 + 1))))) := bs6.1.set c1
      refine ⟨_, w, rfl, bs6.fr f7 w7 (fun a h1 h2 => by omega), rc6.cnts bs6.1 f7 set_at (fun j hj => ?_), f6.trans (f7.mono fun a _ ht => Or.inr (Or.inl (by omega))), by show σ6.1 ≤ _; omega, by show σ6.2.1 ≤ _; omega⟩
      unfold upd
      rw [c2 6 (by decide)]
      by_cases hj6 : j = 6
      · rw [if_pos hj6, if_pos hj6]
      · rw [if_neg hj6, if_neg hj6]
        exact c2 j hj
theorem relN_s : ∀ n (s : RS), relN (n + 1) s = rel1 (relN n s) := by
  intro n
  induction n with
  | zero => exact fun s => rfl
  | succ n ih => exact fun s => ih (rel1 s)
theorem relN_p : ∀ m n (s : RS), relN (n + m) s = relN m (relN n s) := by
  intro m n
  induction n with
  | zero => intro s; rw [Nat.zero_add]; rfl
  | succ n ih => intro s; rw [Nat.succ_add]; exact ih (rel1 s)
theorem lim300 {a b c t : Nat} (h1 : a ≤ b + 300) (h2 : b ≤ c + 300 * t) : a ≤ c + 300 * (t + 1) := by
  rw [Nat.mul_succ, ← Nat.add_assoc]
  exact Nat.le_trans h1 (Nat.add_le_add_right h2 300)
theorem relAll_S (h : rcv G σ w O b s dr) (hb : bse G σ O C) (hs : rsV s) (hg : gtab G) (hA : gA G 4 < gB G) (r1 : σ.1 + 16 ≤ gC G) (r2 : σ.2.1 + 4800 ≤ gS G) (hN : 301 < N) : ∃ σ' w', f_Rc_releaseAll G N σ b = some σ' ∧ bse G σ' O C ∧ rcv G σ' w' O b (relN 16 s) dr ∧ frm σ w σ' w' (TR O b) ∧ σ'.1 ≤ σ.1 + 16 ∧ σ'.2.1 ≤ σ.2.1 + 4800 := by
  have key : ∃ e, ho_it (f_Rc_releaseAll_l2 G N b) N (σ, 0) = some e ∧ ∃ σ' w', (e = .inl σ' ∨ e = .inr σ') ∧ bse G σ' O C ∧ rcv G σ' w' O b (relN 16 s) dr ∧ frm σ w σ' w' (TR O b) ∧ σ'.1 ≤ σ.1 + 16 ∧ σ'.2.1 ≤ σ.2.1 + 4800 := by
    refine it_ex2 16 (fun t st => ∃ σ' w', st = (σ', ii t) ∧ bse G σ' O C ∧ rcv G σ' w' O b (relN t s) dr ∧ frm σ w σ' w' (TR O b) ∧ σ'.1 ≤ σ.1 + t ∧ σ'.2.1 ≤ σ.2.1 + 300 * t) _ ?_ ?_ (by omega) ⟨σ, w, rfl, hb, h, frm.refl, by omega, by omega⟩
    · rintro t st ht ⟨σ1, w1, rfl, a1, a2, a3, a4, a5⟩
      rcases turn_S (N := N) a2 a1 (relN_V t s hs).1 ht hg hA (by omega) (by omega) hN with ⟨b1, b2⟩ | ⟨σ2, w2, b1, b2, b3, b4, b5, b6⟩
      · refine Or.inr ⟨_, b2, σ1, w1, Or.inr rfl, a1, ?_, a3, by omega, by omega⟩
        have e : relN 16 s = relN t s := by
          rw [show 16 = t + (16 - t) by omega, relN_p]
          rcases rel1_cases (relN_V t s hs).1 with ⟨-, -, c3⟩ | ⟨k, q, c1, -⟩
          · exact relN_nd c3 _
          · rw [b1] at c1
            cases c1
        rw [e]
        exact a2
      · exact Or.inl ⟨_, b1, σ2, w2, rfl, b2, by rw [relN_s]; exact b3, a3.trans b4, by omega, lim300 b6 a5⟩
    · rintro st ⟨σ1, w1, rfl, a1, a2, a3, a4, a5⟩
      refine ⟨.inl σ1, ?_, σ1, w1, Or.inl rfl, a1, a2, a3, by omega, by omega⟩
      simp only [f_Rc_releaseAll_l2]
      rw [if_pos (by rw [show (16 : Int32) = ii 16 from rfl, ii_le (by decide) (by decide)]; decide)]
  obtain ⟨e, k1, σ', w', k2, k3⟩ := key
  refine ⟨σ', w', ?_, k3⟩
  unfold f_Rc_releaseAll
  rw [k1, bd_S]
  rcases k2 with rfl | rfl <;> rfl
/-- is there a twin among the held ones -/
theorem holds_S {p : Nat} {q : PQ} (h : rcv G σ w O b s dr) (hb : bse G σ O C) (hs : rsV s) (hp : pk G σ w O p q) (hq : pkV q) (hN : 301 < N) : f_Rc_holdsTwinOf G N σ b p = some (if twins s.2.1 q = true then 1 else 0) := by
  have hl : s.2.1.length ≤ 16 := hs.2.2.1
  have hO := hb.2.1
  obtain ⟨fl, hfl⟩ := h.2.2.2.1.f
  obtain ⟨m, hP⟩ := hp.isP hO
  have hqn := hq.n32
  have hql := hq.ln
  -- one turn
  have one : ∀ k x, s.2.1[k]? = some x → f_Rc_holdsTwinOf_l2 G N σ b p (ii k) = if (s_wd x.2 0 = s_wd q.2 0 ∧ ∀ i : Nat, i < 10 → x.2 (6 + nN x + i) = q.2 (6 + nN q + i)) then some (.inr (.inr 1)) else some (.inl (ii (k + 1))) := by
    intro k x hx
    have hk : k < s.2.1.length := (List.getElem?_eq_some_iff.mp hx).1
    have hv := (hs.2.1 k x hx).1
    obtain ⟨px, g1, g2⟩ := Al_get_S (N := N) h.2.2.2.1 hx
    obtain ⟨fp, hfp⟩ := g2.f
    obtain ⟨mx, hX⟩ := g2.isP hO
    obtain ⟨-, -, -, ⟨L, B, hσ⟩, -⟩ := hb
    have ht := Pk_isTwinOf_S (N := N) (L := L) (B := B) hX hP hv.n5 hq.n5 hv.n32 hqn (by have := hv.ln; omega) (by omega) (by omega)
    rw [← hσ] at ht
    simp only [f_Rc_holdsTwinOf_l2]
    rw [h.r3, bd_S, hfl, bd_S, Al_size_S h.2.2.2.1, bd_S, if_neg (by rw [ii_le (by omega) (by omega)]; omega), bd_S, hfl, bd_S, g1, bd_S, hfp, bd_S, bd_S]
    by_cases hc : s_wd x.2 0 = s_wd q.2 0 ∧ ∀ i : Nat, i < 10 → x.2 (6 + nN x + i) = q.2 (6 + nN q + i)
    · rw [ht.1 hc, bd_S, if_neg (by decide), if_pos hc]
    · rw [ht.2 hc, bd_S, if_pos rfl, if_neg hc, show ii k + 1 = ii (k + 1) from ii_add k 1]
  unfold f_Rc_holdsTwinOf
  by_cases hx : twins s.2.1 q = true
  · rw [if_pos hx]
    have e : ho_it (f_Rc_holdsTwinOf_l2 G N σ b p) N 0 = some (.inr 1) := by
      refine it_bad (n := s.2.1.length) (p := fun k => ∀ x, s.2.1[k]? = some x → ¬ (s_wd x.2 0 = s_wd q.2 0 ∧ ∀ i : Nat, i < 10 → x.2 (6 + nN x + i) = q.2 (6 + nN q + i))) (fun k hk hp => ?_) (fun k hk hp => ?_) (by omega) ?_
      · have hx := List.getElem?_eq_getElem hk
        rw [one k _ hx, if_neg (hp _ hx)]
      · have hx := List.getElem?_eq_getElem hk
        rw [one k _ hx, if_pos]
        apply Classical.byContradiction
        intro hn
        refine hp fun x hx' => ?_
        rw [hx] at hx'
        rw [← Option.some.inj hx']
        exact hn
      · unfold twins at hx
        rw [List.any_eq_true] at hx
        obtain ⟨x, hx1, hx2⟩ := hx
        obtain ⟨k, hk, e⟩ := List.getElem_of_mem hx1
        refine ⟨k, hk, fun hp => hp x ?_ (of_decide_eq_true hx2)⟩
        rw [List.getElem?_eq_getElem hk, e]
    rw [e, bd_S]
    rfl
  · rw [if_neg hx]
    have e : ho_it (f_Rc_holdsTwinOf_l2 G N σ b p) N 0 = some (.inl ()) := by
      refine it_all (n := s.2.1.length) (fun k hk => ?_) ?_ (by omega)
      · have hx' := List.getElem?_eq_getElem hk
        rw [one k _ hx', if_neg]
        intro hc
        refine hx ?_
        unfold twins
        rw [List.any_eq_true]
        exact ⟨_, List.getElem_mem hk, decide_eq_true hc⟩
      · simp only [f_Rc_holdsTwinOf_l2]
        rw [h.r3, bd_S, hfl, bd_S, Al_size_S h.2.2.2.1, bd_S, if_pos (by rw [ii_le (by omega) (by omega)]; omega)]
    rw [e, bd_S]
    rfl
end RH
