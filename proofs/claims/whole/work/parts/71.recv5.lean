/-! a receiver: take, beginAnew, latestInterval -/
section RJ
variable {G : ho_G} {σ σ' : ho_H} {N : Nat} {w w' : Nat → Nat} {O b : Nat} {s : RS} {dr : Int32} {C : Int32 × Int32 × Int32 × Int32}
theorem late_S {g : Int32} (hb : bse G σ O C) : f_Ck_canHaveShown G N σ (O + 1) g dr = some (if late C dr g = true then 1 else 0) := by
  obtain ⟨-, -, -, -, hck⟩ := hb
  unfold f_Ck_canHaveShown f_Ck_canHaveShown_j32 late
  rw [c_I hck rfl, bd_S, c_I hck rfl, bd_S, c_I hck rfl, bd_S, c_I hck rfl, bd_S]
  by_cases h : (C.2.2.2 + dr) + C.2.2.1 < ((g + C.1) - 1) * C.2.1
  · rw [if_pos h, if_neg (fun hh => (of_decide_eq_true hh) h)]
    rfl
  · rw [if_neg h, if_pos (decide_eq_true h)]
    rfl
theorem take_S {p lag : Nat} {q : PQ} (h : rcv G σ w O b s dr) (hb : bse G σ O C) (hs : rsV s) (hp : pk G σ w O p q) (hq : pkB q) (hC : C.1 = ii lag) (hlag : lag ≤ 8) (hg : gtab G) (hA : gA G 4 < gB G) (r1 : σ.1 + 17 ≤ gC G) (r2 : σ.2.1 + 5100 ≤ gS G) (hN : 301 < N) : ∃ σ' w', f_Rc_take G N σ b p = some (σ', ii (arr lag C dr s q).1) ∧ bse G σ' O C ∧ rcv G σ' w' O b (arr lag C dr s q).2 dr ∧ frm σ w σ' w' (TR O b) ∧ σ'.1 ≤ σ.1 + 17 ∧ σ'.2.1 ≤ σ.2.1 + 5100 := by
  have hb0 := hb
  have h0 := h
  obtain ⟨hw, hO, hz, ⟨L, B, hσ⟩, hck⟩ := hb
  obtain ⟨⟨z1, z2⟩, -⟩ := h
  obtain ⟨fp, hfp⟩ := hp.f
  obtain ⟨fb, hfb⟩ := h0.f
  obtain ⟨m, hP⟩ := hp.isP hO
  have hbr := Pk_isBroken_S (N := N) (L := L) (B := B) hP hq.n.1 hq.k.1 hq.n.2 hq.k.2 (by have := hq.1; omega) (by have := hq.2.1; omega)
  rw [← hσ] at hbr
  unfold f_Rc_take f_Rc_take_j51 arr
  rw [hfp, bd_S]
  by_cases ho : pkok q.1 (nN q) (kN q) (s_wd q.2 0)
  · have ho' : q.1 = 36 + nN q ∧ nN q ≤ 32 ∧ kN q ≤ 1 ∧ (kN q = 1 → nN q = 20) ∧ ¬ s_wd q.2 0 < 1 ∧ s_wd q.2 0 ≤ 512 := ho
    have hv : pkV q := pkV_of hq ho
    rw [hbr.1 ho, bd_S, if_pos rfl, if_pos ho', hfb, bd_S]
    obtain ⟨σ4, a1, a2, a3, a4, a5, a6⟩ := takeShown_S (N := N) h0 hb0 hs hp hv hC hlag hg hN
    rw [a1, ck_S (by omega) (by omega), bd2_S]
    by_cases ht : (tkey lag s.1 q).1 = 2
    · rw [if_pos ht, if_pos ht, if_neg (fun hh => hh rfl)]
      rw [tkey_0 (by rw [ht]; decide)] at a3
      exact ⟨σ4, w, rfl, a2, a3, a4, by omega, by omega⟩
    · rw [if_neg ht, if_neg ht, if_pos (by decide)]
      obtain ⟨fb4, hfb4⟩ := a3.f
      obtain ⟨σ7, w7, b1, b2, b3, b4, b5, b6⟩ := relAll_S (N := N) a3 a2 (tkey_rs hs) hg hA (by omega) (by omega) hN
      have V := (relN_V 16 _ (tkey_rs (lag := lag) (q := q) hs)).1
      rw [hfb4, bd_S, b1, cv_S b4.1 b4.2.1, bd_S]
      have hT0 : ∀ a, O + 227 ≤ a → ¬ TR O b a 0 := fun a ha ht => by rcases ht with ht | ht | ht <;> omega
      have hp4 := hp.fr hw a4 hT0
      have hp7 := hp4.fr a2.1 b4 hT0
      obtain ⟨fp7, hfp7⟩ := hp7.f
      generalize relN 16 ((tkey lag s.1 q).2, s.2) = s1 at *
      obtain ⟨fb7, hfb7⟩ := b3.f
      obtain ⟨fl7, hfl7⟩ := b3.2.2.2.1.f
      have b2' := b2
      obtain ⟨w7f, -, z7, -, ck7⟩ := b2
      rw [hfp7, bd_S, hp7.gi b2' (by have := hq.1; omega), bd_S, b3.r0, bd_S, b3.i7, bd_S, c_f ck7, bd_S, late_S b2', bd_S]
      unfold arr2
      have FF : frm σ w σ7 w7 (TR O b) := a4.trans b4
      by_cases hl : late C dr (s_wd q.2 0) = true
      · rw [if_pos hl, if_pos (by decide), if_pos (Or.inl hl)]
        exact ⟨σ7, w7, rfl, b2', b3, FF, by omega, by omega⟩
      · rw [if_neg hl, if_neg (by decide), hfb7, bd_S]
        by_cases hd : due s1.1 (gN q) = true
        · rw [if_pos (show late C dr (s_wd q.2 0) = true ∨ due s1.1 (gN q) = true from Or.inr hd), hv.i, hasKey_S b3 V.1 hv.g1 hv.g2, bd_S, if_pos hd, if_neg (show ¬ (1 : Int32) = 0 by decide)]
          exact ⟨σ7, w7, rfl, b2', b3, FF, by omega, by omega⟩
        · rw [if_neg (show ¬ (late C dr (s_wd q.2 0) = true ∨ due s1.1 (gN q) = true) from fun hh => by rcases hh with hh | hh <;> contradiction), hv.i, hasKey_S b3 V.1 hv.g1 hv.g2, bd_S, if_neg hd, if_pos rfl, bd_S, holds_S b3 b2' V hp7 hv hN, bd_S]
          by_cases htw : twins s1.2.1 q = true
          · rw [if_pos htw, if_neg (show ¬ (1 : Int32) = 0 by decide), if_pos htw]
            exact ⟨σ7, w7, rfl, b2', b3, FF, by omega, by omega⟩
          · rw [if_neg htw, if_pos rfl, if_neg htw, b3.r3, bd_S, hfl7, bd_S, Al_size_S b3.2.2.2.1, bd_S]
            have l16 := V.2.2.1
            by_cases h16 : s1.2.1.length < 16
            · rw [if_pos (by rw [show (16 : Int32) = ii 16 from rfl, ii_lt (by omega) (by decide)]; exact h16), if_pos h16, bd_S, hfl7, bd_S]
              obtain ⟨σ8, w8, e1, e2, e3, e4, e5, e6⟩ := Al_add_S (N := N) (p := p) (q := q) w7f b3.2.2.2.1 hp7 (show b + 2 < O + 227 by omega) (by omega) hO (by omega) (by omega) hA (by omega) (by omega)
              rw [e1, ck_S e4.1 e4.2.1, bd2_S]
              exact ⟨σ8, w8, rfl, b2'.fr e4 e2 (fun a h1 h2 ht => by rcases ht with ht | ht <;> omega), b3.held w7f e4 e3, FF.trans (e4.mono fun a _ ht => TL_TR (Or.inl rfl) ht), by omega, by omega⟩
            · rw [if_neg (by rw [show (16 : Int32) = ii 16 from rfl, ii_lt (by omega) (by decide)]; exact h16), if_neg h16]
              exact ⟨σ7, w7, rfl, b2', b3, FF, by omega, by omega⟩
  · have ho' : ¬ (q.1 = 36 + nN q ∧ nN q ≤ 32 ∧ kN q ≤ 1 ∧ (kN q = 1 → nN q = 20) ∧ ¬ s_wd q.2 0 < 1 ∧ s_wd q.2 0 ≤ 512) := ho
    rw [hbr.2 ho, bd_S, if_neg (by decide), if_neg ho']
    exact ⟨σ, w, rfl, hb0, h0, frm.refl, by omega, by omega⟩
/-- an array of ints filled with zeros -/
theorem fill_S {a n : Nat} {f : Nat → Int32} (h : σ.2.2 a = some (.inl (gc G 0, n, .inl f))) (hn : n < N) (hn2 : n < 2147483648) : f_Ar_fill G N σ a 0 = some (ho_set σ a (.inl (gc G 0, n, .inl (ovr (fun _ => 0) f n)))) := by
  have e : ho_it (f_Ar_fill_l5 G N a 0 (ii n)) N (σ, 0) = some (ho_set σ a (.inl (gc G 0, n, .inl (ovr (fun _ => 0) f n)))) := by
    refine it_for n (fun k => (ho_set σ a (.inl (gc G 0, n, .inl (ovr (fun _ => 0) f k))), ii k)) _ (fun k hk => ?_) ?_ hn ?_
    · have e9 : upd (ovr (fun _ => 0) f k) k 0 = ovr (fun _ => 0) f (k + 1) := by
        funext j
        unfold upd ovr
        by_cases h : j = k
        · rw [if_pos h, if_pos (by omega)]
        · rw [if_neg h]
          by_cases h' : j < k
          · rw [if_pos h', if_pos (by omega)]
          · rw [if_neg h', if_neg (by omega)]
      simp only [f_Ar_fill_l5]
      rw [if_neg (by rw [ii_le (by omega) (by omega)]; omega), c_st set_at hk (by omega), bd_S, set_set, e9, show ii k + 1 = ii (k + 1) from ii_add k 1]
    · simp only [f_Ar_fill_l5]
      rw [if_pos (by rw [ii_le (by omega) (by omega)]; exact Nat.le_refl _)]
    · have e9 : ovr (fun _ => 0) f 0 = f := by
        funext j
        unfold ovr
        rw [if_neg (by omega)]
      show (σ, (0 : Int32)) = (ho_set σ a _, ii 0)
      rw [e9, set_self h]
      rfl
  unfold f_Ar_fill ho_lnI
  rw [c_r h, mp_S, bd_S]
  show (ho_it (f_Ar_fill_l5 G N a 0 (ii n)) N (σ, 0)).bind _ = _
  rw [e, bd_S]
theorem begin_S (h : rcv G σ w O b s dr) (hb : bse G σ O C) (hN : 301 < N) : ∃ σ', f_Rc_beginAnew G N σ b = some σ' ∧ bse G σ' O C ∧ rcv G σ' w O b (fun _ => none, [], [], fun _ => 0) dr ∧ frm σ w σ' w (TR O b) ∧ σ'.1 = σ.1 ∧ σ'.2.1 = σ.2.1 := by
  have z := h.1
  have key : ∃ σ1, ho_it (f_Rc_beginAnew_l2 G N b) N (σ, 0) = some σ1 ∧ bse G σ1 O C ∧ rcv G σ1 w O b (fun c => if c < 8 then none else s.1 c, s.2) dr ∧ frm σ w σ1 w (TR O b) ∧ σ1.1 = σ.1 ∧ σ1.2.1 = σ.2.1 := by
    refine it_ex 8 (fun k st => ∃ σ1, st = (σ1, ii k) ∧ bse G σ1 O C ∧ rcv G σ1 w O b (fun c => if c < k then none else s.1 c, s.2) dr ∧ frm σ w σ1 w (TR O b) ∧ σ1.1 = σ.1 ∧ σ1.2.1 = σ.2.1) _ ?_ ?_ (by omega) ⟨σ, rfl, hb, ?_, frm.refl, rfl, rfl⟩
    · rintro k st hk ⟨σ1, rfl, a1, a2, a3, a4, a5⟩
      have a1' := a1
      obtain ⟨hw, hO, hz, ⟨L, B, hσ⟩, hck⟩ := a1
      obtain ⟨fi, la, f, k1, k2, k3⟩ := a2.2.2.2.2.2.2 k hk
      have hK := rcv.isK a1' z.1 k1 k2
      have r1 := Kc_forget_S (N := N) (L := L) (B := B) hK
      rw [← hσ] at r1
      have fk : frm σ1 w (kset σ1 (b + 5 + 2 * k) (b + 6 + 2 * k) (-1) (-1)) w (TC O b k) := frm.set (Or.inr (Or.inl rfl))
      have fs := fk.sl (G := G) (L := L) (B := B) (fun a h1 h2 => Or.inl ⟨h1, h2⟩)
      have bs : bse G (sl G (kset σ1 (b + 5 + 2 * k) (b + 6 + 2 * k) (-1) (-1)) (O + 2) L B) O C := a1'.sl (Nat.le_refl _) (hw.set k1) (by
        show (ho_set σ1 _ _).2.2 (O + 1) = _
        rw [set_ne (by omega)])
      have rc := a2.chain (x := none) (fi := -1) (la := -1) (f := f) hw fs hk (by rw [sl_out (Or.inr (by omega))]; exact set_at) (by
        rw [sl_out (Or.inr (by omega))]
        show (ho_set σ1 _ _).2.2 (b + 6 + 2 * k) = _
        rw [set_ne (by omega)]
        exact k2) rfl
      have ef : (fun c' => if c' = k then none else (fun c => if c < k then none else s.1 c) c') = fun c => if c < k + 1 then none else s.1 c := by
        funext c'
        by_cases e1 : c' = k
        · rw [if_pos e1, if_pos (by omega)]
        · rw [if_neg e1]
          dsimp only
          by_cases e2 : c' < k
          · rw [if_pos e2, if_pos (by omega)]
          · rw [if_neg e2, if_neg (by omega)]
      dsimp only at rc ef
      rw [ef] at rc
      refine ⟨_, ?_, _, rfl, bs, rc, a3.trans (fs.mono fun a _ ht => TC_TR hk ht), a4, a5⟩
      unfold f_Rc_beginAnew_l2
      dsimp only
      rw [if_neg (by rw [show (8 : Int32) = ii 8 from rfl, ii_le (by decide) (by omega)]; omega), a2.r2, bd_S, a2.kn hk, bd_S, c_f k1, bd_S, r1, cv_S (by exact Nat.le_refl _) (by exact Nat.le_refl _), bd_S, show ii k + 1 = ii (k + 1) from ii_add k 1]
    · rintro st ⟨σ1, rfl, a1, a2, a3, a4, a5⟩
      refine ⟨σ1, ?_, a1, a2, a3, a4, a5⟩
      unfold f_Rc_beginAnew_l2
      dsimp only
      rw [if_pos (by decide)]
    · have e : (fun c => if c < 0 then none else s.1 c) = s.1 := by
        funext c
        rw [if_neg (by omega)]
      rw [e]
      exact h
  obtain ⟨σ1, a0, a1, a2, a3, a4, a5⟩ := key
  unfold f_Rc_beginAnew
  obtain ⟨fl, hfl⟩ := a2.2.2.2.1.f
  obtain ⟨σ2, b1, b2, b3, b4, b5, b6⟩ := Al_clear_S (N := N) a1.1 a2.2.2.2.1 (by omega) hN
  have bs2 : bse G σ2 O C := a1.fr b4 b2 (fun a h1 h2 ht => by rcases ht with ht | ht <;> omega)
  have rc2 := a2.held a1.1 b4 b3
  obtain ⟨fl2, hfl2⟩ := rc2.2.2.2.2.1.f
  obtain ⟨σ3, c1, c2, c3, c4, c5, c6⟩ := Al_clear_S (N := N) b2 rc2.2.2.2.2.1 (by omega) hN
  have bs3 : bse G σ3 O C := bs2.fr c4 c2 (fun a h1 h2 ht => by rcases ht with ht | ht <;> omega)
  -- the object and the counts, in σ3
  have ob3 : σ3.2.2 b = some (.inr (4, [.ref (O + 1), .ref (O + 2), .ref (b + 1), .ref (b + 2), .ref (b + 3), .ref (b + 4), .int (ii s.2.2.1.length), .int dr])) := c4.at b2 rc2.2.1 (fun ht => by rcases ht with ht | ht <;> omega)
  obtain ⟨cf, d1, d2⟩ := rc2.2.2.2.2.2.1
  have ct3 : σ3.2.2 (b + 4) = some (.inl (gc G 0, 7, .inl cf)) := c4.at b2 d1 (fun ht => by rcases ht with ht | ht <;> omega)
  have ob4 : (ho_set σ3 (b + 4) (.inl (gc G 0, 7, .inl (ovr (fun _ => 0) cf 7)))).2.2 b = some (.inr (4, [.ref (O + 1), .ref (O + 2), .ref (b + 1), .ref (b + 2), .ref (b + 3), .ref (b + 4), .int (ii s.2.2.1.length), .int dr])) := by rw [set_ne (by omega)]; exact ob3
  have p5 : ho_p (ho_set σ3 (b + 4) (.inl (gc G 0, 7, .inl (ovr (fun _ => 0) cf 7)))) b 4 6 (.int 0) = some (ho_set (ho_set σ3 (b + 4) (.inl (gc G 0, 7, .inl (ovr (fun _ => 0) cf 7)))) b (.inr (4, [.ref (O + 1), .ref (O + 2), .ref (b + 1), .ref (b + 2), .ref (b + 3), .ref (b + 4), .int 0, .int dr]))) := c_p ob4 (show 6 < 8 by decide)
  have w4 : wf G (ho_set σ3 (b + 4) (.inl (gc G 0, 7, .inl (ovr (fun _ => 0) cf 7)))) := c2.set ct3
  have f34 : frm σ3 w (ho_set σ3 (b + 4) (.inl (gc G 0, 7, .inl (ovr (fun _ => 0) cf 7)))) w (fun a _ => a = b + 4) := frm.set rfl
  have f45 : frm (ho_set σ3 (b + 4) (.inl (gc G 0, 7, .inl (ovr (fun _ => 0) cf 7)))) w (ho_set (ho_set σ3 (b + 4) (.inl (gc G 0, 7, .inl (ovr (fun _ => 0) cf 7)))) b (.inr (4, [.ref (O + 1), .ref (O + 2), .ref (b + 1), .ref (b + 2), .ref (b + 3), .ref (b + 4), .int 0, .int dr]))) w (fun a _ => a = b) := frm.set rfl
  have p3 : pls G σ3 w O (b + 3) [] := c3
  have p4 := p3.fr c2 f34 (by omega) (fun a ha => by omega) (fun a ha => by omega)
  have p5' := p4.fr w4 f45 (by omega) (fun a ha => by omega) (fun a ha => by omega)
  have hm : frm σ2 w (ho_set (ho_set σ3 (b + 4) (.inl (gc G 0, 7, .inl (ovr (fun _ => 0) cf 7)))) b (.inr (4, [.ref (O + 1), .ref (O + 2), .ref (b + 1), .ref (b + 2), .ref (b + 3), .ref (b + 4), .int 0, .int dr]))) w (fun a o => a = b ∨ a = b + 3 ∨ a = b + 4 ∨ (O + 227 ≤ a ∧ o = b + 3)) := ((c4.mono fun a _ ht => by rcases ht with ht | ht; exact Or.inr (Or.inl ht); exact Or.inr (Or.inr (Or.inr ht))).trans (f34.mono fun a _ ht => Or.inr (Or.inr (Or.inl ht)))).trans (f45.mono fun a _ ht => Or.inl ht)
  have w5 := w4.set (e := .inr (4, [.ref (O + 1), .ref (O + 2), .ref (b + 1), .ref (b + 2), .ref (b + 3), .ref (b + 4), .int 0, .int dr])) ob4
  have FF : frm σ w (ho_set (ho_set σ3 (b + 4) (.inl (gc G 0, 7, .inl (ovr (fun _ => 0) cf 7)))) b (.inr (4, [.ref (O + 1), .ref (O + 2), .ref (b + 1), .ref (b + 2), .ref (b + 3), .ref (b + 4), .int 0, .int dr]))) w (TR O b) := (a3.trans (b4.mono fun a _ ht => TL_TR (Or.inl rfl) ht)).trans (hm.mono fun a _ ht => by
    rcases ht with ht | ht | ht | ht
    · exact Or.inr (Or.inl (by omega))
    · exact Or.inr (Or.inl (by omega))
    · exact Or.inr (Or.inl (by omega))
    · exact Or.inr (Or.inr ⟨ht.1, Or.inr ht.2⟩))
  obtain ⟨⟨z1, z2⟩, -, ⟨kf, e2, e3⟩, e4, -, -, e8⟩ := rc2
  refine ⟨_, ?_, bs2.fr hm w5 (fun a h1 h2 ht => by rcases ht with ht | ht | ht | ht <;> omega), ⟨⟨z1, z2⟩, set_at, ⟨kf, hm.at b2 e2 (fun ht => by rcases ht with ht | ht | ht | ht <;> omega), e3⟩, e4.fr b2 hm (fun ht => by rcases ht with ht | ht | ht | ht <;> omega) (fun a ha ht => by rcases ht with ht | ht | ht | ht <;> omega) (fun a ha ht => by rcases ht with ht | ht | ht | ht <;> omega), p5', ⟨_, by rw [set_ne (by omega)]; exact set_at, fun j hj => if_pos hj⟩, fun c hc => ?_⟩, FF, by show σ3.1 = _; omega, by show σ3.2.1 = _; omega⟩
  · rw [a0, bd_S, a2.r3, bd_S, hfl, bd_S, b1, cv_S (by omega) (by omega), bd_S, c_R (b4.at a1.1 a2.2.1 (fun ht => by rcases ht with ht | ht <;> omega)) rfl, bd_S, hfl2, bd_S, c1, cv_S (by omega) (by omega), bd_S, c_R ob3 rfl, bd_S, fill_S ct3 (by omega) (by decide), cv_S (by exact Nat.le_refl _) (by exact Nat.le_refl _), bd_S, p5, bd_S]
  · obtain ⟨fi, la, f, y1, y2, y3⟩ := e8 c hc
    refine ⟨fi, la, f, hm.at b2 y1 (fun ht => by rcases ht with ht | ht | ht | ht <;> omega), hm.at b2 y2 (fun ht => by rcases ht with ht | ht | ht | ht <;> omega), ?_⟩
    dsimp only at y3
    rw [if_pos hc] at y3
    exact y3
/-- the latest interval of which a key is known -/
def latR (kn : KN) : Nat → Int32
  | 0 => -1
  | n + 1 => match kn n with
    | some (_, v, _) => ii (64 * n + v)
    | none => latR kn n
theorem latest_S (h : rcv G σ w O b s dr) (hb : bse G σ O C) (hk : knV s.1) (hN : 301 < N) : f_Rc_latestInterval G N σ b = some (latR s.1 8) := by
  have z := h.1
  have key : ∃ e, ho_it (f_Rc_latestInterval_l3 G N σ b) N 7 = some e ∧ ((e = .inl () ∧ latR s.1 8 = -1) ∨ e = .inr (latR s.1 8)) := by
    refine it_ex2 8 (fun k x => x = ii (8 - k) + (-1) ∧ latR s.1 8 = latR s.1 (8 - k)) _ ?_ ?_ (by omega) ⟨by decide, rfl⟩
    · rintro k x hk' ⟨rfl, e1⟩
      obtain ⟨hw, hO, hz, ⟨L, B, hσ⟩, hck⟩ := hb
      have hb : bse G σ O C := ⟨hw, hO, hz, ⟨L, B, hσ⟩, hck⟩
      rw [ii_dec (by omega)]
      obtain ⟨fi, la, f, k1, k2, k3⟩ := h.2.2.2.2.2.2 (8 - k - 1) (by omega)
      have hK := rcv.isK hb z.1 k1 k2
      have e2 := Kc_isKnown_S (N := N) (L := L) (B := B) hK
      rw [← hσ] at e2
      unfold f_Rc_latestInterval_l3
      rw [if_neg (ii_nneg (by omega)), h.r2, bd_S, h.kn (by omega), bd_S, c_f k1, bd_S, e2, bd_S]
      have e3 : latR s.1 (8 - k) = match s.1 (8 - k - 1) with
        | some (_, v, _) => ii (64 * (8 - k - 1) + v)
        | none => latR s.1 (8 - k - 1) := by
        rw [show 8 - k = (8 - k - 1) + 1 by omega, latR]
        rfl
      cases ek : s.1 (8 - k - 1) with
      | none =>
        rw [ek] at k3 e3
        have k4 : la = -1 := k3
        rw [k4, if_pos rfl, if_pos rfl]
        exact Or.inl ⟨_, rfl, by rw [show 8 - (k + 1) = 8 - k - 1 by omega], by rw [e1, e3, show 8 - (k + 1) = 8 - k - 1 by omega]⟩
      | some x =>
        obtain ⟨a, v, K⟩ := x
        rw [ek] at k3 e3
        obtain ⟨-, k5, -⟩ := k3
        have := hk _ _ _ _ ek
        refine Or.inr ⟨.inr (latR s.1 8), ?_, Or.inr rfl⟩
        rw [k5, if_neg (ne_neg1 (by omega)), if_neg (by decide), bd_S, h.kn (by omega), bd_S, c_I k1 rfl, bd_S, e1, e3, k5, show (64 : Int32) = ii 64 from rfl, ii_mul, ii_add, Nat.mul_comm]
    · rintro x ⟨rfl, e1⟩
      refine ⟨.inl (), ?_, Or.inl ⟨rfl, e1⟩⟩
      unfold f_Rc_latestInterval_l3
      rw [if_pos (by decide)]
  obtain ⟨e, e1, e2⟩ := key
  unfold f_Rc_latestInterval
  rw [e1, bd_S]
  rcases e2 with ⟨rfl, e2⟩ | rfl
  · rw [e2]
    rfl
  · rfl
end RJ
