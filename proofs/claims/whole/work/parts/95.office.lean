/-! the office is made -/
section OI
variable {G : ho_G} {N O : Nat}
theorem Sl_init_S {σ : ho_H} {a : Nat} (hw : wf G σ) (ha : σ.2.2 a = some (.inr (1, [.null, .null, .null, .int 0, .null]))) (hs : σ.1 = a + 1) (r1 : σ.1 + 4 ≤ gC G) (r2 : σ.2.1 + 112 ≤ gS G) (hB : gB G ≤ a) : ∃ σ', f_Sl_init G N σ a = some σ' ∧ wf G σ' ∧ σ'.1 = a + 5 ∧ σ'.2.1 = σ.2.1 + 112 ∧ σ'.2.2 a = some (.inr (1, slf a 0)) ∧ (∀ p, 0 < p → p < 5 → σ'.2.2 (a + p) = some (.inl (gc G 0, ssz p, .inl fun _ => 0))) ∧ ∀ c, c < a → σ'.2.2 c = σ.2.2 c := by
  have step : ∀ (τ : ho_H) (j n : Nat) (fs : List Value) (m : Nat), wf G τ → τ.2.2 a = some (.inr (1, fs)) → fs.length = 5 → j < 5 → τ.1 = a + m → 1 ≤ m → τ.1 + 1 ≤ gC G → τ.2.1 + n ≤ gS G → n ≤ 64 → ∃ τ', (∀ k : ho_H → Option ho_H, bd2 (ho_nwI G τ (ii n)) (fun σ1 b2 => (ho_p σ1 a 1 j (.ref b2)).bind k) = k τ') ∧ wf G τ' ∧ τ'.2.2 a = some (.inr (1, fs.set j (.ref (a + m)))) ∧ τ'.1 = a + m + 1 ∧ τ'.2.1 = τ.2.1 + n ∧ τ'.2.2 (a + m) = some (.inl (gc G 0, n, .inl fun _ => 0)) ∧ ∀ c, c ≠ a → c < a + m → τ'.2.2 c = τ.2.2 c := by
    intro τ j n fs m h1 h2 h3 h4 h5 h6 h7 h8 h9
    have b1 : (new τ n (.inl (gc G 0, n, .inl fun _ => 0))).2.2 a = some (.inr (1, fs)) := by rw [new_ne (by omega)]; exact h2
    refine ⟨ho_set (new τ n (.inl (gc G 0, n, .inl fun _ => 0))) a (.inr (1, fs.set j (.ref (a + m)))), fun k => ?_, (h1.new (by omega)).set b1, set_at, by show τ.1 + 1 = _; omega, rfl, by rw [set_ne (by omega), ← h5]; exact new_at, fun c q1 q2 => by rw [set_ne q1, new_ne (by omega)]⟩
    rw [nwI_S h7 h8 (by omega), bd2_S, c_p b1 (by omega), bd_S, h5]
  obtain ⟨τ1, s1, s2, s3, s4, s5, s6, s7⟩ := step σ 0 8 _ 1 hw ha rfl (by decide) hs (by decide) (by omega) (by omega) (by decide)
  obtain ⟨τ2, t1, t2, t3, t4, t5, t6, t7⟩ := step τ1 1 8 _ 2 s2 s3 rfl (by decide) (by omega) (by decide) (by omega) (by omega) (by decide)
  obtain ⟨τ3, u1, u2, u3, u4, u5, u6, u7⟩ := step τ2 2 32 _ 3 t2 t3 rfl (by decide) (by omega) (by decide) (by omega) (by omega) (by decide)
  obtain ⟨τ4, v1, v2, v3, v4, v5, v6, v7⟩ := step τ3 4 64 _ 4 u2 u3 rfl (by decide) (by omega) (by decide) (by omega) (by omega) (by decide)
  refine ⟨τ4, ?_, v2, by omega, by omega, v3, fun p p1 p2 => ?_, fun c hc => by rw [v7 c (by omega) (by omega), u7 c (by omega) (by omega), t7 c (by omega) (by omega), s7 c (by omega) (by omega)]⟩
  · unfold f_Sl_init
    rw [show (8 : Int32) = ii 8 from rfl, s1, t1, show (32 : Int32) = ii 32 from rfl, u1, show (64 : Int32) = ii 64 from rfl, v1]
  · have hp : p = 1 ∨ p = 2 ∨ p = 3 ∨ p = 4 := by omega
    rcases hp with rfl | rfl | rfl | rfl
    · rw [v7 _ (by omega) (by omega), u7 _ (by omega) (by omega), t7 _ (by omega) (by omega)]
      exact s6
    · rw [v7 _ (by omega) (by omega), u7 _ (by omega) (by omega)]
      exact t6
    · rw [v7 _ (by omega) (by omega)]
      exact u6
    · exact v6
theorem of_120 {σ : ho_H} {f : Nat → Option Nat} {cc : Int32} (hw : wf G σ) (hO : σ.2.2 O = some (.inr (5, [.ref (O + 1), .ref (O + 2), .ref (O + 7), .ref (O + 8), .int cc, .ref (O + 25), .ref (O + 26)]))) (hr : σ.2.2 (O + 26) = some (.inl (gc G 4, 8, .inr (.inr (.inr (.inr f)))))) (hs : σ.1 = O + 27) (hB : gB G ≤ O) (r1 : σ.1 + 200 ≤ gC G) (r2 : σ.2.1 + 22000 ≤ gS G) (hN : 301 < N) : ∃ σ', ho_it (f_Of_init_l120 G N O) N (σ, 0) = some σ' ∧ wf G σ' ∧ σ'.1 = O + 195 ∧ σ'.2.1 = σ.2.1 + 21224 ∧ cRa G σ' O ∧ (∀ r, r < 8 → rcv G σ' (fun _ => 0) O (O + 27 + 21 * r) (fun _ => none, [], [], fun _ => 0) 0) ∧ ∀ a, a < O + 26 → σ'.2.2 a = σ.2.2 a := by
  have key : ∃ σ', ho_it (f_Of_init_l120 G N O) N (σ, 0) = some σ' ∧ wf G σ' ∧ σ'.1 = O + 195 ∧ σ'.2.1 = 2653 * 8 + σ.2.1 ∧ cRa G σ' O ∧ (∀ r, r < 8 → rcv G σ' (fun _ => 0) O (O + 27 + 21 * r) (fun _ => none, [], [], fun _ => 0) 0) ∧ ∀ a, a < O + 26 → σ'.2.2 a = σ.2.2 a := by
    refine it_ex 8 (fun r s => ∃ σ1, s = (σ1, ii r) ∧ wf G σ1 ∧ σ1.1 = O + 27 + 21 * r ∧ σ1.2.1 = 2653 * r + σ.2.1 ∧ (∃ f, σ1.2.2 (O + 26) = some (.inl (gc G 4, 8, .inr (.inr (.inr (.inr f))))) ∧ ∀ r', r' < r → f r' = some (O + 27 + 21 * r')) ∧ (∀ r', r' < r → rcv G σ1 (fun _ => 0) O (O + 27 + 21 * r') (fun _ => none, [], [], fun _ => 0) 0) ∧ ∀ a, a < O + 26 → σ1.2.2 a = σ.2.2 a) _ ?_ ?_ (by omega) ⟨σ, rfl, hw, by omega, by omega, ⟨f, hr, fun _ h => absurd h (by omega)⟩, fun _ h => absurd h (by omega), fun _ _ => rfl⟩
    · rintro r s hr8 ⟨σ1, rfl, p1, p2, p3, ⟨f1, p4, p5⟩, p6, p7⟩
      have e1 : ho_al G σ1 8 (.inr (4, [.null, .null, .null, .null, .null, .null, .int 0, .int 0])) = some (new σ1 8 (.inr (4, [.null, .null, .null, .null, .null, .null, .int 0, .int 0])), O + 27 + 21 * r) := by rw [al_S (by omega) (by omega), p2]
      have w1 : wf G (new σ1 8 (.inr (4, [.null, .null, .null, .null, .null, .null, .int 0, .int 0]))) := p1.new (by omega)
      have o1 : ∀ a, a < O + 27 + 21 * r → (new σ1 8 (.inr (4, [.null, .null, .null, .null, .null, .null, .int 0, .int 0]))).2.2 a = σ1.2.2 a := fun a ha => new_ne (by omega)
      have b1 : (new σ1 8 (.inr (4, [.null, .null, .null, .null, .null, .null, .int 0, .int 0]))).2.2 (O + 27 + 21 * r) = some (.inr (4, [.null, .null, .null, .null, .null, .null, .int 0, .int 0])) := by rw [← p2]; exact new_at
      have z1 : (new σ1 8 (.inr (4, [.null, .null, .null, .null, .null, .null, .int 0, .int 0]))).1 = O + 27 + 21 * r + 1 := by show σ1.1 + 1 = _; omega
      have y1 : (new σ1 8 (.inr (4, [.null, .null, .null, .null, .null, .null, .int 0, .int 0]))).2.1 = σ1.2.1 + 8 := rfl
      have q1 : (new σ1 8 (.inr (4, [.null, .null, .null, .null, .null, .null, .int 0, .int 0]))).2.2 O = some (.inr (5, [.ref (O + 1), .ref (O + 2), .ref (O + 7), .ref (O + 8), .int cc, .ref (O + 25), .ref (O + 26)])) := by rw [o1 _ (by omega), p7 _ (by omega)]; exact hO
      generalize new σ1 8 (.inr (4, [.null, .null, .null, .null, .null, .null, .int 0, .int 0])) = σ2 at *
      obtain ⟨σ3, g1, g2, g3, g4, g5, ⟨kf, g6, g7⟩, g8, g9, g10, g11, g12⟩ := Rc_init_S (N := N) (k := O + 1) (s := O + 2) w1 b1 z1 (by omega) (by omega) (by omega) hN
      have a26 : σ3.2.2 (O + 26) = some (.inl (gc G 4, 8, .inr (.inr (.inr (.inr f1))))) := by rw [g12 _ (by omega), o1 _ (by omega)]; exact p4
      have q3 : σ1.2.2 O = some (.inr (5, [.ref (O + 1), .ref (O + 2), .ref (O + 7), .ref (O + 8), .int cc, .ref (O + 25), .ref (O + 26)])) := by rw [p7 _ (by omega)]; exact hO
      have ff : frm σ1 (fun _ => 0) (ho_set σ3 (O + 26) (.inl (gc G 4, 8, .inr (.inr (.inr (.inr (va_up f1 r (some (O + 27 + 21 * r))))))))) (fun _ => 0) (fun a _ => a = O + 26) := ⟨by show σ1.1 ≤ σ3.1; omega, by show σ1.2.1 ≤ σ3.2.1; omega, fun a ha => ⟨rfl, fun hn => by rw [set_ne hn, g12 a (by omega), o1 a (by omega)]⟩⟩
      refine ⟨(ho_set σ3 (O + 26) (.inl (gc G 4, 8, .inr (.inr (.inr (.inr (va_up f1 r (some (O + 27 + 21 * r)))))))), ii (r + 1)), ?_, _, rfl, g2.set a26, by show σ3.1 = _; omega, by show σ3.2.1 = _; omega, ⟨_, set_at, fun r' h => ?_⟩, fun r' h => ?_, fun a ha => by rw [set_ne (by omega), g12 a (by omega), o1 a (by omega), p7 a ha]⟩
      · unfold f_Of_init_l120
        dsimp only
        rw [if_neg (by rw [show (8 : Int32) = ii 8 from rfl, ii_le (by decide) (by omega)]; omega), c_R q3 rfl, bd_S, e1, bd2_S, c_R q1 rfl, bd_S, c_R q1 rfl, bd_S, g1, cv_S (by omega) (by omega), bd_S, c_f g5, bd_S, c_stR a26 hr8 (by omega), bd_S, ii_1]
      · unfold va_up
        by_cases e : r' = r
        · rw [if_pos e, e]
        · rw [if_neg e]
          exact p5 r' (by omega)
      · by_cases e : r' = r
        · subst e
          refine ⟨⟨by omega, by omega⟩, by rw [set_ne (by omega)]; exact g5, ⟨kf, by rw [set_ne (by omega)]; exact g6, g7⟩, ⟨gA G 4, 0, 0, fun _ => none, by rw [set_ne (by omega)]; exact g8, Or.inl ⟨rfl, rfl⟩, fun i q hq => by simp at hq⟩, ⟨gA G 4, 0, 0, fun _ => none, by rw [set_ne (by omega)]; exact g9, Or.inl ⟨rfl, rfl⟩, fun i q hq => by simp at hq⟩, ⟨_, by rw [set_ne (by omega)]; exact g10, fun _ _ => rfl⟩, fun c hc => ⟨-1, -1, _, by rw [set_ne (by omega)]; exact (g11 c hc).1, by rw [set_ne (by omega)]; exact (g11 c hc).2, rfl⟩⟩
        · exact (p6 r' (by omega)).fr p1 ff (fun a h1 h2 => by omega) (fun a o h1 h2 => by omega)
    · rintro s ⟨σ1, rfl, p1, p2, p3, p4, p6, p7⟩
      refine ⟨σ1, ?_, p1, by omega, by omega, p4, p6, p7⟩
      unfold f_Of_init_l120
      dsimp only
      rw [if_pos (by decide)]
  obtain ⟨σ', k1, k2, k3, k4, k5⟩ := key
  exact ⟨σ', k1, k2, k3, by omega, k5⟩
theorem set_O {τ : ho_H} {j v : Nat} {fs : List Value} (hw : wf G τ) (hO : τ.2.2 O = some (.inr (5, fs))) (hj : j < fs.length) : ∃ τ', ho_p τ O 5 j (.ref v) = some τ' ∧ wf G τ' ∧ τ'.1 = τ.1 ∧ τ'.2.1 = τ.2.1 ∧ τ'.2.2 O = some (.inr (5, fs.set j (.ref v))) ∧ ∀ a, a ≠ O → τ'.2.2 a = τ.2.2 a := ⟨_, c_p hO hj, hw.set hO, rfl, rfl, set_at, fun a ha => set_ne ha⟩
theorem new_E {τ : ho_H} {n : Nat} {e : va_E} (hw : wf G τ) (hB : gB G ≤ τ.1) : ∃ τ', new τ n e = τ' ∧ wf G τ' ∧ τ'.1 = τ.1 + 1 ∧ τ'.2.1 = τ.2.1 + n ∧ τ'.2.2 τ.1 = some e ∧ ∀ a, a < τ.1 → τ'.2.2 a = τ.2.2 a := ⟨_, rfl, hw.new hB, rfl, rfl, new_at, fun a ha => new_ne (by omega)⟩
theorem of_A {σ : ho_H} {v3 v4 v5 : Nat} (wσ : wf G σ) (c0 : σ.2.2 O = some (.inr (5, [.null, .null, .null, .null, .int 0, .null, .null]))) (zσ : σ.1 = O + 1) (yσ : σ.2.1 = 7) (hB : gB G = O) (hC : gC G = O + 601024) (hS : gS G = 7293000) : ∃ τ1 τ2 τ3 τ4 τs, ho_al G σ 4 (.inr (0, [.int 0, .int 0, .int 0, .int 0])) = some (τ1, O + 1) ∧ ho_cv τ1 (f_Ck_init G N τ1 (O + 1) (1 + ii v3) (1 + ii v4) (ii v5)) = some τ2 ∧ ho_p τ2 O 5 0 (.ref (O + 1)) = some τ3 ∧ ho_al G τ3 5 (.inr (1, [.null, .null, .null, .int 0, .null])) = some (τ4, O + 2) ∧ ho_cv τ4 (f_Sl_init G N τ4 (O + 2)) = some τs ∧ wf G τs ∧ τs.1 = O + 7 ∧ τs.2.1 = 128 ∧ τs.2.2 O = some (.inr (5, [.ref (O + 1), .null, .null, .null, .int 0, .null, .null])) ∧ τs.2.2 (O + 1) = some (.inr (0, [.int (1 + ii v3), .int (1 + ii v4), .int (ii v5), .int 0])) ∧ τs.2.2 (O + 2) = some (.inr (1, slf (O + 2) 0)) ∧ ∀ p, 0 < p → p < 5 → τs.2.2 (O + 2 + p) = some (.inl (gc G 0, ssz p, .inl fun _ => 0)) := by
  obtain ⟨τ1, a1, a2, a3, a4, a5, a6⟩ := new_E (n := 4) (e := .inr (0, [.int 0, .int 0, .int 0, .int 0])) wσ (by omega)
  have e1 : ho_al G σ 4 (.inr (0, [.int 0, .int 0, .int 0, .int 0])) = some (τ1, O + 1) := by rw [al_S (by omega) (by omega), a1, zσ]
  rw [zσ] at a3 a5 a6
  have k1 : f_Ck_init G N τ1 (O + 1) (1 + ii v3) (1 + ii v4) (ii v5) = some (ho_set τ1 (O + 1) (.inr (0, [.int (1 + ii v3), .int (1 + ii v4), .int (ii v5), .int 0]))) := by
    unfold f_Ck_init
    rw [c_p a5 (show 0 < 4 by decide), bd_S, c_p set_at (show 1 < 4 by decide), bd_S, set_set, c_p set_at (show 2 < 4 by decide), bd_S, set_set]
    rfl
  have k2 : (ho_set τ1 (O + 1) (.inr (0, [.int (1 + ii v3), .int (1 + ii v4), .int (ii v5), .int 0]))).2.2 O = some (.inr (5, [.null, .null, .null, .null, .int 0, .null, .null])) := by rw [set_ne (by omega), a6 _ (by omega)]; exact c0
  have k3 : (ho_set τ1 (O + 1) (.inr (0, [.int (1 + ii v3), .int (1 + ii v4), .int (ii v5), .int 0]))).2.2 (O + 1) = some (.inr (0, [.int (1 + ii v3), .int (1 + ii v4), .int (ii v5), .int 0])) := set_at
  have k4 : wf G (ho_set τ1 (O + 1) (.inr (0, [.int (1 + ii v3), .int (1 + ii v4), .int (ii v5), .int 0]))) := a2.set a5
  have k5 : (ho_set τ1 (O + 1) (.inr (0, [.int (1 + ii v3), .int (1 + ii v4), .int (ii v5), .int 0]))).1 = O + 2 := a3
  have k6 : (ho_set τ1 (O + 1) (.inr (0, [.int (1 + ii v3), .int (1 + ii v4), .int (ii v5), .int 0]))).2.1 = 11 := by show τ1.2.1 = 11; omega
  generalize ho_set τ1 (O + 1) (.inr (0, [.int (1 + ii v3), .int (1 + ii v4), .int (ii v5), .int 0])) = τ2 at k1 k2 k3 k4 k5 k6
  obtain ⟨τ3, b1, b2, b3, b4, b5, b6⟩ := set_O (j := 0) (v := O + 1) k4 k2 (show 0 < 7 by decide)
  obtain ⟨τ4, d1, d2, d3, d4, d5, d6⟩ := new_E (n := 5) (e := .inr (1, [.null, .null, .null, .int 0, .null])) b2 (by omega)
  have z3 : τ3.1 = O + 2 := by omega
  have e4 : ho_al G τ3 5 (.inr (1, [.null, .null, .null, .int 0, .null])) = some (τ4, O + 2) := by rw [al_S (by omega) (by omega), d1, z3]
  rw [z3] at d3 d5 d6
  obtain ⟨τs, s1, s2, s3, s4, s5, s6, s7⟩ := Sl_init_S (N := N) d2 d5 (by omega) (by omega) (by omega) (by omega)
  exact ⟨τ1, τ2, τ3, τ4, τs, e1, by rw [k1, cv_S (by omega) (by omega)], b1, e4, by rw [s1, cv_S (by omega) (by omega)], s2, s3, by omega, by rw [s7 _ (by omega), d6 _ (by omega)]; exact b5, by rw [s7 _ (by omega), d6 _ (by omega), b6 _ (by omega)]; exact k3, s5, s6⟩
theorem of_B {τs : ho_H} (ws : wf G τs) (zs : τs.1 = O + 7) (ys : τs.2.1 = 128) (c0 : τs.2.2 O = some (.inr (5, [.ref (O + 1), .null, .null, .null, .int 0, .null, .null]))) (hB : gB G = O) (hC : gC G = O + 601024) (hS : gS G = 7293000) (hN : 301 < N) : ∃ τ1 τ2 τ3 τ4 τ5 τl, ho_p τs O 5 1 (.ref (O + 2)) = some τ1 ∧ ho_nwI G τ1 (ii 8) = some (τ2, O + 7) ∧ ho_p τ2 O 5 2 (.ref (O + 7)) = some τ3 ∧ ho_nwR G τ3 3 (ii 8) = some (τ4, O + 8) ∧ ho_p τ4 O 5 3 (.ref (O + 8)) = some τ5 ∧ ho_it (f_Of_init_l70 G N O) N (τ5, 0) = some τl ∧ wf G τl ∧ τl.1 = O + 25 ∧ τl.2.1 = 2768 ∧ τl.2.2 O = some (.inr (5, [.ref (O + 1), .ref (O + 2), .ref (O + 7), .ref (O + 8), .int 0, .null, .null])) ∧ cBf G τl O (fun _ => 0) ∧ cCa G τl O ∧ (∀ c, c < 8 → τl.2.2 (O + 9 + 2 * c) = some (.inr (2, [.ref (O + 10 + 2 * c), .int (-1), .int (-1)])) ∧ τl.2.2 (O + 10 + 2 * c) = some (.inl (gc G 0, 325, .inl fun _ => 0))) ∧ ∀ a, a < O + 7 → a ≠ O → τl.2.2 a = τs.2.2 a := by
  obtain ⟨τ1, a1, a2, a3, a4, a5, a6⟩ := set_O (j := 1) (v := O + 2) ws c0 (show 1 < 7 by decide)
  obtain ⟨τ2, b1, b2, b3, b4, b5, b6⟩ := new_E (n := 8) (e := .inl (gc G 0, 8, .inl fun _ => 0)) a2 (by omega)
  have z1 : τ1.1 = O + 7 := by omega
  have e2 : ho_nwI G τ1 (ii 8) = some (τ2, O + 7) := by rw [nwI_S (by omega) (by omega) (by decide), b1, z1]
  rw [z1] at b3 b5 b6
  have n2 : τ2.2.2 O = some (.inr (5, [.ref (O + 1), .ref (O + 2), .null, .null, .int 0, .null, .null])) := by rw [b6 _ (by omega)]; exact a5
  obtain ⟨τ3, d1, d2, d3, d4, d5, d6⟩ := set_O (j := 2) (v := O + 7) b2 n2 (show 2 < 7 by decide)
  obtain ⟨τ4, f1, f2, f3, f4, f5, f6⟩ := new_E (n := 8) (e := .inl (gc G 3, 8, .inr (.inr (.inr (.inr fun _ => none))))) d2 (by omega)
  have z3 : τ3.1 = O + 8 := by omega
  have e4 : ho_nwR G τ3 3 (ii 8) = some (τ4, O + 8) := by rw [nwR_S (by omega) (by omega) (by decide), f1, z3]
  rw [z3] at f3 f5 f6
  have n4 : τ4.2.2 O = some (.inr (5, [.ref (O + 1), .ref (O + 2), .ref (O + 7), .null, .int 0, .null, .null])) := by rw [f6 _ (by omega)]; exact d5
  obtain ⟨τ5, g1, g2, g3, g4, g5, g6⟩ := set_O (j := 3) (v := O + 8) f2 n4 (show 3 < 7 by decide)
  obtain ⟨τl, l1, l2, l3, l4, ⟨fl, l5, l8⟩, l6, l7⟩ := of_70 (N := N) (a0 := O) (r := O + 8) g2 g5 rfl (by rw [g6 _ (by omega)]; exact f5) (by omega) (by omega) (by omega) hN
  have z5 : τ5.1 = O + 9 := by omega
  rw [z5] at l3 l6 l7 l8
  refine ⟨τ1, τ2, τ3, τ4, τ5, τl, a1, e2, d1, e4, g1, l1, l2, by omega, by omega, by rw [l7 _ (by omega) (by omega)]; exact g5, ⟨_, by rw [l7 _ (by omega) (by omega), g6 _ (by omega), f6 _ (by omega), d6 _ (by omega)]; exact b5, fun _ _ => rfl⟩, ⟨fl, l5, l8⟩, fun c hc => ?_, fun a h1 h2 => by rw [l7 _ (by omega) (by omega), g6 _ (by omega), f6 _ (by omega), d6 _ (by omega), b6 _ (by omega), a6 _ (by omega)]⟩
  have y := l6 c hc
  rw [show O + 9 + 2 * c + 1 = O + 10 + 2 * c by omega] at y
  exact y
theorem of_C {τl : ho_H} (wl : wf G τl) (zl : τl.1 = O + 25) (yl : τl.2.1 = 2768) (c0 : τl.2.2 O = some (.inr (5, [.ref (O + 1), .ref (O + 2), .ref (O + 7), .ref (O + 8), .int 0, .null, .null]))) (hB : gB G = O) (hC : gC G = O + 601024) (hS : gS G = 7293000) (hN : 301 < N) : ∃ τ1 τ2 τ3 τ4 τ5 τe, ho_al G τl 3 (.inr (7, [.null, .int 0, .int 0])) = some (τ1, O + 25) ∧ ho_cv τ1 (f_Al_init G N τ1 (O + 25)) = some τ2 ∧ ho_p τ2 O 5 5 (.ref (O + 25)) = some τ3 ∧ ho_nwR G τ3 4 (ii 8) = some (τ4, O + 26) ∧ ho_p τ4 O 5 6 (.ref (O + 26)) = some τ5 ∧ ho_it (f_Of_init_l120 G N O) N (τ5, 0) = some τe ∧ wf G τe ∧ τe.1 = O + 195 ∧ (7 ≤ τe.2.1 ∧ τe.2.1 ≤ 25000) ∧ cOf τe O 0 ∧ pls G τe (fun _ => 0) O (O + 25) [] ∧ cRa G τe O ∧ (∀ r, r < 8 → rcv G τe (fun _ => 0) O (O + 27 + 21 * r) (fun _ => none, [], [], fun _ => 0) 0) ∧ ∀ a, a < O + 25 → a ≠ O → τe.2.2 a = τl.2.2 a := by
  obtain ⟨τ1, b1, b2, b3, b4, b5, b6⟩ := new_E (n := 3) (e := .inr (7, [.null, .int 0, .int 0])) wl (by omega)
  have e1 : ho_al G τl 3 (.inr (7, [.null, .int 0, .int 0])) = some (τ1, O + 25) := by rw [al_S (by omega) (by omega), b1, zl]
  rw [zl] at b3 b5 b6
  have k1 := Al_init_S (G := G) (N := N) b5
  have k2 : wf G (ho_set τ1 (O + 25) (.inr (7, [.ref (gA G 4), .int 0, .int 0]))) := b2.set b5
  have k3 : (ho_set τ1 (O + 25) (.inr (7, [.ref (gA G 4), .int 0, .int 0]))).2.2 (O + 25) = some (.inr (7, [.ref (gA G 4), .int 0, .int 0])) := set_at
  have k4 : ∀ a, a < O + 25 → (ho_set τ1 (O + 25) (.inr (7, [.ref (gA G 4), .int 0, .int 0]))).2.2 a = τl.2.2 a := fun a ha => by rw [set_ne (by omega), b6 a ha]
  have k5 : (ho_set τ1 (O + 25) (.inr (7, [.ref (gA G 4), .int 0, .int 0]))).1 = O + 26 := b3
  have k6 : (ho_set τ1 (O + 25) (.inr (7, [.ref (gA G 4), .int 0, .int 0]))).2.1 = 2771 := by show τ1.2.1 = _; omega
  generalize ho_set τ1 (O + 25) (.inr (7, [.ref (gA G 4), .int 0, .int 0])) = τ2 at k1 k2 k3 k4 k5 k6
  have n2 : τ2.2.2 O = some (.inr (5, [.ref (O + 1), .ref (O + 2), .ref (O + 7), .ref (O + 8), .int 0, .null, .null])) := by rw [k4 _ (by omega)]; exact c0
  obtain ⟨τ3, d1, d2, d3, d4, d5, d6⟩ := set_O (j := 5) (v := O + 25) k2 n2 (show 5 < 7 by decide)
  obtain ⟨τ4, f1, f2, f3, f4, f5, f6⟩ := new_E (n := 8) (e := .inl (gc G 4, 8, .inr (.inr (.inr (.inr fun _ => none))))) d2 (by omega)
  have z3 : τ3.1 = O + 26 := by omega
  have e4 : ho_nwR G τ3 4 (ii 8) = some (τ4, O + 26) := by rw [nwR_S (by omega) (by omega) (by decide), f1, z3]
  rw [z3] at f3 f5 f6
  have n4 : τ4.2.2 O = some (.inr (5, [.ref (O + 1), .ref (O + 2), .ref (O + 7), .ref (O + 8), .int 0, .ref (O + 25), .null])) := by rw [f6 _ (by omega)]; exact d5
  obtain ⟨τ5, g1, g2, g3, g4, g5, g6⟩ := set_O (j := 6) (v := O + 26) f2 n4 (show 6 < 7 by decide)
  obtain ⟨τe, h1, h2, h3, h4, h5, h6, h7⟩ := of_120 (N := N) g2 g5 (by rw [g6 _ (by omega)]; exact f5) (by omega) (by omega) (by omega) (by omega) hN
  exact ⟨τ1, τ2, τ3, τ4, τ5, τe, e1, by rw [k1, cv_S (by omega) (by omega)], d1, e4, g1, h1, h2, h3, by omega, by show τe.2.2 O = _; rw [h7 _ (by omega)]; exact g5, ⟨gA G 4, 0, 0, fun _ => none, by rw [h7 _ (by omega), g6 _ (by omega), f6 _ (by omega), d6 _ (by omega)]; exact k3, Or.inl ⟨rfl, rfl⟩, fun i q hq => by simp at hq⟩, h5, h6, fun a q1 q2 => by rw [h7 _ (by omega), g6 _ (by omega), f6 _ (by omega), d6 _ (by omega), k4 _ (by omega)]⟩
/-- the office -/
theorem Of_init_S {σ : ho_H} {x1 x2 x3 : Int32} {v3 v4 v5 : Nat} (m1 : ∀ σ, f_Mt_floorMod G N σ x1 8 = some (ii v3)) (m2 : ∀ σ, f_Mt_floorMod G N σ x2 1000 = some (ii v4)) (m3 : ∀ σ, f_Mt_floorMod G N σ x3 10001 = some (ii v5)) (wσ : wf G σ) (c0 : σ.2.2 O = some (.inr (5, [.null, .null, .null, .null, .int 0, .null, .null]))) (zσ : σ.1 = O + 1) (yσ : σ.2.1 = 7) (hB : gB G = O) (hC : gC G = O + 601024) (hS : gS G = 7293000) (hN : 301 < N) : ∃ σ', f_Of_init G N σ O x1 x2 x3 = some σ' ∧ wf G σ' ∧ σ'.1 = O + 195 ∧ (7 ≤ σ'.2.1 ∧ σ'.2.1 ≤ 25000) ∧ cOf σ' O 0 ∧ cBf G σ' O (fun _ => 0) ∧ cCa G σ' O ∧ (∀ W, cCh G σ' O 0 W) ∧ pls G σ' (fun _ => 0) O (O + 25) [] ∧ cRa G σ' O ∧ cRc G σ' (fun _ => 0) O (fun _ => (fun _ => none, [], [], fun _ => 0)) (fun _ => 0) ∧ σ'.2.2 (O + 1) = some (.inr (0, [.int (1 + ii v3), .int (1 + ii v4), .int (ii v5), .int 0])) ∧ σ'.2.2 (O + 2) = some (.inr (1, slf (O + 2) 0)) ∧ ∀ p, 0 < p → p < 5 → σ'.2.2 (O + 2 + p) = some (.inl (gc G 0, ssz p, .inl fun _ => 0)) := by
  obtain ⟨a1, a2, a3, a4, τs, A1, A2, A3, A4, A5, A6, A7, A8, A9, A10, A11, A12⟩ := of_A (N := N) (v3 := v3) (v4 := v4) (v5 := v5) wσ c0 zσ yσ hB hC hS
  obtain ⟨b1, b2, b3, b4, b5, τl, B1, B2, B3, B4, B5, B6, B7, B8, B9, B10, ⟨fb, B11, B11b⟩, ⟨fc, B12, B12b⟩, B13, B14⟩ := of_B (N := N) A6 A7 A8 A9 hB hC hS hN
  obtain ⟨d1, d2, d3, d4, d5, τe, D1, D2, D3, D4, D5, D6, D7, D8, D9, D10, D11, D12, D13, D14⟩ := of_C (N := N) B7 B8 B9 B10 hB hC hS hN
  refine ⟨τe, ?_, D7, D8, D9, D10, ⟨fb, by rw [D14 _ (by omega) (by omega)]; exact B11, B11b⟩, ⟨fc, by rw [D14 _ (by omega) (by omega)]; exact B12, B12b⟩, fun W c hc => ⟨-1, -1, _, by rw [D14 _ (by omega) (by omega)]; exact (B13 c hc).1, by rw [D14 _ (by omega) (by omega)]; exact (B13 c hc).2, fun h => absurd h (by omega)⟩, D11, D12, D13, by rw [D14 _ (by omega) (by omega), B14 _ (by omega) (by omega)]; exact A10, by rw [D14 _ (by omega) (by omega), B14 _ (by omega) (by omega)]; exact A11, fun p p1 p2 => by rw [D14 _ (by omega) (by omega), B14 _ (by omega) (by omega)]; exact A12 p p1 p2⟩
  unfold f_Of_init
  rw [A1, bd2_S, m1, bd_S, m2, bd_S, m3, bd_S, A2, bd_S, A3, bd_S, A4, bd2_S, A5, bd_S, B1, bd_S, show (8 : Int32) = ii 8 from rfl, B2, bd2_S, B3, bd_S, B4, bd2_S, B5, bd_S, B6, bd_S, D1, bd2_S, D2, bd_S, D3, bd_S, D4, bd2_S, D5, bd_S, D6, bd_S]
end OI
