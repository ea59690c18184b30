/-! the class is made -/
def z325 : va_E := .inr (2, [.null, .int 0, .int 0])
section CI
variable {G : ho_G} {σ : ho_H} {N : Nat}
theorem Kc_init_S {a : Nat} (hw : wf G σ) (ha : σ.2.2 a = some (.inr (2, [.null, .int 0, .int 0]))) (r1 : σ.1 + 1 ≤ gC G) (r2 : σ.2.1 + 325 ≤ gS G) : f_Kc_init G N σ a = some (ho_set (new σ 325 (.inl (gc G 0, 325, .inl fun _ => 0))) a (.inr (2, [.ref σ.1, .int (-1), .int (-1)]))) := by
  have h1 := hw.lt ha
  have b1 : (new σ 325 (.inl (gc G 0, 325, .inl fun _ => 0))).2.2 a = some (.inr (2, [.null, .int 0, .int 0])) := by rw [new_ne (by omega)]; exact ha
  unfold f_Kc_init
  rw [show (325 : Int32) = ii 325 from rfl, nwI_S r1 r2 (by decide), bd2_S, c_p b1 (show 0 < 3 by decide), bd_S, c_p set_at (show 1 < 3 by decide), bd_S, set_set, c_p set_at (show 2 < 3 by decide), bd_S, set_set]
  rfl
theorem Al_init_S {a : Nat} (ha : σ.2.2 a = some (.inr (7, [.null, .int 0, .int 0]))) : f_Al_init G N σ a = some (ho_set σ a (.inr (7, [.ref (gA G 4), .int 0, .int 0]))) := by
  have e : f_Ab_init G N σ a = some (ho_set σ a (.inr (7, [.null, .int 0, .int 0]))) := by
    unfold f_Ab_init f_Ac_init
    rw [bd_S, c_p ha (show 2 < 3 by decide), bd_S]
    rfl
  unfold f_Al_init
  rw [e, cv_S (by exact Nat.le_refl _) (by exact Nat.le_refl _), bd_S, c_p set_at (show 0 < 3 by decide), bd_S, set_set]
  rfl
/-- one key chain more: its object, its words, its place in the array -/
theorem one_ch {r c : Nat} {f : Nat → Option Nat} (hw : wf G σ) (hr : σ.2.2 r = some (.inl (gc G 3, 8, .inr (.inr (.inr (.inr f)))))) (hc : c < 8) (r1 : σ.1 + 2 ≤ gC G) (r2 : σ.2.1 + 328 ≤ gS G) (hB : gB G ≤ σ.1) : ∃ σ1 σ2, ho_al G σ 3 (.inr (2, [.null, .int 0, .int 0])) = some (new σ 3 (.inr (2, [.null, .int 0, .int 0])), σ.1) ∧ ho_cv (new σ 3 (.inr (2, [.null, .int 0, .int 0]))) (f_Kc_init G N (new σ 3 (.inr (2, [.null, .int 0, .int 0]))) σ.1) = some σ1 ∧ (∃ fs, ho_f σ1 σ.1 2 = some fs) ∧ ho_stR G σ1 r 3 (ii c) (some σ.1) = some σ2 ∧ wf G σ2 ∧ σ2.1 = σ.1 + 2 ∧ σ2.2.1 = σ.2.1 + 328 ∧ σ2.2.2 r = some (.inl (gc G 3, 8, .inr (.inr (.inr (.inr (va_up f c (some σ.1))))))) ∧ σ2.2.2 σ.1 = some (.inr (2, [.ref (σ.1 + 1), .int (-1), .int (-1)])) ∧ σ2.2.2 (σ.1 + 1) = some (.inl (gc G 0, 325, .inl fun _ => 0)) ∧ ∀ a, a < σ.1 → a ≠ r → σ2.2.2 a = σ.2.2 a := by
  have hrl := hw.lt hr
  have w1 : wf G (new σ 3 (.inr (2, [.null, .int 0, .int 0]))) := hw.new hB
  have k := Kc_init_S (N := N) w1 new_at (show σ.1 + 1 + 1 ≤ gC G by omega) (show σ.2.1 + 3 + 325 ≤ gS G by omega)
  have fs : (new σ 3 (.inr (2, [.null, .int 0, .int 0]))).1 = σ.1 + 1 := rfl
  generalize hσ1 : ho_set (new (new σ 3 (.inr (2, [.null, .int 0, .int 0]))) 325 (.inl (gc G 0, 325, .inl fun _ => 0))) σ.1 (.inr (2, [.ref (new σ 3 (.inr (2, [.null, .int 0, .int 0]))).1, .int (-1), .int (-1)])) = σ1 at k
  have z1 : σ1.1 = σ.1 + 2 := by rw [← hσ1]; rfl
  have z2 : σ1.2.1 = σ.2.1 + 328 := by rw [← hσ1]; rfl
  have c1 : σ1.2.2 σ.1 = some (.inr (2, [.ref (σ.1 + 1), .int (-1), .int (-1)])) := by rw [← hσ1]; exact set_at
  have c2 : σ1.2.2 (σ.1 + 1) = some (.inl (gc G 0, 325, .inl fun _ => 0)) := by rw [← hσ1, set_ne (by omega)]; exact new_at
  have c3 : ∀ a, a < σ.1 → σ1.2.2 a = σ.2.2 a := fun a ha => by rw [← hσ1, set_ne (by omega), new_ne (by rw [fs]; omega), new_ne (by omega)]
  have w2 : wf G σ1 := by rw [← hσ1]; exact (w1.new (by rw [fs]; omega)).set (by rw [new_ne (by rw [fs]; omega)]; exact new_at)
  have cr : σ1.2.2 r = some (.inl (gc G 3, 8, .inr (.inr (.inr (.inr f))))) := by rw [c3 r hrl]; exact hr
  refine ⟨σ1, _, al_S (by omega) (by omega), by rw [k, cv_S (by rw [fs]; omega) (by show σ.2.1 + 3 ≤ _; omega)], ⟨_, c_f c1⟩, c_stR cr hc (by omega), w2.set cr, z1, z2, set_at, by rw [set_ne (by omega)]; exact c1, by rw [set_ne (by omega)]; exact c2, fun a h1 h2 => by rw [set_ne h2, c3 a h1]⟩
theorem of_70 {a0 r : Nat} {fs : List Value} {f : Nat → Option Nat} (hw : wf G σ) (ha : σ.2.2 a0 = some (.inr (5, fs))) (hfs : fs[3]? = some (.ref r)) (hr : σ.2.2 r = some (.inl (gc G 3, 8, .inr (.inr (.inr (.inr f)))))) (r1 : σ.1 + 16 ≤ gC G) (r2 : σ.2.1 + 2624 ≤ gS G) (hB : gB G ≤ σ.1) (hN : 301 < N) : ∃ σ', ho_it (f_Of_init_l70 G N a0) N (σ, 0) = some σ' ∧ wf G σ' ∧ σ'.1 = σ.1 + 16 ∧ σ'.2.1 = σ.2.1 + 2624 ∧ (∃ f, σ'.2.2 r = some (.inl (gc G 3, 8, .inr (.inr (.inr (.inr f))))) ∧ ∀ c, c < 8 → f c = some (σ.1 + 2 * c)) ∧ (∀ c, c < 8 → σ'.2.2 (σ.1 + 2 * c) = some (.inr (2, [.ref (σ.1 + 2 * c + 1), .int (-1), .int (-1)])) ∧ σ'.2.2 (σ.1 + 2 * c + 1) = some (.inl (gc G 0, 325, .inl fun _ => 0))) ∧ ∀ a, a < σ.1 → a ≠ r → σ'.2.2 a = σ.2.2 a := by
  have hne : a0 ≠ r := fun e => by rw [e, hr] at ha; cases ha
  have hal := hw.lt ha
  have hrl := hw.lt hr
  refine it_ex 8 (fun c s => ∃ σ1, s = (σ1, ii c) ∧ wf G σ1 ∧ σ1.1 = σ.1 + 2 * c ∧ σ1.2.1 = 328 * c + σ.2.1 ∧ (∃ f, σ1.2.2 r = some (.inl (gc G 3, 8, .inr (.inr (.inr (.inr f))))) ∧ ∀ c', c' < c → f c' = some (σ.1 + 2 * c')) ∧ (∀ c', c' < c → σ1.2.2 (σ.1 + 2 * c') = some (.inr (2, [.ref (σ.1 + 2 * c' + 1), .int (-1), .int (-1)])) ∧ σ1.2.2 (σ.1 + 2 * c' + 1) = some (.inl (gc G 0, 325, .inl fun _ => 0))) ∧ ∀ a, a < σ.1 → a ≠ r → σ1.2.2 a = σ.2.2 a) _ ?_ ?_ (by omega) ⟨σ, rfl, hw, rfl, by omega, ⟨f, hr, fun _ h => absurd h (by omega)⟩, fun _ h => absurd h (by omega), fun _ _ _ => rfl⟩
  · rintro c s hc ⟨σ1, rfl, p1, p2, p3, ⟨f1, p4, p5⟩, p6, p7⟩
    obtain ⟨σ2, σ3, q1, q2, ⟨fs2, q3⟩, q4, q5, q6, q7, q8, q9, q10, q11⟩ := one_ch (N := N) p1 p4 hc (by omega) (by omega) (by omega)
    have ca : σ1.2.2 a0 = some (.inr (5, fs)) := by rw [p7 a0 hal hne]; exact ha
    refine ⟨(σ3, ii (c + 1)), ?_, σ3, rfl, q5, by omega, by omega, ⟨_, q8, fun c' h => ?_⟩, fun c' h => ?_, fun a h1 h2 => by rw [q11 a (by omega) h2, p7 a h1 h2]⟩
    · unfold f_Of_init_l70
      dsimp only
      rw [if_neg (by rw [show (8 : Int32) = ii 8 from rfl, ii_le (by decide) (by omega)]; omega), c_R ca hfs, bd_S, q1, bd2_S, q2, bd_S, q3, bd_S, q4, bd_S, ii_1]
    · unfold va_up
      by_cases e : c' = c
      · rw [if_pos e, e, p2]
      · rw [if_neg e]
        exact p5 c' (by omega)
    · by_cases e : c' = c
      · rw [e, ← p2]
        exact ⟨q9, q10⟩
      · have y := p6 c' (by omega)
        rw [q11 _ (by omega) (by omega), q11 _ (by omega) (by omega)]
        exact y
  · rintro s ⟨σ1, rfl, p1, p2, p3, p4, p6, p7⟩
    refine ⟨σ1, ?_, p1, p2, by omega, p4, p6, p7⟩
    unfold f_Of_init_l70
    dsimp only
    rw [if_pos (by decide)]
theorem rc_55 {a0 r : Nat} {fs : List Value} {f : Nat → Option Nat} (hw : wf G σ) (ha : σ.2.2 a0 = some (.inr (4, fs))) (hfs : fs[2]? = some (.ref r)) (hr : σ.2.2 r = some (.inl (gc G 3, 8, .inr (.inr (.inr (.inr f)))))) (r1 : σ.1 + 16 ≤ gC G) (r2 : σ.2.1 + 2624 ≤ gS G) (hB : gB G ≤ σ.1) (hN : 301 < N) : ∃ σ', ho_it (f_Rc_init_l55 G N a0) N (σ, 0) = some σ' ∧ wf G σ' ∧ σ'.1 = σ.1 + 16 ∧ σ'.2.1 = σ.2.1 + 2624 ∧ (∃ f, σ'.2.2 r = some (.inl (gc G 3, 8, .inr (.inr (.inr (.inr f))))) ∧ ∀ c, c < 8 → f c = some (σ.1 + 2 * c)) ∧ (∀ c, c < 8 → σ'.2.2 (σ.1 + 2 * c) = some (.inr (2, [.ref (σ.1 + 2 * c + 1), .int (-1), .int (-1)])) ∧ σ'.2.2 (σ.1 + 2 * c + 1) = some (.inl (gc G 0, 325, .inl fun _ => 0))) ∧ ∀ a, a < σ.1 → a ≠ r → σ'.2.2 a = σ.2.2 a := by
  have hne : a0 ≠ r := fun e => by rw [e, hr] at ha; cases ha
  have hal := hw.lt ha
  have hrl := hw.lt hr
  refine it_ex 8 (fun c s => ∃ σ1, s = (σ1, ii c) ∧ wf G σ1 ∧ σ1.1 = σ.1 + 2 * c ∧ σ1.2.1 = 328 * c + σ.2.1 ∧ (∃ f, σ1.2.2 r = some (.inl (gc G 3, 8, .inr (.inr (.inr (.inr f))))) ∧ ∀ c', c' < c → f c' = some (σ.1 + 2 * c')) ∧ (∀ c', c' < c → σ1.2.2 (σ.1 + 2 * c') = some (.inr (2, [.ref (σ.1 + 2 * c' + 1), .int (-1), .int (-1)])) ∧ σ1.2.2 (σ.1 + 2 * c' + 1) = some (.inl (gc G 0, 325, .inl fun _ => 0))) ∧ ∀ a, a < σ.1 → a ≠ r → σ1.2.2 a = σ.2.2 a) _ ?_ ?_ (by omega) ⟨σ, rfl, hw, rfl, by omega, ⟨f, hr, fun _ h => absurd h (by omega)⟩, fun _ h => absurd h (by omega), fun _ _ _ => rfl⟩
  · rintro c s hc ⟨σ1, rfl, p1, p2, p3, ⟨f1, p4, p5⟩, p6, p7⟩
    obtain ⟨σ2, σ3, q1, q2, ⟨fs2, q3⟩, q4, q5, q6, q7, q8, q9, q10, q11⟩ := one_ch (N := N) p1 p4 hc (by omega) (by omega) (by omega)
    have ca : σ1.2.2 a0 = some (.inr (4, fs)) := by rw [p7 a0 hal hne]; exact ha
    refine ⟨(σ3, ii (c + 1)), ?_, σ3, rfl, q5, by omega, by omega, ⟨_, q8, fun c' h => ?_⟩, fun c' h => ?_, fun a h1 h2 => by rw [q11 a (by omega) h2, p7 a h1 h2]⟩
    · unfold f_Rc_init_l55
      dsimp only
      rw [if_neg (by rw [show (8 : Int32) = ii 8 from rfl, ii_le (by decide) (by omega)]; omega), c_R ca hfs, bd_S, q1, bd2_S, q2, bd_S, q3, bd_S, q4, bd_S, ii_1]
    · unfold va_up
      by_cases e : c' = c
      · rw [if_pos e, e, p2]
      · rw [if_neg e]
        exact p5 c' (by omega)
    · by_cases e : c' = c
      · rw [e, ← p2]
        exact ⟨q9, q10⟩
      · have y := p6 c' (by omega)
        rw [q11 _ (by omega) (by omega), q11 _ (by omega) (by omega)]
        exact y
  · rintro s ⟨σ1, rfl, p1, p2, p3, p4, p6, p7⟩
    refine ⟨σ1, ?_, p1, p2, by omega, p4, p6, p7⟩
    unfold f_Rc_init_l55
    dsimp only
    rw [if_pos (by decide)]
/-- a new receiver -/
theorem Rc_init_S {b k s : Nat} (hw : wf G σ) (hb : σ.2.2 b = some (.inr (4, [.null, .null, .null, .null, .null, .null, .int 0, .int 0]))) (hs : σ.1 = b + 1) (r1 : σ.1 + 20 ≤ gC G) (r2 : σ.2.1 + 2700 ≤ gS G) (hB : gB G ≤ b) (hN : 301 < N) : ∃ σ', f_Rc_init G N σ b k s = some σ' ∧ wf G σ' ∧ σ'.1 = b + 21 ∧ σ'.2.1 = σ.2.1 + 2645 ∧ σ'.2.2 b = some (.inr (4, [.ref k, .ref s, .ref (b + 1), .ref (b + 2), .ref (b + 3), .ref (b + 4), .int 0, .int 0])) ∧ (∃ f, σ'.2.2 (b + 1) = some (.inl (gc G 3, 8, .inr (.inr (.inr (.inr f))))) ∧ ∀ c, c < 8 → f c = some (b + 5 + 2 * c)) ∧ σ'.2.2 (b + 2) = some (.inr (7, [.ref (gA G 4), .int 0, .int 0])) ∧ σ'.2.2 (b + 3) = some (.inr (7, [.ref (gA G 4), .int 0, .int 0])) ∧ σ'.2.2 (b + 4) = some (.inl (gc G 0, 7, .inl fun _ => 0)) ∧ (∀ c, c < 8 → σ'.2.2 (b + 5 + 2 * c) = some (.inr (2, [.ref (b + 6 + 2 * c), .int (-1), .int (-1)])) ∧ σ'.2.2 (b + 6 + 2 * c) = some (.inl (gc G 0, 325, .inl fun _ => 0))) ∧ ∀ a, a < b → σ'.2.2 a = σ.2.2 a := by
  -- the array
  have e1 : ho_nwR G σ 3 8 = some (new σ 8 (.inl (gc G 3, 8, .inr (.inr (.inr (.inr fun _ => none))))), b + 1) := by
    rw [show (8 : Int32) = ii 8 from rfl, nwR_S (by omega) (by omega) (by decide), hs]
  have w1 : wf G (new σ 8 (.inl (gc G 3, 8, .inr (.inr (.inr (.inr fun _ => none)))))) := hw.new (by omega)
  have a1 : (new σ 8 (.inl (gc G 3, 8, .inr (.inr (.inr (.inr fun _ => none)))))).2.2 (b + 1) = some (.inl (gc G 3, 8, .inr (.inr (.inr (.inr fun _ => none))))) := by rw [← hs]; exact new_at
  have b1 : (new σ 8 (.inl (gc G 3, 8, .inr (.inr (.inr (.inr fun _ => none)))))).2.2 b = some (.inr (4, [.null, .null, .null, .null, .null, .null, .int 0, .int 0])) := by rw [new_ne (by omega)]; exact hb
  have o1 : ∀ a, a < b → (new σ 8 (.inl (gc G 3, 8, .inr (.inr (.inr (.inr fun _ => none)))))).2.2 a = σ.2.2 a := fun a ha => new_ne (by omega)
  have z1 : (new σ 8 (.inl (gc G 3, 8, .inr (.inr (.inr (.inr fun _ => none)))))).1 = b + 2 := by show σ.1 + 1 = _; omega
  have y1 : (new σ 8 (.inl (gc G 3, 8, .inr (.inr (.inr (.inr fun _ => none)))))).2.1 = σ.2.1 + 8 := rfl
  generalize new σ 8 (.inl (gc G 3, 8, .inr (.inr (.inr (.inr fun _ => none))))) = σ1 at *
  have p2 : ho_p σ1 b 4 2 (.ref (b + 1)) = some (ho_set σ1 b (.inr (4, [.null, .null, .ref (b + 1), .null, .null, .null, .int 0, .int 0]))) := c_p b1 (show 2 < 8 by decide)
  have w2 := w1.set (e := .inr (4, [.null, .null, .ref (b + 1), .null, .null, .null, .int 0, .int 0])) b1
  have a2 : (ho_set σ1 b (.inr (4, [.null, .null, .ref (b + 1), .null, .null, .null, .int 0, .int 0]))).2.2 (b + 1) = some (.inl (gc G 3, 8, .inr (.inr (.inr (.inr fun _ => none))))) := by rw [set_ne (by omega)]; exact a1
  have b2 : (ho_set σ1 b (.inr (4, [.null, .null, .ref (b + 1), .null, .null, .null, .int 0, .int 0]))).2.2 b = some (.inr (4, [.null, .null, .ref (b + 1), .null, .null, .null, .int 0, .int 0])) := set_at
  have o2 : ∀ a, a < b → (ho_set σ1 b (.inr (4, [.null, .null, .ref (b + 1), .null, .null, .null, .int 0, .int 0]))).2.2 a = σ.2.2 a := fun a ha => by rw [set_ne (by omega), o1 a ha]
  have z2 : (ho_set σ1 b (.inr (4, [.null, .null, .ref (b + 1), .null, .null, .null, .int 0, .int 0]))).1 = b + 2 := z1
  have y2 : (ho_set σ1 b (.inr (4, [.null, .null, .ref (b + 1), .null, .null, .null, .int 0, .int 0]))).2.1 = σ.2.1 + 8 := y1
  generalize ho_set σ1 b (.inr (4, [.null, .null, .ref (b + 1), .null, .null, .null, .int 0, .int 0])) = σ2 at *
  -- the list of held ones
  have e3 : ho_al G σ2 3 (.inr (7, [.null, .int 0, .int 0])) = some (new σ2 3 (.inr (7, [.null, .int 0, .int 0])), b + 2) := by rw [al_S (by omega) (by omega), z2]
  have i3 := Al_init_S (G := G) (N := N) (σ := new σ2 3 (.inr (7, [.null, .int 0, .int 0]))) (a := b + 2) (by rw [← z2]; exact new_at)
  have w3 : wf G (ho_set (new σ2 3 (.inr (7, [.null, .int 0, .int 0]))) (b + 2) (.inr (7, [.ref (gA G 4), .int 0, .int 0]))) := (w2.new (by omega)).set (by rw [← z2]; exact new_at)
  have a3 : (ho_set (new σ2 3 (.inr (7, [.null, .int 0, .int 0]))) (b + 2) (.inr (7, [.ref (gA G 4), .int 0, .int 0]))).2.2 (b + 1) = some (.inl (gc G 3, 8, .inr (.inr (.inr (.inr fun _ => none))))) := by rw [set_ne (by omega), new_ne (by omega)]; exact a2
  have b3 : (ho_set (new σ2 3 (.inr (7, [.null, .int 0, .int 0]))) (b + 2) (.inr (7, [.ref (gA G 4), .int 0, .int 0]))).2.2 b = some (.inr (4, [.null, .null, .ref (b + 1), .null, .null, .null, .int 0, .int 0])) := by rw [set_ne (by omega), new_ne (by omega)]; exact b2
  have l3 : (ho_set (new σ2 3 (.inr (7, [.null, .int 0, .int 0]))) (b + 2) (.inr (7, [.ref (gA G 4), .int 0, .int 0]))).2.2 (b + 2) = some (.inr (7, [.ref (gA G 4), .int 0, .int 0])) := set_at
  have o3 : ∀ a, a < b → (ho_set (new σ2 3 (.inr (7, [.null, .int 0, .int 0]))) (b + 2) (.inr (7, [.ref (gA G 4), .int 0, .int 0]))).2.2 a = σ.2.2 a := fun a ha => by rw [set_ne (by omega), new_ne (by omega), o2 a ha]
  have z3 : (ho_set (new σ2 3 (.inr (7, [.null, .int 0, .int 0]))) (b + 2) (.inr (7, [.ref (gA G 4), .int 0, .int 0]))).1 = b + 3 := by show σ2.1 + 1 = _; omega
  have y3 : (ho_set (new σ2 3 (.inr (7, [.null, .int 0, .int 0]))) (b + 2) (.inr (7, [.ref (gA G 4), .int 0, .int 0]))).2.1 = σ.2.1 + 11 := by show σ2.2.1 + 3 = _; omega
  have f3 : ho_cv (new σ2 3 (.inr (7, [.null, .int 0, .int 0]))) (f_Al_init G N (new σ2 3 (.inr (7, [.null, .int 0, .int 0]))) (b + 2)) = some (ho_set (new σ2 3 (.inr (7, [.null, .int 0, .int 0]))) (b + 2) (.inr (7, [.ref (gA G 4), .int 0, .int 0]))) := by rw [i3, cv_S (by exact Nat.le_refl _) (by exact Nat.le_refl _)]
  generalize ho_set (new σ2 3 (.inr (7, [.null, .int 0, .int 0]))) (b + 2) (.inr (7, [.ref (gA G 4), .int 0, .int 0])) = σ3 at *
  have p4 : ho_p σ3 b 4 3 (.ref (b + 2)) = some (ho_set σ3 b (.inr (4, [.null, .null, .ref (b + 1), .ref (b + 2), .null, .null, .int 0, .int 0]))) := c_p b3 (show 3 < 8 by decide)
  have w4 := w3.set (e := .inr (4, [.null, .null, .ref (b + 1), .ref (b + 2), .null, .null, .int 0, .int 0])) b3
  have a4 : (ho_set σ3 b (.inr (4, [.null, .null, .ref (b + 1), .ref (b + 2), .null, .null, .int 0, .int 0]))).2.2 (b + 1) = some (.inl (gc G 3, 8, .inr (.inr (.inr (.inr fun _ => none))))) := by rw [set_ne (by omega)]; exact a3
  have b4 : (ho_set σ3 b (.inr (4, [.null, .null, .ref (b + 1), .ref (b + 2), .null, .null, .int 0, .int 0]))).2.2 b = some (.inr (4, [.null, .null, .ref (b + 1), .ref (b + 2), .null, .null, .int 0, .int 0])) := set_at
  have l4 : (ho_set σ3 b (.inr (4, [.null, .null, .ref (b + 1), .ref (b + 2), .null, .null, .int 0, .int 0]))).2.2 (b + 2) = some (.inr (7, [.ref (gA G 4), .int 0, .int 0])) := by rw [set_ne (by omega)]; exact l3
  have o4 : ∀ a, a < b → (ho_set σ3 b (.inr (4, [.null, .null, .ref (b + 1), .ref (b + 2), .null, .null, .int 0, .int 0]))).2.2 a = σ.2.2 a := fun a ha => by rw [set_ne (by omega), o3 a ha]
  have z4 : (ho_set σ3 b (.inr (4, [.null, .null, .ref (b + 1), .ref (b + 2), .null, .null, .int 0, .int 0]))).1 = b + 3 := z3
  have y4 : (ho_set σ3 b (.inr (4, [.null, .null, .ref (b + 1), .ref (b + 2), .null, .null, .int 0, .int 0]))).2.1 = σ.2.1 + 11 := y3
  generalize ho_set σ3 b (.inr (4, [.null, .null, .ref (b + 1), .ref (b + 2), .null, .null, .int 0, .int 0])) = σ4 at *
  -- the list of kept ones
  have e5 : ho_al G σ4 3 (.inr (7, [.null, .int 0, .int 0])) = some (new σ4 3 (.inr (7, [.null, .int 0, .int 0])), b + 3) := by rw [al_S (by omega) (by omega), z4]
  have i5 := Al_init_S (G := G) (N := N) (σ := new σ4 3 (.inr (7, [.null, .int 0, .int 0]))) (a := b + 3) (by rw [← z4]; exact new_at)
  have w5 : wf G (ho_set (new σ4 3 (.inr (7, [.null, .int 0, .int 0]))) (b + 3) (.inr (7, [.ref (gA G 4), .int 0, .int 0]))) := (w4.new (by omega)).set (by rw [← z4]; exact new_at)
  have a5 : (ho_set (new σ4 3 (.inr (7, [.null, .int 0, .int 0]))) (b + 3) (.inr (7, [.ref (gA G 4), .int 0, .int 0]))).2.2 (b + 1) = some (.inl (gc G 3, 8, .inr (.inr (.inr (.inr fun _ => none))))) := by rw [set_ne (by omega), new_ne (by omega)]; exact a4
  have b5 : (ho_set (new σ4 3 (.inr (7, [.null, .int 0, .int 0]))) (b + 3) (.inr (7, [.ref (gA G 4), .int 0, .int 0]))).2.2 b = some (.inr (4, [.null, .null, .ref (b + 1), .ref (b + 2), .null, .null, .int 0, .int 0])) := by rw [set_ne (by omega), new_ne (by omega)]; exact b4
  have l5 : (ho_set (new σ4 3 (.inr (7, [.null, .int 0, .int 0]))) (b + 3) (.inr (7, [.ref (gA G 4), .int 0, .int 0]))).2.2 (b + 2) = some (.inr (7, [.ref (gA G 4), .int 0, .int 0])) := by rw [set_ne (by omega), new_ne (by omega)]; exact l4
  have k5 : (ho_set (new σ4 3 (.inr (7, [.null, .int 0, .int 0]))) (b + 3) (.inr (7, [.ref (gA G 4), .int 0, .int 0]))).2.2 (b + 3) = some (.inr (7, [.ref (gA G 4), .int 0, .int 0])) := set_at
  have o5 : ∀ a, a < b → (ho_set (new σ4 3 (.inr (7, [.null, .int 0, .int 0]))) (b + 3) (.inr (7, [.ref (gA G 4), .int 0, .int 0]))).2.2 a = σ.2.2 a := fun a ha => by rw [set_ne (by omega), new_ne (by omega), o4 a ha]
  have z5 : (ho_set (new σ4 3 (.inr (7, [.null, .int 0, .int 0]))) (b + 3) (.inr (7, [.ref (gA G 4), .int 0, .int 0]))).1 = b + 4 := by show σ4.1 + 1 = _; omega
  have y5 : (ho_set (new σ4 3 (.inr (7, [.null, .int 0, .int 0]))) (b + 3) (.inr (7, [.ref (gA G 4), .int 0, .int 0]))).2.1 = σ.2.1 + 14 := by show σ4.2.1 + 3 = _; omega
  have f5 : ho_cv (new σ4 3 (.inr (7, [.null, .int 0, .int 0]))) (f_Al_init G N (new σ4 3 (.inr (7, [.null, .int 0, .int 0]))) (b + 3)) = some (ho_set (new σ4 3 (.inr (7, [.null, .int 0, .int 0]))) (b + 3) (.inr (7, [.ref (gA G 4), .int 0, .int 0]))) := by rw [i5, cv_S (by exact Nat.le_refl _) (by exact Nat.le_refl _)]
  generalize ho_set (new σ4 3 (.inr (7, [.null, .int 0, .int 0]))) (b + 3) (.inr (7, [.ref (gA G 4), .int 0, .int 0])) = σ5 at *
  have p6 : ho_p σ5 b 4 4 (.ref (b + 3)) = some (ho_set σ5 b (.inr (4, [.null, .null, .ref (b + 1), .ref (b + 2), .ref (b + 3), .null, .int 0, .int 0]))) := c_p b5 (show 4 < 8 by decide)
  -- the counts
  have e7 : ho_nwI G (ho_set σ5 b (.inr (4, [.null, .null, .ref (b + 1), .ref (b + 2), .ref (b + 3), .null, .int 0, .int 0]))) 7 = some (new (ho_set σ5 b (.inr (4, [.null, .null, .ref (b + 1), .ref (b + 2), .ref (b + 3), .null, .int 0, .int 0]))) 7 (.inl (gc G 0, 7, .inl fun _ => 0)), b + 4) := by
    rw [show (7 : Int32) = ii 7 from rfl, nwI_S (by show σ5.1 + 1 ≤ _; omega) (by show σ5.2.1 + 7 ≤ _; omega) (by decide), show (ho_set σ5 b (.inr (4, [.null, .null, .ref (b + 1), .ref (b + 2), .ref (b + 3), .null, .int 0, .int 0]))).1 = b + 4 from z5]
  have w7 : wf G (new (ho_set σ5 b (.inr (4, [.null, .null, .ref (b + 1), .ref (b + 2), .ref (b + 3), .null, .int 0, .int 0]))) 7 (.inl (gc G 0, 7, .inl fun _ => 0))) := (w5.set b5).new (by show gB G ≤ σ5.1; omega)
  have s7 : (ho_set σ5 b (.inr (4, [.null, .null, .ref (b + 1), .ref (b + 2), .ref (b + 3), .null, .int 0, .int 0]))).1 = b + 4 := z5
  have b7 : (new (ho_set σ5 b (.inr (4, [.null, .null, .ref (b + 1), .ref (b + 2), .ref (b + 3), .null, .int 0, .int 0]))) 7 (.inl (gc G 0, 7, .inl fun _ => 0))).2.2 b = some (.inr (4, [.null, .null, .ref (b + 1), .ref (b + 2), .ref (b + 3), .null, .int 0, .int 0])) := by rw [new_ne (by omega)]; exact set_at
  have q7 : ∀ a, a < b + 4 → a ≠ b → (new (ho_set σ5 b (.inr (4, [.null, .null, .ref (b + 1), .ref (b + 2), .ref (b + 3), .null, .int 0, .int 0]))) 7 (.inl (gc G 0, 7, .inl fun _ => 0))).2.2 a = σ5.2.2 a := fun a h1 h2 => by rw [new_ne (by omega), set_ne h2]
  have c7 : (new (ho_set σ5 b (.inr (4, [.null, .null, .ref (b + 1), .ref (b + 2), .ref (b + 3), .null, .int 0, .int 0]))) 7 (.inl (gc G 0, 7, .inl fun _ => 0))).2.2 (b + 4) = some (.inl (gc G 0, 7, .inl fun _ => 0)) := by rw [← s7]; exact new_at
  have z7 : (new (ho_set σ5 b (.inr (4, [.null, .null, .ref (b + 1), .ref (b + 2), .ref (b + 3), .null, .int 0, .int 0]))) 7 (.inl (gc G 0, 7, .inl fun _ => 0))).1 = b + 5 := by show σ5.1 + 1 = _; omega
  have y7 : (new (ho_set σ5 b (.inr (4, [.null, .null, .ref (b + 1), .ref (b + 2), .ref (b + 3), .null, .int 0, .int 0]))) 7 (.inl (gc G 0, 7, .inl fun _ => 0))).2.1 = σ.2.1 + 21 := by show σ5.2.1 + 7 = _; omega
  generalize new (ho_set σ5 b (.inr (4, [.null, .null, .ref (b + 1), .ref (b + 2), .ref (b + 3), .null, .int 0, .int 0]))) 7 (.inl (gc G 0, 7, .inl fun _ => 0)) = σ7 at *
  have p8 : ho_p σ7 b 4 5 (.ref (b + 4)) = some (ho_set σ7 b (.inr (4, [.null, .null, .ref (b + 1), .ref (b + 2), .ref (b + 3), .ref (b + 4), .int 0, .int 0]))) := c_p b7 (show 5 < 8 by decide)
  have p9 : ho_p (ho_set σ7 b (.inr (4, [.null, .null, .ref (b + 1), .ref (b + 2), .ref (b + 3), .ref (b + 4), .int 0, .int 0]))) b 4 0 (.ref k) = some (ho_set σ7 b (.inr (4, [.ref k, .null, .ref (b + 1), .ref (b + 2), .ref (b + 3), .ref (b + 4), .int 0, .int 0]))) := by rw [c_p set_at (show 0 < 8 by decide), set_set]; rfl
  have p10 : ho_p (ho_set σ7 b (.inr (4, [.ref k, .null, .ref (b + 1), .ref (b + 2), .ref (b + 3), .ref (b + 4), .int 0, .int 0]))) b 4 1 (.ref s) = some (ho_set σ7 b (.inr (4, [.ref k, .ref s, .ref (b + 1), .ref (b + 2), .ref (b + 3), .ref (b + 4), .int 0, .int 0]))) := by rw [c_p set_at (show 1 < 8 by decide), set_set]; rfl
  obtain ⟨σ8, g1, g2, g3, g4, g5, g6, g7⟩ := rc_55 (N := N) (σ := ho_set σ7 b (.inr (4, [.ref k, .ref s, .ref (b + 1), .ref (b + 2), .ref (b + 3), .ref (b + 4), .int 0, .int 0]))) (a0 := b) (r := b + 1) (w7.set b7) set_at rfl (by rw [set_ne (by omega), q7 _ (by omega) (by omega)]; exact a5) (by show σ7.1 + 16 ≤ _; omega) (by show σ7.2.1 + 2624 ≤ _; omega) (by show gB G ≤ σ7.1; omega) hN
  have s8 : (ho_set σ7 b (.inr (4, [.ref k, .ref s, .ref (b + 1), .ref (b + 2), .ref (b + 3), .ref (b + 4), .int 0, .int 0]))).1 = b + 5 := z7
  have y8 : (ho_set σ7 b (.inr (4, [.ref k, .ref s, .ref (b + 1), .ref (b + 2), .ref (b + 3), .ref (b + 4), .int 0, .int 0]))).2.1 = σ.2.1 + 21 := y7
  rw [s8] at g3 g5 g6 g7
  refine ⟨σ8, ?_, g2, by omega, by omega, ?_, ?_, ?_, ?_, ?_, fun c hc => ?_, fun a ha => ?_⟩
  · unfold f_Rc_init
    rw [e1, bd2_S, p2, bd_S, e3, bd2_S, f3, bd_S, p4, bd_S, e5, bd2_S, f5, bd_S, p6, bd_S, e7, bd2_S, p8, bd_S, p9, bd_S, p10, bd_S, g1, bd_S]
  · rw [g7 b (by omega) (by omega)]
    exact set_at
  · exact g5
  · rw [g7 _ (by omega) (by omega), set_ne (by omega), q7 _ (by omega) (by omega)]
    exact l5
  · rw [g7 _ (by omega) (by omega), set_ne (by omega), q7 _ (by omega) (by omega)]
    exact k5
  · rw [g7 _ (by omega) (by omega), set_ne (by omega)]
    exact c7
  · have y := g6 c hc
    rw [show b + 5 + 2 * c + 1 = b + 6 + 2 * c by omega] at y
    exact y
  · rw [g7 _ (by omega) (by omega), set_ne (by omega), q7 _ (by omega) (by omega), o5 a ha]
end CI
