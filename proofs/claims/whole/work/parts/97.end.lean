/-! the law answers 1 -/
section EN
variable {G : ho_G} {σ : ho_H} {N M b L k : Nat} {xs : Nat → Int32} {fs : List Value} {X : Nat → va_E}
theorem cell_S (hw : wf G σ) (hb : b < gB G) (hx : gR G b = some (L, xs)) (hL : L ≤ 3075) (hk : k < 3) : f_Lw_cell G N σ b (ii k) = some (if k < L then xs k else 0) := by
  unfold f_Lw_cell f_Lw_cell_j13
  rw [scr_ln hw hb hx, bd_S]
  by_cases h : k < L
  · rw [if_neg (by rw [ii_le (by omega) (by omega)]; omega), scr_ld hw hb hx h hL, bd_S, if_pos h]
  · rw [if_pos (by rw [ii_le (by omega) (by omega)]; omega), if_neg h]
theorem hb_0 (h : σ.1 = M) : new σ 40 (.inr (6, fs)) = hb σ M fs 0 X (σ.2.1 + 40) := by
  show ((σ.1 + 1, σ.2.1 + 40, fun q => if q = σ.1 then some (.inr (6, fs)) else σ.2.2 q) : ho_H) = (M + 1 + 0, σ.2.1 + 40, fun a => if a = M then some (.inr (6, fs)) else if M < a ∧ a ≤ M + 0 then some (X (a - M - 1)) else σ.2.2 a)
  have e : (fun q => if q = σ.1 then some (.inr (6, fs)) else σ.2.2 q) = fun a => if a = M then some (.inr (6, fs)) else if M < a ∧ a ≤ M + 0 then some (X (a - M - 1)) else σ.2.2 a := by
    funext a
    rw [h]
    by_cases h1 : a = M
    · rw [if_pos h1, if_pos h1]
    · rw [if_neg h1, if_neg h1, if_neg (by omega)]
  rw [e, h]
end EN
theorem start_mdl {a b c : Nat} : mdl (mI0 (1 + ii a) (1 + ii b) (ii c)) mA0 (1 + ii a, 1 + ii b, ii c, 0) 0 (fun _ => 0) (fun _ _ => 0) [] (fun _ => (fun _ => none, [], [], fun _ => 0)) (fun _ => 0) := by
  refine ⟨⟨mt0_S, mt1_S⟩, ⟨rfl, rfl, rfl, rfl⟩, rfl, rfl, fun _ _ => rfl, fun c h => absurd h (by omega), fun p q hq => by simp at hq, fun r hr => ⟨rfl, fun c hc => rfl, ⟨rfl, fun k q hq => by simp at hq⟩, ⟨rfl, fun k q hq => by simp at hq⟩, fun j hj => rfl⟩⟩
theorem start_rs : rsV ((fun _ => none, [], [], fun _ => 0) : RS) := ⟨fun c fi v K h => (by cases h), fun i q hq => by simp at hq, by simp, fun i q hq => by simp at hq⟩
theorem start_inv {a b c : Nat} (ha : a < 8) (hb : b < 1000) (hc : c < 10001) : inv (1 + ii a, 1 + ii b, ii c, 0) 0 [] (fun _ => (fun _ => none, [], [], fun _ => 0)) 0 := by
  have hck : ckV (1 + ii a, 1 + ii b, ii c, 0) (1 + a) (1 + b) c 0 := by
    refine ⟨?_, by omega, by omega, by omega, by omega, by omega, by rw [Nat.zero_div]; omega⟩
    rw [← ii_add 1 a, ← ii_add 1 b]
    rfl
  exact ⟨⟨1 + a, 1 + b, c, 0, hck⟩, by omega, by simp, fun p q hq => by simp at hq, fun r hr => ⟨start_rs, fun i q hq => by simp at hq, by simp⟩⟩
theorem pu_thm : pu_goal := by
  intro G b ⟨hC, hS, hT, hA4, hbb, L, xs, hL, hx⟩
  have w0 : wf G (gB G, 0, fun _ => none) := ⟨fun _ _ => rfl, fun _ _ => rfl⟩
  obtain ⟨τ1, a1, a2, a3, a4, a5, a6⟩ := new_E (n := 7) (e := .inr (5, [.null, .null, .null, .null, .int 0, .null, .null])) w0 (Nat.le_refl _)
  have e1 : ho_al G (gB G, 0, fun _ => none) 7 (.inr (5, [.null, .null, .null, .null, .int 0, .null, .null])) = some (τ1, gB G) := by
    rw [al_S (by show gB G + 1 ≤ _; omega) (by show 0 + 7 ≤ _; omega), a1]
  have z1 : τ1.1 = gB G + 1 := a3
  have y1 : τ1.2.1 = 7 := a4
  obtain ⟨v3, q3, m3, n3⟩ := fm_S (G := G) (N := 2000) (x := if 0 < L then xs 0 else 0) (m := 8) (by decide) (by decide)
  obtain ⟨v4, q4, m4, n4⟩ := fm_S (G := G) (N := 2000) (x := if 1 < L then xs 1 else 0) (m := 1000) (by decide) (by decide)
  obtain ⟨v5, q5, m5, n5⟩ := fm_S (G := G) (N := 2000) (x := if 2 < L then xs 2 else 0) (m := 10001) (by decide) (by decide)
  obtain ⟨τ6, b1, b2, b3, b4, b5, b6, b7, b8, b9, b10, b11, b12, b13, b14⟩ := Of_init_S (N := 2000) (O := gB G) m3 m4 m5 a2 a5 z1 y1 rfl hC hS (by decide)
  have e7 : ho_al G τ6 40 (.inr (6, ms0)) = some (hb τ6 (gB G + 195) ms0 0 (fun _ => .inr (0, [])) (τ6.2.1 + 40), gB G + 195) := by
    rw [al_S (by omega) (by omega), hb_0 b3, b3]
  have w7 : wf G (hb τ6 (gB G + 195) ms0 0 (fun _ => .inr (0, [])) (τ6.2.1 + 40)) := by
    rw [← hb_0 b3]
    exact b2.new (by omega)
  have t7 : (hb τ6 (gB G + 195) ms0 0 (fun _ => .inr (0, [])) (τ6.2.1 + 40)).1 = gB G + 196 := rfl
  obtain ⟨τ12, c1, c2, c3, c4, c5⟩ := Md_init_S (N := 2000) (σ := τ6) (M := gB G + 195) (X := fun _ => .inr (0, [])) (s := τ6.2.1 + 40) n3 n4 n5 (by omega) (by omega) hS
  have w12 : wf G τ12 := by
    refine ⟨fun a ha => by rw [c5 a (by omega)]; exact b2.1 a ha, fun a ha => ?_⟩
    rw [c5 a (by omega)]
    exact b2.2 a (by omega)
  have c3' : (hb τ6 (gB G + 195) ms0 0 (fun _ => .inr (0, [])) (τ6.2.1 + 40)).2.1 ≤ τ12.2.1 := by
    exact c3.1
  have e12 : ho_cv (hb τ6 (gB G + 195) ms0 0 (fun _ => .inr (0, [])) (τ6.2.1 + 40)) (f_Md_init G 2000 (hb τ6 (gB G + 195) ms0 0 (fun _ => .inr (0, [])) (τ6.2.1 + 40)) (gB G + 195) (if 0 < L then xs 0 else 0) (if 1 < L then xs 1 else 0) (if 2 < L then xs 2 else 0)) = some τ12 := by rw [c1, cv_S (by omega) c3']
  -- the place for answers
  have e13 : ho_nwL G τ12 2 1 = some (new τ12 1 (.inl (gc G 2, 1, .inr (.inl fun _ => 0))), gB G + 226) := by
    unfold ho_nwL
    rw [show (1 : Int32) = ii 1 from rfl, n_S (by decide), bd_S, al_S (by omega) (by omega), c2]
  have w13 : wf G (new τ12 1 (.inl (gc G 2, 1, .inr (.inl fun _ => 0)))) := w12.new (by omega)
  have o13 : (new τ12 1 (.inl (gc G 2, 1, .inr (.inl fun _ => 0)))).2.2 (gB G + 226) = some (.inl (gc G 2, 1, .inr (.inl fun _ => 0))) := by
    rw [show gB G + 226 = τ12.1 by omega]
    exact new_at
  have s13 : (new τ12 1 (.inl (gc G 2, 1, .inr (.inl fun _ => 0)))).1 = gB G + 227 := by show τ12.1 + 1 = _; omega
  have y13 : (new τ12 1 (.inl (gc G 2, 1, .inr (.inl fun _ => 0)))).2.1 = τ12.2.1 + 1 := rfl
  have r13 : ∀ a, a < gB G + 226 → (new τ12 1 (.inl (gc G 2, 1, .inr (.inl fun _ => 0)))).2.2 a = τ12.2.2 a := fun a ha => new_ne (by omega)
  generalize new τ12 1 (.inl (gc G 2, 1, .inr (.inl fun _ => 0))) = τ at e13 w13 o13 s13 y13 r13
  have ff : frm τ6 (fun _ => 0) τ (fun _ => 0) (fun _ _ => False) := ⟨by omega, by rw [y13]; exact Nat.le_trans (Nat.le_trans (Nat.le_add_right _ _) c3') (Nat.le_add_right _ _), fun a ha => ⟨rfl, fun _ => by rw [r13 a (by omega), c5 a (by omega)]⟩⟩
  have gd : good G τ (fun _ => 0) (gB G) 0 (1 + ii v3, 1 + ii v4, ii v5, 0) 0 (fun _ => 0) (fun _ _ => 0) [] (fun _ => (fun _ => none, [], [], fun _ => 0)) (fun _ => 0) := by
    refine ⟨⟨⟨w13, Nat.le_refl _, by omega, ⟨0, fun _ _ => 0, ?_⟩, ff.at b2 b12 (fun h => h)⟩, b5.fr b2 ff (fun h => h), b6.fr b2 ff (fun h => h), b7.fr b2 ff (fun h => h), (b8 _).fr b2 ff (fun _ _ _ h => h), b9.fr b2 ff (fun h => h) (fun _ _ h => h) (fun _ _ h => h), b10.fr b2 ff (fun h => h), b11.fr b2 ff (fun _ _ _ h => h) (fun _ _ _ _ h => h), ⟨_, o13⟩⟩, ⟨_, _, md_keep c4 fun a h1 h2 => r13 a (by omega), start_mdl⟩, start_inv q3 q4 q5, by omega, by omega⟩
    refine sl_ext rfl rfl (fun a _ => rfl) (fun k => ?_)
    unfold sle
    by_cases k0 : k = 0
    · rw [if_pos k0, k0]
      exact ff.at b2 b13 (fun h => h)
    · rw [if_neg k0]
      by_cases k5 : k < 5
      · rw [if_pos k5]
        exact ff.at b2 (b14 k (by omega) k5) (fun h => h)
      · rw [if_neg k5]
        rfl
  obtain ⟨σ', lp⟩ := lw_loop (N := 2000) (b := b) gd ⟨rfl, hC, hS⟩ hT hA4 hbb hx hL (by decide)
  refine ⟨2000, σ', ?_⟩
  unfold f_Lw_law
  rw [e1, bd2_S, show f_Lw_cell G 2000 τ1 b 0 = _ from cell_S (k := 0) a2 hbb hx hL (by decide), bd_S, show f_Lw_cell G 2000 τ1 b 1 = _ from cell_S (k := 1) a2 hbb hx hL (by decide), bd_S, show f_Lw_cell G 2000 τ1 b 2 = _ from cell_S (k := 2) a2 hbb hx hL (by decide), bd_S, b1, cv_S (by omega) (by omega), bd_S]
  rw [show ho_al G τ6 40 (.inr (6, [.null, .null, .null, .null, .null, .null, .int 0, .null, .int 0, .null, .int 0, .null, .int 0, .int 0, .int 0, .int 0, .int 0, .int 0, .int 0, .null, .null, .null, .null, .null, .null, .null, .null, .null, .null, .null, .null, .null, .null, .null, .null, .null, .null, .null, .null, .null])) = _ from e7, bd2_S, show f_Lw_cell G 2000 (hb τ6 (gB G + 195) ms0 0 (fun _ => .inr (0, [])) (τ6.2.1 + 40)) b 0 = _ from cell_S (k := 0) w7 hbb hx hL (by decide), bd_S, show f_Lw_cell G 2000 (hb τ6 (gB G + 195) ms0 0 (fun _ => .inr (0, [])) (τ6.2.1 + 40)) b 1 = _ from cell_S (k := 1) w7 hbb hx hL (by decide), bd_S, show f_Lw_cell G 2000 (hb τ6 (gB G + 195) ms0 0 (fun _ => .inr (0, [])) (τ6.2.1 + 40)) b 2 = _ from cell_S (k := 2) w7 hbb hx hL (by decide), bd_S, e12, bd_S, e13, bd2_S, lp, bd_S]
  rfl
