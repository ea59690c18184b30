/-! lists of packets -/
section AL
variable {G : ho_G} {σ : ho_H} {N : Nat} {w : Nat → Nat} {O l : Nat} {qs : List (Nat × (Nat → Int32))}
theorem Al_size_S (h : pls G σ w O l qs) : f_Al_size G N σ l = some (ii qs.length) := by
  obtain ⟨d, cap, mc, f, h1, -, -⟩ := h
  unfold f_Al_size
  rw [c_I h1 rfl, bd_S]
theorem pls.f (h : pls G σ w O l qs) : ∃ fs, ho_f σ l 7 = some fs := by
  obtain ⟨d, cap, mc, f, h1, -, -⟩ := h
  exact ⟨_, c_f h1⟩
theorem pls.len (h : pls G σ w O l qs) : qs.length ≤ 300 := by
  obtain ⟨d, cap, mc, f, -, h2, -⟩ := h
  rcases h2 with h2 | h2 <;> omega
theorem chk_S {i n : Nat} (h : i < n) (hn : n < 2147483648) : f_Ob_checkIndex G N σ (ii i) (ii n) = some (ii i) := by
  unfold f_Ob_checkIndex f_Pc_checkIndex
  rw [if_neg (ii_nneg (by omega)), if_pos (by rw [ii_lt (by omega) hn]; exact h), bd_S]
theorem Al_get_S {i : Nat} {q : Nat × (Nat → Int32)} (h : pls G σ w O l qs) (hq : qs[i]? = some q) : ∃ p, f_Al_get G N σ l (ii i) = some p ∧ pk G σ w O p q := by
  have hlen := h.len
  obtain ⟨d, cap, mc, f, h1, h2, h3⟩ := h
  obtain ⟨p, g1, g2⟩ := h3 i q hq
  have hi : i < qs.length := by
    obtain ⟨hi, -⟩ := List.getElem?_eq_some_iff.mp hq
    exact hi
  refine ⟨p, ?_, g2⟩
  rcases h2 with h2 | ⟨h2, h4, h5, h6⟩
  · omega
  · unfold f_Al_get f_Al_elementData
    rw [c_I h1 rfl, bd_S, chk_S hi (by omega), bd_S, c_f h1, bd_S, c_R h1 rfl, bd_S, c_ldR h5 (by omega) (by omega) g1, bd_S, bd_S]
theorem mx_S {a b : Nat} (ha : a < 2147483648) (hb : b < 2147483648) : ho_mx (ii a) (ii b) = ii (max a b) := by
  unfold ho_mx
  by_cases h : a < b
  · rw [if_pos (by rw [ii_lt ha hb]; exact h), Nat.max_eq_right (by omega)]
  · rw [if_neg (by rw [ii_lt ha hb]; exact h), Nat.max_eq_left (by omega)]
theorem mn_S {a : Nat} {b : Nat} (ha : a < 2147483648) (hb : b < 2147483648) (h : a ≤ b) : ho_mn (ii a) (ii b) = ii a := by
  unfold ho_mn
  rw [if_neg (by rw [ii_lt hb ha]; omega)]
theorem sr_ok : ∀ a, a < 301 → ho_sr (ii a) 1 = ii (a / 2) := by decide +kernel
theorem newLength_S {a : Nat} (ha : a ≤ 300) : f_As_newLength G N σ (ii a) (ii (a + 1) - ii a) (ho_sr (ii a) 1) = some (ii (a + max 1 (a / 2))) := by
  unfold f_As_newLength
  have e : ii a + ho_mx (ii (a + 1) - ii a) (ho_sr (ii a) 1) = ii (a + max 1 (a / 2)) := by
    rw [sr_ok a (by omega), ii_sub (by omega), Nat.add_sub_cancel_left, mx_S (by omega) (by omega), ii_add]
  rw [e, if_neg (by rw [show (0 : Int32) = ii 0 from rfl, ii_le (by omega) (by omega)]; omega), if_neg (by rw [show (2147483639 : Int32) = ii 2147483639 from rfl, ii_lt (by omega) (by omega)]; omega)]
/-- the end of add: the array has room -/
theorem add_tail {d cap n p m : Nat} {mc : Int32} {f : Nat → Option Nat} (h1 : σ.2.2 l = some (.inr (7, [.ref d, .int (ii n), .int mc]))) (h2 : σ.2.2 d = some (.inl (gc G 5, cap, .inr (.inr (.inr (.inr f)))))) (hp : σ.2.2 p = some (.inr (3, [.ref m]))) (hn : n < cap) (hc : cap ≤ 1000) : f_Al_add2_j11 G N σ l p d (ii n) = some (ho_set (ho_set σ d (.inl (gc G 5, cap, .inr (.inr (.inr (.inr (va_up f n (some p)))))))) l (.inr (7, [.ref d, .int (ii (n + 1)), .int mc]))) := by
  have hne : l ≠ d := fun e => by rw [e, h2] at h1; cases h1
  unfold f_Al_add2_j11
  rw [c_f hp, bd_S, c_stR h2 hn (by omega), bd_S, c_p (by rw [set_ne hne]; exact h1) (show 1 < 3 by decide), bd_S, show (1 : Int32) = ii 1 from rfl, ii_add]
  rfl
end AL
section AL2
variable {G : ho_G} {σ : ho_H} {N : Nat} {w : Nat → Nat} {O l : Nat} {qs : List (Nat × (Nat → Int32))}
theorem getq {q : Nat × (Nat → Int32)} {i : Nat} {x : Nat × (Nat → Int32)} (h : (qs ++ [q])[i]? = some x) : (i < qs.length ∧ qs[i]? = some x) ∨ (i = qs.length ∧ x = q) := by
  by_cases hi : i < qs.length
  · rw [List.getElem?_append_left hi] at h
    exact Or.inl ⟨hi, h⟩
  · rw [List.getElem?_append_right (by omega)] at h
    by_cases hi2 : i = qs.length
    · rw [hi2, Nat.sub_self] at h
      exact Or.inr ⟨hi2, (Option.some.inj h).symm⟩
    · rw [List.getElem?_eq_none (by simp; omega)] at h
      cases h
/-- after add: the list as it stands in the heap that the end of add leaves -/
theorem add_end {σ0 : ho_H} {w' : Nat → Nat} {d cap p : Nat} {mc : Int32} {f : Nat → Option Nat} {q : Nat × (Nat → Int32)} (hf : frm σ w σ0 w' (TL O l)) (hw : wf G σ) (hw0 : wf G σ0) (hl : l < O + 227) (hlp : 0 < l) (h1 : σ0.2.2 l = some (.inr (7, [.ref d, .int (ii qs.length), .int mc]))) (h2 : σ0.2.2 d = some (.inl (gc G 5, cap, .inr (.inr (.inr (.inr f)))))) (hd : O + 227 ≤ d) (hwd : w' d = l) (hn : qs.length < cap) (hc : cap ≤ 300) (hp : pk G σ w O p q) (h3 : ∀ i q, qs[i]? = some q → ∃ p, f i = some p ∧ pk G σ w O p q) : ∃ σ', f_Al_add2_j11 G N σ0 l p d (ii qs.length) = some σ' ∧ wf G σ' ∧ pls G σ' w' O l (qs ++ [q]) ∧ frm σ w σ' w' (TL O l) ∧ σ'.1 = σ0.1 ∧ σ'.2.1 = σ0.2.1 := by
  have hT0 : ∀ a, O + 227 ≤ a → ¬ TL O l a 0 := fun a ha ht => by rcases ht with ht | ht <;> omega
  have hp0 := hp.fr hw hf hT0
  obtain ⟨m, e1, -⟩ := hp0
  have hne : d ≠ l := by omega
  have w1 : wf G (ho_set σ0 d (.inl (gc G 5, cap, .inr (.inr (.inr (.inr (va_up f qs.length (some p)))))))) := hw0.set h2
  have f1 : frm σ w (ho_set (ho_set σ0 d (.inl (gc G 5, cap, .inr (.inr (.inr (.inr (va_up f qs.length (some p)))))))) l (.inr (7, [.ref d, .int (ii (qs.length + 1)), .int mc]))) w' (TL O l) := (hf.trans (frm.set (Or.inr ⟨hd, hwd⟩))).trans (frm.set (Or.inl rfl))
  refine ⟨_, add_tail h1 h2 e1 hn (by omega), w1.set (by rw [set_ne (fun e => hne e.symm)]; exact h1), ?_, f1, rfl, rfl⟩
  refine ⟨d, cap, mc, va_up f qs.length (some p), ?_, Or.inr ⟨hd, hwd, ?_, by simp; omega, by omega, hc⟩, fun i x hx => ?_⟩
  · rw [set_at]
    simp
  · rw [set_ne hne, set_at]
  · rcases getq hx with ⟨hi, hx⟩ | ⟨hi, hx⟩
    · obtain ⟨p', g1, g2⟩ := h3 i x hx
      exact ⟨p', by unfold va_up; rw [if_neg (by omega)]; exact g1, g2.fr hw f1 hT0⟩
    · rw [hi, hx]
      exact ⟨p, by unfold va_up; rw [if_pos rfl], hp.fr hw f1 hT0⟩
theorem ck_set {α : Type} {σ' : ho_H} {a : Nat} {e : va_E} {v : α} (h1 : σ.1 ≤ σ'.1) (h2 : σ.2.1 ≤ σ'.2.1) : ho_ck σ (some (ho_set σ' a e, v)) = some (ho_set σ' a e, v) := ck_S h1 h2
theorem upd_w {d d' : Nat} {w : Nat → Nat} {l : Nat} (h : d < d') : (fun a => if a = d' then l else w a) d = w d := if_neg (by omega)
theorem Al_add_S {p : Nat} {q : Nat × (Nat → Int32)} (hw : wf G σ) (hL : pls G σ w O l qs) (hp : pk G σ w O p q) (hl : l < O + 227) (hl0 : O ≤ l) (hO : gB G ≤ O) (hz : O + 227 ≤ σ.1) (hn : qs.length ≤ 200) (hA : gA G 4 < gB G) (r1 : σ.1 + 1 ≤ gC G) (r2 : σ.2.1 + 300 ≤ gS G) : ∃ σ' w', f_Al_add1 G N σ l p = some (σ', 1) ∧ wf G σ' ∧ pls G σ' w' O l (qs ++ [q]) ∧ frm σ w σ' w' (TL O l) ∧ σ'.1 ≤ σ.1 + 1 ∧ σ'.2.1 ≤ σ.2.1 + 300 := by
  obtain ⟨d, cap, mc, f, h1, h2, h3⟩ := hL
  have hll : l < σ.1 := hw.lt h1
  -- the list cell after modCount
  have a1 : ho_p σ l 7 2 (.int (mc + 1)) = some (ho_set σ l (.inr (7, [.ref d, .int (ii qs.length), .int (mc + 1)]))) := c_p h1 (show 2 < 3 by decide)
  have b1 : (ho_set σ l (.inr (7, [.ref d, .int (ii qs.length), .int (mc + 1)]))).2.2 l = some (.inr (7, [.ref d, .int (ii qs.length), .int (mc + 1)])) := set_at
  have w1 : wf G (ho_set σ l (.inr (7, [.ref d, .int (ii qs.length), .int (mc + 1)]))) := hw.set h1
  have f1 : frm σ w (ho_set σ l (.inr (7, [.ref d, .int (ii qs.length), .int (mc + 1)]))) w (TL O l) := frm.set (Or.inl rfl)
  unfold f_Al_add1
  rw [c_I h1 rfl, bd_S, a1, bd_S, c_R b1 rfl, bd_S, c_I b1 rfl, bd_S, c_f b1, bd_S]
  generalize hσ1 : ho_set σ l (.inr (7, [.ref d, .int (ii qs.length), .int (mc + 1)])) = σ1 at b1 w1 f1 ⊢
  have s1 : σ1.1 = σ.1 := by rw [← hσ1]; rfl
  have s2 : σ1.2.1 = σ.2.1 := by rw [← hσ1]; rfl
  have o1 : ∀ a, a ≠ l → σ1.2.2 a = σ.2.2 a := fun a ha => by rw [← hσ1]; exact set_ne ha
  unfold f_Al_add2
  rcases h2 with ⟨h2, h4⟩ | ⟨h2, h4, h5, h6, h7, h8⟩
  · -- the shared empty array
    have hdl : d ≠ l := by omega
    have e1 : ho_lnQ G σ1 d 5 = some (ii 0) := by
      unfold ho_lnQ ho_rR
      rw [o1 d hdl, hw.1 d (by omega), h2]
      simp only [and_self, ↓reduceIte]
      rfl
    have e2 : f_Al_grow1 G N σ1 l = some (ho_set (new σ1 10 (.inl (gc G 5, 10, .inr (.inr (.inr (.inr fun _ => none)))))) l (.inr (7, [.ref σ1.1, .int (ii qs.length), .int (mc + 1)])), σ1.1) := by
      have g1 : (new σ1 10 (.inl (gc G 5, 10, .inr (.inr (.inr (.inr fun _ => none)))))).2.2 l = some (.inr (7, [.ref d, .int (ii qs.length), .int (mc + 1)])) := by rw [new_ne (by omega)]; exact b1
      have g2 : ho_p (new σ1 10 (.inl (gc G 5, 10, .inr (.inr (.inr (.inr fun _ => none)))))) l 7 0 (.ref σ1.1) = some (ho_set (new σ1 10 (.inl (gc G 5, 10, .inr (.inr (.inr (.inr fun _ => none)))))) l (.inr (7, [.ref σ1.1, .int (ii qs.length), .int (mc + 1)]))) := c_p g1 (show 0 < 3 by decide)
      have g3 : ho_mx 10 (ii qs.length + 1) = ii 10 := by rw [h4]; decide
      unfold f_Al_grow1 f_Al_grow2
      rw [c_I b1 rfl, bd_S, c_f b1, bd_S, c_R b1 rfl, bd_S, e1, bd_S, if_neg (by decide), bd_S, if_pos h2, g3, nwR_S (by omega) (by omega) (by decide), bd2_S, g2, bd_S, ck_S (show σ1.1 ≤ σ1.1 + 1 by omega) (show σ1.2.1 ≤ σ1.2.1 + 10 by omega), bd2_S]
    have f2 : frm σ w (ho_set (new σ1 10 (.inl (gc G 5, 10, .inr (.inr (.inr (.inr fun _ => none)))))) l (.inr (7, [.ref σ1.1, .int (ii qs.length), .int (mc + 1)]))) (fun a => if a = σ1.1 then l else w a) (TL O l) := (f1.trans (frm.new fun a ha => upd_w ha)).trans (frm.set (Or.inl rfl))
    have w2 : wf G (ho_set (new σ1 10 (.inl (gc G 5, 10, .inr (.inr (.inr (.inr fun _ => none)))))) l (.inr (7, [.ref σ1.1, .int (ii qs.length), .int (mc + 1)]))) := (w1.new (by omega)).set (by rw [new_ne (by omega)]; exact b1)
    obtain ⟨σ', k1, k2, k3, k4, k5, k6⟩ := add_end (N := N) (p := p) (q := q) (f := fun _ => none) (d := σ1.1) (cap := 10) f2 hw w2 hl (by omega) set_at (by rw [set_ne (by omega)]; exact new_at) (by omega) (if_pos rfl) (by omega) (by decide) hp (fun i q hq => by rw [List.getElem?_eq_none (by omega)] at hq; cases hq)
    refine ⟨σ', _, ?_, k2, k3, k4, by rw [k5]; show σ1.1 + 1 ≤ _; omega, by rw [k6]; show σ1.2.1 + 10 ≤ _; omega⟩
    rw [e1, bd_S, if_neg (by rw [h4]; simp), c_f b1, bd_S, e2, ck_S (show σ1.1 ≤ σ1.1 + 1 by omega) (show σ1.2.1 ≤ σ1.2.1 + 10 by omega), bd2_S, k1, cv_S (by rw [k5]; show σ1.1 ≤ σ1.1 + 1; omega) (by rw [k6]; show σ1.2.1 ≤ σ1.2.1 + 10; omega), bd_S]
  · have hdl : d ≠ l := by omega
    have b2 : σ1.2.2 d = some (.inl (gc G 5, cap, .inr (.inr (.inr (.inr f))))) := by rw [o1 d hdl]; exact h5
    have e1 : ho_lnQ G σ1 d 5 = some (ii cap) := by
      unfold ho_lnQ
      rw [c_rr b2]
      rfl
    by_cases hc : qs.length < cap
    · obtain ⟨σ', k1, k2, k3, k4, k5, k6⟩ := add_end (N := N) (p := p) (q := q) f1 hw w1 hl (by omega) b1 b2 h2 h4 hc h8 hp h3
      refine ⟨σ', w, ?_, k2, k3, k4, by omega, by omega⟩
      rw [e1, bd_S, if_pos (by rw [ii_inj (by omega) (by omega)]; omega), k1, cv_S (by omega) (by omega), bd_S]
    · have hc' : qs.length = cap := by omega
      have hmn : ho_mn (ii cap) (ii (cap + max 1 (cap / 2))) = ii cap := mn_S (by omega) (by omega) (by omega)
      have s3 : ∀ i, i < cap → ((f (0 + i)).all fun y => (ho_f (new σ1 (cap + max 1 (cap / 2)) (.inl (gc G 5, cap + max 1 (cap / 2), .inr (.inr (.inr (.inr fun _ => none)))))) y 3).isSome) = true := fun i hi => by
        obtain ⟨p', g1, m', g2, -⟩ := h3 i _ (List.getElem?_eq_getElem (by omega))
        have hpl : p' ≠ l := fun e => by rw [e, h1] at g2; cases g2
        have := hw.lt g2
        rw [Nat.zero_add, g1]
        simp only [Option.all]
        rw [c_f (by rw [new_ne (by omega), o1 p' hpl]; exact g2)]
        rfl
      have e3 : ho_cpR G (new σ1 (cap + max 1 (cap / 2)) (.inl (gc G 5, cap + max 1 (cap / 2), .inr (.inr (.inr (.inr fun _ => none)))))) d 0 σ1.1 0 (ii cap) = some (ho_set (new σ1 (cap + max 1 (cap / 2)) (.inl (gc G 5, cap + max 1 (cap / 2), .inr (.inr (.inr (.inr fun _ => none)))))) σ1.1 (.inl (gc G 5, cap + max 1 (cap / 2), .inr (.inr (.inr (.inr (va_cpy f (fun _ => none) 0 0 cap))))))) := by
        have hdz : d < σ.1 := hw.lt h5
        unfold ho_cpR
        rw [c_ar (show (new σ1 (cap + max 1 (cap / 2)) (.inl (gc G 5, cap + max 1 (cap / 2), .inr (.inr (.inr (.inr fun _ => none)))))).2.2 d = _ by rw [new_ne (by omega)]; exact b2), bd_S, c_ar new_at, bd_S]
        have z0 : (0 : Int32).toNatClampNeg = 0 := rfl
        have zc : (ii cap).toNatClampNeg = cap := ii_nat (by omega)
        rw [z0, zc, if_neg]
        intro hh
        rcases hh with hh | hh | hh | hh | hh | hh
        · exact absurd hh (by decide)
        · exact absurd hh (by decide)
        · exact ii_nneg (by omega) hh
        · exact absurd hh (by show ¬ cap < 0 + cap; omega)
        · exact absurd hh (by show ¬ cap + max 1 (cap / 2) < 0 + cap; omega)
        · exact hh s3
      generalize hσ2 : ho_set (new σ1 (cap + max 1 (cap / 2)) (.inl (gc G 5, cap + max 1 (cap / 2), .inr (.inr (.inr (.inr fun _ => none)))))) σ1.1 (.inl (gc G 5, cap + max 1 (cap / 2), .inr (.inr (.inr (.inr (va_cpy f (fun _ => none) 0 0 cap)))))) = σ2 at e3
      have t1 : σ2.1 = σ.1 + 1 := by rw [← hσ2, ← s1]; rfl
      have t2 : σ2.2.1 = σ.2.1 + (cap + max 1 (cap / 2)) := by rw [← hσ2, ← s2]; rfl
      have t3 : σ2.2.2 l = some (.inr (7, [.ref d, .int (ii qs.length), .int (mc + 1)])) := by rw [← hσ2, set_ne (by omega), new_ne (by omega)]; exact b1
      have t4 : σ2.2.2 σ1.1 = some (.inl (gc G 5, cap + max 1 (cap / 2), .inr (.inr (.inr (.inr (va_cpy f (fun _ => none) 0 0 cap)))))) := by rw [← hσ2]; exact set_at
      have w2 : wf G σ2 := by rw [← hσ2]; exact (w1.new (by omega)).set new_at
      have f2 : frm σ1 w σ2 (fun a => if a = σ1.1 then l else w a) (TL O l) := by
        rw [← hσ2]
        exact (frm.new fun a ha => upd_w ha).trans (frm.set (Or.inr ⟨by omega, if_pos rfl⟩))
      have e4 : f_Ar_copyOf1 G N σ1 d (ii (cap + max 1 (cap / 2))) = some (σ2, σ1.1) := by
        unfold f_Ar_copyOf1 f_Ar_copyOf2 f_Ar_copyOf2_j24
        have hdz : d < σ.1 := hw.lt h5
        have l1 : ho_lnQ G (new σ1 (cap + max 1 (cap / 2)) (.inl (gc G 5, cap + max 1 (cap / 2), .inr (.inr (.inr (.inr fun _ => none)))))) d 5 = some (ii cap) := by
          unfold ho_lnQ
          rw [c_rr (show _ = some _ by rw [new_ne (by omega)]; exact b2)]
          rfl
        rw [c_ar b2, bd_S, if_neg (fun h => h rfl), nwR_S (by omega) (by omega) (by omega), bd2_S, l1, bd_S, hmn, e3, bd_S, ck_S (by omega) (by omega), bd2_S]
      have g2 : ho_p σ2 l 7 0 (.ref σ1.1) = some (ho_set σ2 l (.inr (7, [.ref σ1.1, .int (ii qs.length), .int (mc + 1)]))) := c_p t3 (show 0 < 3 by decide)
      have e2 : f_Al_grow1 G N σ1 l = some (ho_set σ2 l (.inr (7, [.ref σ1.1, .int (ii qs.length), .int (mc + 1)])), σ1.1) := by
        unfold f_Al_grow1 f_Al_grow2 f_Al_grow2_j20
        rw [c_I b1 rfl, bd_S, c_f b1, bd_S, c_R b1 rfl, bd_S, e1, bd_S, if_pos (by rw [show (0 : Int32) = ii 0 from rfl, ii_lt (by omega) (by omega)]; omega), hc', show ii cap + 1 = ii (cap + 1) from ii_add cap 1, newLength_S (by omega), bd_S, bd_S, e4, ck_S (by omega) (by omega), bd2_S, ← hc', g2, bd_S, ck_set (by omega) (by omega), bd2_S]
      obtain ⟨σ', k1, k2, k3, k4, k5, k6⟩ := add_end (N := N) (p := p) (q := q) (σ0 := ho_set σ2 l (.inr (7, [.ref σ1.1, .int (ii qs.length), .int (mc + 1)]))) (w' := fun a => if a = σ1.1 then l else w a) (d := σ1.1) ((f1.trans f2).trans (frm.set (Or.inl rfl))) hw (w2.set t3) hl (by omega) set_at (by rw [set_ne (by omega)]; exact t4) (by omega) (if_pos rfl) (by omega) (by omega) hp (fun i q hq => by
          obtain ⟨p', g1, g2⟩ := h3 i q hq
          have hi : i < qs.length := (List.getElem?_eq_some_iff.mp hq).1
          refine ⟨p', ?_, g2⟩
          unfold va_cpy
          rw [if_pos (by omega), show 0 + (i - 0) = i by omega]
          exact g1)
      have k5' : σ'.1 = σ2.1 := k5
      have k6' : σ'.2.1 = σ2.2.1 := k6
      refine ⟨σ', _, ?_, k2, k3, k4, by omega, by omega⟩
      rw [e1, bd_S, if_neg (by rw [hc']; simp), c_f b1, bd_S, e2, ck_set (by omega) (by omega), bd2_S, k1, cv_S (by omega) (by omega), bd_S]
end AL2
section AL3
variable {G : ho_G} {σ : ho_H} {N : Nat} {w : Nat → Nat} {O l : Nat} {qs : List (Nat × (Nat → Int32))}
theorem set_self {a : Nat} {e : va_E} (h : σ.2.2 a = some e) : ho_set σ a e = σ := by
  unfold ho_set
  obtain ⟨r1, r2, r3⟩ := σ
  dsimp only at h ⊢
  congr 2
  funext q
  by_cases hq : q = a
  · rw [if_pos hq, hq, h]
  · rw [if_neg hq]
theorem Al_remove_S {i : Nat} {q : Nat × (Nat → Int32)} (hw : wf G σ) (hL : pls G σ w O l qs) (hl : l < O + 227) (hlp : 0 < l) (hq : qs[i]? = some q) : ∃ σ' p, f_Al_remove G N σ l (ii i) = some (σ', p) ∧ pk G σ w O p q ∧ wf G σ' ∧ pls G σ' w O l (qs.eraseIdx i) ∧ frm σ w σ' w (TL O l) ∧ σ'.1 = σ.1 ∧ σ'.2.1 = σ.2.1 := by
  have hi : i < qs.length := (List.getElem?_eq_some_iff.mp hq).1
  obtain ⟨d, cap, mc, f, h1, h2, h3⟩ := hL
  obtain ⟨p, g1, g2⟩ := h3 i q hq
  rcases h2 with ⟨h2, h4⟩ | ⟨h2, h4, h5, h6, h7, h8⟩
  · omega
  · have hdl : d ≠ l := by omega
    have hT0 : ∀ a, O + 227 ≤ a → ¬ TL O l a 0 := fun a ha ht => by rcases ht with ht | ht <;> omega
    have a1 : ho_p σ l 7 2 (.int (mc + 1)) = some (ho_set σ l (.inr (7, [.ref d, .int (ii qs.length), .int (mc + 1)]))) := c_p h1 (show 2 < 3 by decide)
    have b1 : (ho_set σ l (.inr (7, [.ref d, .int (ii qs.length), .int (mc + 1)]))).2.2 l = some (.inr (7, [.ref d, .int (ii qs.length), .int (mc + 1)])) := set_at
    have w1 : wf G (ho_set σ l (.inr (7, [.ref d, .int (ii qs.length), .int (mc + 1)]))) := hw.set h1
    have f1 : frm σ w (ho_set σ l (.inr (7, [.ref d, .int (ii qs.length), .int (mc + 1)]))) w (TL O l) := frm.set (Or.inl rfl)
    unfold f_Al_remove f_Al_fastRemove
    rw [c_I h1 rfl, bd_S, chk_S hi (by omega), bd_S, c_R h1 rfl, bd_S, c_ldR h5 (by omega) (by omega) g1, bd_S, c_f h1, bd_S, c_I h1 rfl, bd_S, a1, bd_S, c_I b1 rfl, bd_S]
    generalize hσ1 : ho_set σ l (.inr (7, [.ref d, .int (ii qs.length), .int (mc + 1)])) = σ1 at b1 w1 f1 ⊢
    have s1 : σ1.1 = σ.1 := by rw [← hσ1]; rfl
    have s2 : σ1.2.1 = σ.2.1 := by rw [← hσ1]; rfl
    have o1 : ∀ a, a ≠ l → σ1.2.2 a = σ.2.2 a := fun a ha => by rw [← hσ1]; exact set_ne ha
    have b2 : σ1.2.2 d = some (.inl (gc G 5, cap, .inr (.inr (.inr (.inr f))))) := by rw [o1 d hdl]; exact h5
    have n1 : ii qs.length - 1 = ii (qs.length - 1) := by rw [show (1 : Int32) = ii 1 from rfl, ii_sub (by omega)]
    -- the end, from an array that is already shifted
    have tail : ∀ g : Nat → Option Nat, (∀ j x, (qs.eraseIdx i)[j]? = some x → ∃ p, g j = some p ∧ pk G σ w O p x) → ∃ σ', f_Al_fastRemove_j34 G N (ho_set σ1 d (.inl (gc G 5, cap, .inr (.inr (.inr (.inr g)))))) l d (ii (qs.length - 1)) = some σ' ∧ wf G σ' ∧ pls G σ' w O l (qs.eraseIdx i) ∧ frm σ w σ' w (TL O l) ∧ σ'.1 = σ.1 ∧ σ'.2.1 = σ.2.1 := by
      intro g hg
      have c1 : (ho_set σ1 d (.inl (gc G 5, cap, .inr (.inr (.inr (.inr g)))))).2.2 l = some (.inr (7, [.ref d, .int (ii qs.length), .int (mc + 1)])) := by rw [set_ne (fun e => hdl e.symm)]; exact b1
      have c2 : ho_p (ho_set σ1 d (.inl (gc G 5, cap, .inr (.inr (.inr (.inr g)))))) l 7 1 (.int (ii (qs.length - 1))) = some (ho_set (ho_set σ1 d (.inl (gc G 5, cap, .inr (.inr (.inr (.inr g)))))) l (.inr (7, [.ref d, .int (ii (qs.length - 1)), .int (mc + 1)]))) := c_p c1 (show 1 < 3 by decide)
      have c3 : (ho_set (ho_set σ1 d (.inl (gc G 5, cap, .inr (.inr (.inr (.inr g)))))) l (.inr (7, [.ref d, .int (ii (qs.length - 1)), .int (mc + 1)]))).2.2 d = some (.inl (gc G 5, cap, .inr (.inr (.inr (.inr g))))) := by rw [set_ne hdl]; exact set_at
      have ff : frm σ w (ho_set (ho_set (ho_set σ1 d (.inl (gc G 5, cap, .inr (.inr (.inr (.inr g)))))) l (.inr (7, [.ref d, .int (ii (qs.length - 1)), .int (mc + 1)]))) d (.inl (gc G 5, cap, .inr (.inr (.inr (.inr (va_up g (qs.length - 1) none))))))) w (TL O l) := ((f1.trans (frm.set (Or.inr ⟨h2, h4⟩))).trans (frm.set (Or.inl rfl))).trans (frm.set (Or.inr ⟨h2, h4⟩))
      have len : (qs.eraseIdx i).length = qs.length - 1 := by rw [List.length_eraseIdx, if_pos hi]
      refine ⟨_, ?_, ((w1.set b2).set c1).set c3, ⟨d, cap, mc + 1, va_up g (qs.length - 1) none, ?_, Or.inr ⟨h2, h4, set_at, by omega, h7, h8⟩, fun j x hx => ?_⟩, ff, s1, s2⟩
      · unfold f_Al_fastRemove_j34
        rw [c2, bd_S, c_stR c3 (by omega) (by omega), bd_S]
      · rw [set_ne (fun e => hdl e.symm), set_at, len]
      · have hj : j < (qs.eraseIdx i).length := (List.getElem?_eq_some_iff.mp hx).1
        obtain ⟨p', k1, k2⟩ := hg j x hx
        exact ⟨p', by unfold va_up; rw [if_neg (by omega)]; exact k1, k2.fr hw ff hT0⟩
    by_cases hlast : qs.length - 1 ≤ i
    · have hi' : i = qs.length - 1 := by omega
      obtain ⟨σ', k1, k2, k3, k4, k5, k6⟩ := tail f (fun j x hx => by
        rw [List.getElem?_eraseIdx] at hx
        by_cases hj : j < i
        · rw [if_pos hj] at hx
          exact h3 j x hx
        · rw [if_neg hj, List.getElem?_eq_none (by omega)] at hx
          cases hx)
      rw [set_self b2] at k1
      refine ⟨σ', p, ?_, g2, k2, k3, k4, k5, k6⟩
      rw [n1, if_pos (by rw [ii_le (by omega) (by omega)]; exact hlast), k1, cv_S (by omega) (by omega), bd_S]
    · have e3 : ho_cpR G σ1 d (ii i + 1) d (ii i) (ii (qs.length - 1) - ii i) = some (ho_set σ1 d (.inl (gc G 5, cap, .inr (.inr (.inr (.inr (va_cpy f f (i + 1) i (qs.length - 1 - i)))))))) := by
        unfold ho_cpR
        rw [c_ar b2, bd_S, bd_S, show ii i + 1 = ii (i + 1) from ii_add i 1, ii_sub (by omega), ii_nat (show i + 1 < 2147483648 by omega), ii_nat (show i < 2147483648 by omega), ii_nat (show qs.length - 1 - i < 2147483648 by omega), if_neg]
        intro hh
        rcases hh with hh | hh | hh | hh | hh | hh
        · exact ii_nneg (by omega) hh
        · exact ii_nneg (by omega) hh
        · exact ii_nneg (by omega) hh
        · exact absurd hh (by show ¬ cap < i + 1 + (qs.length - 1 - i); omega)
        · exact absurd hh (by show ¬ cap < i + (qs.length - 1 - i); omega)
        · refine hh fun z hz => ?_
          obtain ⟨p', y1, m', y2, -⟩ := h3 (i + 1 + z) _ (List.getElem?_eq_getElem (by omega))
          have hpl : p' ≠ l := fun e => by rw [e, h1] at y2; cases y2
          show ((f (i + 1 + z)).all _) = true
          rw [y1]
          simp only [Option.all]
          rw [c_f (by rw [o1 p' hpl]; exact y2)]
          rfl
      obtain ⟨σ', k1, k2, k3, k4, k5, k6⟩ := tail (va_cpy f f (i + 1) i (qs.length - 1 - i)) (fun j x hx => by
        have hj9 : j < (qs.eraseIdx i).length := (List.getElem?_eq_some_iff.mp hx).1
        rw [List.length_eraseIdx, if_pos hi] at hj9
        rw [List.getElem?_eraseIdx] at hx
        by_cases hj : j < i
        · rw [if_pos hj] at hx
          obtain ⟨p', k1, k2⟩ := h3 j x hx
          refine ⟨p', ?_, k2⟩
          unfold va_cpy
          rw [if_neg (by omega)]
          exact k1
        · rw [if_neg hj] at hx
          obtain ⟨p', k1, k2⟩ := h3 (j + 1) x hx
          refine ⟨p', ?_, k2⟩
          unfold va_cpy
          rw [if_pos (by omega), show i + 1 + (j - i) = j + 1 by omega]
          exact k1)
      refine ⟨σ', p, ?_, g2, k2, k3, k4, k5, k6⟩
      rw [n1, if_neg (by rw [ii_le (by omega) (by omega)]; exact hlast), e3, bd_S, k1, cv_S (by omega) (by omega), bd_S]
theorem Al_clear_S (hw : wf G σ) (hL : pls G σ w O l qs) (hl : l < O + 227) (hN : 301 < N) : ∃ σ', f_Al_clear G N σ l = some σ' ∧ wf G σ' ∧ pls G σ' w O l [] ∧ frm σ w σ' w (TL O l) ∧ σ'.1 = σ.1 ∧ σ'.2.1 = σ.2.1 := by
  have hlen := hL.len
  obtain ⟨d, cap, mc, f, h1, h2, h3⟩ := hL
  have a1 : ho_p σ l 7 2 (.int (mc + 1)) = some (ho_set σ l (.inr (7, [.ref d, .int (ii qs.length), .int (mc + 1)]))) := c_p h1 (show 2 < 3 by decide)
  have b1 : (ho_set σ l (.inr (7, [.ref d, .int (ii qs.length), .int (mc + 1)]))).2.2 l = some (.inr (7, [.ref d, .int (ii qs.length), .int (mc + 1)])) := set_at
  have a2 : ho_p (ho_set σ l (.inr (7, [.ref d, .int (ii qs.length), .int (mc + 1)]))) l 7 1 (.int 0) = some (ho_set σ l (.inr (7, [.ref d, .int 0, .int (mc + 1)]))) := by
    rw [c_p b1 (show 1 < 3 by decide), set_set]
    rfl
  have b2 : (ho_set σ l (.inr (7, [.ref d, .int 0, .int (mc + 1)]))).2.2 l = some (.inr (7, [.ref d, .int 0, .int (mc + 1)])) := set_at
  have w1 : wf G (ho_set σ l (.inr (7, [.ref d, .int 0, .int (mc + 1)]))) := hw.set h1
  have f1 : frm σ w (ho_set σ l (.inr (7, [.ref d, .int 0, .int (mc + 1)]))) w (TL O l) := frm.set (Or.inl rfl)
  unfold f_Al_clear
  rw [c_I h1 rfl, bd_S, a1, bd_S, c_R b1 rfl, bd_S, c_I b1 rfl, bd_S, a2, bd_S]
  generalize hσ1 : ho_set σ l (.inr (7, [.ref d, .int 0, .int (mc + 1)])) = σ1 at b2 w1 f1 ⊢
  have s1 : σ1.1 = σ.1 := by rw [← hσ1]; rfl
  have s2 : σ1.2.1 = σ.2.1 := by rw [← hσ1]; rfl
  rcases h2 with ⟨h2, h4⟩ | ⟨h2, h4, h5, h6, h7, h8⟩
  · have e : ho_it (f_Al_clear_l27 G N d (ii qs.length)) N (σ1, 0) = some σ1 := by
      refine it_for 0 (fun _ => (σ1, ii 0)) _ (fun k hk => absurd hk (by omega)) ?_ (by omega) rfl
      simp only [f_Al_clear_l27]
      rw [if_pos (by rw [h4]; simp)]
    refine ⟨σ1, by rw [e, bd_S], w1, ⟨d, cap, mc + 1, f, b2, Or.inl ⟨h2, rfl⟩, fun i q hq => by simp at hq⟩, f1, s1, s2⟩
  · have hdl : d ≠ l := by omega
    have b3 : σ1.2.2 d = some (.inl (gc G 5, cap, .inr (.inr (.inr (.inr f))))) := by rw [← hσ1, set_ne hdl]; exact h5
    have e : ho_it (f_Al_clear_l27 G N d (ii qs.length)) N (σ1, 0) = some (ho_set σ1 d (.inl (gc G 5, cap, .inr (.inr (.inr (.inr fun j => if j < qs.length then none else f j)))))) := by
      refine it_for qs.length (fun k => (ho_set σ1 d (.inl (gc G 5, cap, .inr (.inr (.inr (.inr fun j => if j < k then none else f j))))), ii k)) _ (fun k hk => ?_) ?_ (by omega) ?_
      · have e9 : va_up (fun j => if j < k then none else f j) k none = fun j => if j < k + 1 then none else f j := by
          funext j
          unfold va_up
          by_cases h : j = k
          · rw [if_pos h, if_pos (by omega)]
          · rw [if_neg h]
            dsimp only
            by_cases h' : j < k
            · rw [if_pos h', if_pos (by omega)]
            · rw [if_neg h', if_neg (by omega)]
        simp only [f_Al_clear_l27]
        rw [if_neg (by rw [ii_le (by omega) (by omega)]; omega), c_stR set_at (by omega) (by omega), bd_S, set_set, e9, show ii k + 1 = ii (k + 1) from ii_add k 1]
      · simp only [f_Al_clear_l27]
        rw [if_pos (by rw [ii_le (by omega) (by omega)]; exact Nat.le_refl _)]
      · have e9 : (fun j => if j < 0 then none else f j) = f := by
          funext j
          rw [if_neg (by omega)]
        show (σ1, (0 : Int32)) = (ho_set σ1 d _, ii 0)
        rw [e9, set_self b3]
        rfl
    refine ⟨_, by rw [e, bd_S], w1.set b3, ⟨d, cap, mc + 1, _, by rw [set_ne (fun e => hdl e.symm)]; exact b2, Or.inr ⟨h2, h4, set_at, by simp, h7, h8⟩, fun i q hq => by simp at hq⟩, f1.trans (frm.set (Or.inr ⟨h2, h4⟩)), s1, s2⟩
end AL3
