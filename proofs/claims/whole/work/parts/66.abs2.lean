/-! what stays true of a receiver -/
def knle (a b : KN) : Prop := ∀ c fi v K, a c = some (fi, v, K) → ∃ v' K', b c = some (fi, v', K') ∧ v ≤ v'
theorem knle.refl {a : KN} : knle a a := fun c fi v K h => ⟨v, K, h, Nat.le_refl _⟩
theorem due_le {a b : KN} {g : Nat} (h : knle a b) (hd : due a g = true) : due b g = true := by
  unfold due at hd ⊢
  cases e : a (ch g) with
  | none => rw [e] at hd; cases hd
  | some x =>
    obtain ⟨fi, v, K⟩ := x
    rw [e] at hd
    obtain ⟨v', K', h1, h2⟩ := h _ _ _ _ e
    rw [h1]
    have := of_decide_eq_true hd
    exact decide_eq_true (by omega)
theorem learn_le {kn : KN} {q : PQ} : knle kn (learn kn q) := by
  intro c fi v K h
  refine ⟨v, K, ?_, Nat.le_refl _⟩
  unfold learn
  split
  · next hc =>
    dsimp only
    rw [if_neg]
    · exact h
    · intro e
      rw [← e, h] at hc
      cases hc.2.2
  · exact h
theorem learn_fi {kn : KN} {q : PQ} {c fi v : Nat} {K : Nat → Int32} (h : learn kn q c = some (fi, v, K)) : kn c = some (fi, v, K) ∨ (fi = 0 ∧ v = 0) := by
  unfold learn at h
  split at h
  · dsimp only at h
    by_cases e : c = ch (gN q) + 1
    · rw [if_pos e] at h
      cases h
      exact Or.inr ⟨rfl, rfl⟩
    · rw [if_neg e] at h
      exact Or.inl h
  · exact Or.inl h
theorem hdV.erase {kn : KN} {h : List PQ} {b : Nat} (hh : hdV kn h) : hdV kn (h.eraseIdx b) := by
  intro i q hq
  rw [List.getElem?_eraseIdx] at hq
  split at hq
  · exact hh _ _ hq
  · exact hh _ _ hq
theorem otV.le {a b : KN} {o : List PQ} (h : otV a o) (hl : knle a b) : otV b o := fun i q hq => ⟨(h i q hq).1, due_le hl (h i q hq).2⟩
theorem getP {α : Type} {l : List α} {y x : α} {i : Nat} (h : (l ++ [y])[i]? = some x) : l[i]? = some x ∨ x = y := by
  by_cases hi : i < l.length
  · rw [List.getElem?_append_left hi] at h
    exact Or.inl h
  · rw [List.getElem?_append_right (by omega)] at h
    cases hz : i - l.length with
    | zero => rw [hz] at h; exact Or.inr (Option.some.inj h).symm
    | succ z => rw [hz] at h; cases h
theorem relQ_V {s : RS} {b : Nat} {q : PQ} (hs : rsV s) (hq : s.2.1[b]? = some q) (hd : due s.1 (gN q) = true) : rsV (relQ s b q) ∧ (relQ s b q).2.1.length + 1 = s.2.1.length ∧ (relQ s b q).2.1.length + (relQ s b q).2.2.1.length ≤ s.2.1.length + s.2.2.1.length := by
  obtain ⟨h1, h2, h3, h4⟩ := hs
  have hb : b < s.2.1.length := (List.getElem?_eq_some_iff.mp hq).1
  have hl : (s.2.1.eraseIdx b).length + 1 = s.2.1.length := by rw [List.length_eraseIdx, if_pos hb]; omega
  unfold relQ
  split
  · refine ⟨⟨fun c fi v K hc => ?_, fun i x hx => ?_, by show (s.2.1.eraseIdx b).length ≤ 16; omega, fun i x hx => ?_⟩, hl, ?_⟩
    · rcases learn_fi hc with hc | hc
      · exact h1 _ _ _ _ hc
      · omega
    · have y := h2.erase i x hx
      refine ⟨y.1, fun fi v K hc => ?_⟩
      rcases learn_fi hc with hc | hc
      · exact y.2 _ _ _ hc
      · omega
    · rcases getP hx with hx | hx
      · exact h4.le learn_le i x hx
      · rw [hx]
        exact ⟨(h2 b q hq).1, due_le learn_le hd⟩
    · show (s.2.1.eraseIdx b).length + (s.2.2.1 ++ [q]).length ≤ _
      simp only [List.length_append, List.length_singleton]
      omega
  · exact ⟨⟨h1, h2.erase, by show (s.2.1.eraseIdx b).length ≤ 16; omega, h4⟩, hl, by show (s.2.1.eraseIdx b).length + s.2.2.1.length ≤ _; omega⟩
/-- one release: either none is due, or one goes out -/
theorem rel1_cases {s : RS} (hs : rsV s) : ((bst s.1 s.2.1 s.2.1.length).1 = none ∧ rel1 s = s ∧ ndV s.1 s.2.1) ∨ ∃ b q, (bst s.1 s.2.1 s.2.1.length).1 = some b ∧ s.2.1[b]? = some q ∧ due s.1 (gN q) = true ∧ rel1 s = relQ s b q := by
  cases hb : (bst s.1 s.2.1 s.2.1.length).1 with
  | none =>
    refine Or.inl ⟨rfl, by unfold rel1; rw [hb], fun i q hq => ?_⟩
    exact (bst_none _ hb).2 i q (List.getElem?_eq_some_iff.mp hq).1 hq (hs.2.1 i q hq).1.2.2.2.2.2.1
  | some b =>
    obtain ⟨q, h1, -, h3, -⟩ := bst_some _ b hb
    exact Or.inr ⟨b, q, rfl, h1, h3, by unfold rel1; rw [hb]; dsimp only; rw [h1]⟩
theorem rel1_V {s : RS} (hs : rsV s) : rsV (rel1 s) ∧ (rel1 s).2.1.length + (rel1 s).2.2.1.length ≤ s.2.1.length + s.2.2.1.length := by
  rcases rel1_cases hs with ⟨-, h, -⟩ | ⟨b, q, -, h2, h3, h4⟩
  · rw [h]
    exact ⟨hs, Nat.le_refl _⟩
  · rw [h4]
    exact ⟨(relQ_V hs h2 h3).1, (relQ_V hs h2 h3).2.2⟩
theorem relN_V : ∀ n (s : RS), rsV s → rsV (relN n s) ∧ (relN n s).2.1.length + (relN n s).2.2.1.length ≤ s.2.1.length + s.2.2.1.length := by
  intro n
  induction n with
  | zero => exact fun s hs => ⟨hs, Nat.le_refl _⟩
  | succ n ih =>
    intro s hs
    have h1 := rel1_V hs
    have h2 := ih (rel1 s) h1.1
    exact ⟨h2.1, by unfold relN; omega⟩
theorem relN_end : ∀ n (s : RS), rsV s → s.2.1.length ≤ n → ndV (relN n s).1 (relN n s).2.1 := by
  intro n
  induction n with
  | zero =>
    intro s hs hl i q hq
    have := (List.getElem?_eq_some_iff.mp hq).1
    have e : (relN 0 s).2.1 = s.2.1 := rfl
    rw [e] at this
    omega
  | succ n ih =>
    intro s hs hl
    rcases rel1_cases hs with ⟨-, h, hn⟩ | ⟨b, q, -, h2, h3, h4⟩
    · rw [relN_nd hn]
      exact hn
    · unfold relN
      have := relQ_V hs h2 h3
      refine ih _ (by rw [h4]; exact this.1) ?_
      rw [h4]
      omega
theorem tkey_V {lag : Nat} {kn : KN} {q : PQ} (hk : knV kn) : knV (tkey lag kn q).2 ∧ knle kn (tkey lag kn q).2 ∧ ∀ c fi v K, (tkey lag kn q).2 c = some (fi, v, K) → ∃ v' K', kn c = some (fi, v', K') := by
  have base : knV kn ∧ knle kn kn ∧ ∀ c fi v K, kn c = some (fi, v, K) → ∃ v' K', kn c = some (fi, v', K') := ⟨hk, knle.refl, fun c fi v K h => ⟨v, K, h⟩⟩
  unfold tkey
  split
  · exact base
  · cases e : kn (ch (gN q - lag)) with
    | none => exact base
    | some x =>
      obtain ⟨fi, v, K⟩ := x
      dsimp only
      split
      · exact base
      · split
        · split
          · exact base
          · exact base
        · split
          · next h1 h2 h3 =>
            have hv := hk _ _ _ _ e
            have hn : nu (gN q - lag) ≤ 64 := nu_le
            refine ⟨fun c fi' v' K' hc => ?_, fun c fi' v' K' hc => ?_, fun c fi' v' K' hc => ?_⟩
            · dsimp only at hc
              by_cases ec : c = ch (gN q - lag)
              · rw [if_pos ec] at hc
                cases hc
                omega
              · rw [if_neg ec] at hc
                exact hk _ _ _ _ hc
            · dsimp only
              by_cases ec : c = ch (gN q - lag)
              · rw [if_pos ec]
                rw [ec, e] at hc
                cases hc
                exact ⟨_, _, rfl, by omega⟩
              · rw [if_neg ec]
                exact ⟨_, _, hc, Nat.le_refl _⟩
            · dsimp only at hc
              by_cases ec : c = ch (gN q - lag)
              · rw [if_pos ec] at hc
                cases hc
                exact ⟨_, _, by rw [ec]; exact e⟩
              · rw [if_neg ec] at hc
                exact ⟨_, _, hc⟩
          · exact base
theorem tkey_rs {lag : Nat} {s : RS} {q : PQ} (hs : rsV s) : rsV ((tkey lag s.1 q).2, s.2) := by
  obtain ⟨h1, h2, h3, h4⟩ := hs
  obtain ⟨t1, t2, t3⟩ := tkey_V (lag := lag) (q := q) h1
  refine ⟨t1, fun i x hx => ⟨(h2 i x hx).1, fun fi v K hc => ?_⟩, h3, h4.le t2⟩
  obtain ⟨v', K', e⟩ := t3 _ _ _ _ hc
  exact (h2 i x hx).2 _ _ _ e
/-- without a new latest key nothing is due -/
theorem tkey_0 {lag : Nat} {kn : KN} {q : PQ} (h : (tkey lag kn q).1 ≠ 1) : (tkey lag kn q).2 = kn := by
  unfold tkey at h ⊢
  split
  · rfl
  · next hg =>
    rw [if_neg hg] at h
    cases e : kn (ch (gN q - lag)) with
    | none => rfl
    | some x =>
      obtain ⟨fi, v, K⟩ := x
      rw [e] at h
      dsimp only at h ⊢
      split
      · rfl
      · next h1 =>
        rw [if_neg h1] at h
        split
        · split <;> rfl
        · next h2 =>
          rw [if_neg h2] at h
          split
          · next h3 =>
            rw [if_pos h3] at h
            exact absurd rfl h
          · rfl
theorem arr_V {lag : Nat} {C : Int32 × Int32 × Int32 × Int32} {dr : Int32} {s : RS} {q : PQ} (hs : rsV s) (hn : ndV s.1 s.2.1) (hq : pkB q) : rsV (arr lag C dr s q).2 ∧ ndV (arr lag C dr s q).2.1 (arr lag C dr s q).2.2.1 ∧ (arr lag C dr s q).1 < 7 ∧ (arr lag C dr s q).2.2.1.length + (arr lag C dr s q).2.2.2.1.length ≤ s.2.1.length + s.2.2.1.length + 1 := by
  unfold arr
  split
  · next ho =>
    have hv : pkV q := pkV_of hq ho
    split
    · exact ⟨hs, hn, by dsimp only; decide, by show s.2.1.length + s.2.2.1.length ≤ _; omega⟩
    · have t1 := tkey_rs (lag := lag) (q := q) hs
      have t2 := relN_V 16 _ t1
      have t3 := relN_end 16 _ t1 hs.2.2.1
      have t4 : (relN 16 ((tkey lag s.1 q).2, s.2)).2.1.length + (relN 16 ((tkey lag s.1 q).2, s.2)).2.2.1.length ≤ s.2.1.length + s.2.2.1.length := t2.2
      generalize relN 16 ((tkey lag s.1 q).2, s.2) = s1 at t2 t3 t4 ⊢
      obtain ⟨⟨a1, a2, a3, a4⟩, -⟩ := t2
      unfold arr2
      split
      · exact ⟨⟨a1, a2, a3, a4⟩, t3, by dsimp only; decide, by show s1.2.1.length + s1.2.2.1.length ≤ _; omega⟩
      · next hl =>
        have hnd : due s1.1 (gN q) = false := by
          cases hd : due s1.1 (gN q) with
          | false => rfl
          | true => exact absurd (Or.inr hd) hl
        split
        · exact ⟨⟨a1, a2, a3, a4⟩, t3, by dsimp only; decide, by show s1.2.1.length + s1.2.2.1.length ≤ _; omega⟩
        · split
          · next h16 =>
            refine ⟨⟨a1, fun i x hx => ?_, ?_, a4⟩, fun i x hx => ?_, by show (0 : Nat) < 7; decide, ?_⟩
            · rcases getP hx with hx | hx
              · exact a2 i x hx
              · rw [hx]
                refine ⟨hv, fun fi v K hc => ?_⟩
                unfold due at hnd
                rw [hc] at hnd
                have := of_decide_eq_false hnd
                have := a1 _ _ _ _ hc
                omega
            · show (s1.2.1 ++ [q]).length ≤ 16
              simp only [List.length_append, List.length_singleton]
              omega
            · rcases getP hx with hx | hx
              · exact t3 i x hx
              · rw [hx]
                exact hnd
            · show (s1.2.1 ++ [q]).length + s1.2.2.1.length ≤ _
              simp only [List.length_append, List.length_singleton]
              omega
          · exact ⟨⟨a1, a2, a3, a4⟩, t3, by dsimp only; decide, by show s1.2.1.length + s1.2.2.1.length ≤ _; omega⟩
  · exact ⟨hs, hn, by dsimp only; decide, by show s.2.1.length + s.2.2.1.length ≤ _; omega⟩
