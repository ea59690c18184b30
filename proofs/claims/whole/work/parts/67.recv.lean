/-! a receiver's cells -/
def kr (x : Option (Nat × Nat × (Nat → Int32))) (fi la : Int32) (f : Nat → Int32) : Prop := match x with
  | none => la = -1
  | some (a, v, K) => fi = ii a ∧ la = ii v ∧ ∀ k, a ≤ k → k ≤ v → ∀ i, i < 20 → s_bs f (20 * k + i) = dnN (v - k) K i
/-- the base: end, sealer, clock -/
def bse (G : ho_G) (σ : ho_H) (O : Nat) (C : Int32 × Int32 × Int32 × Int32) : Prop := wf G σ ∧ gB G ≤ O ∧ O + 227 ≤ σ.1 ∧ (∃ L B, σ = sl G σ (O + 2) L B) ∧ σ.2.2 (O + 1) = some (.inr (0, [.int C.1, .int C.2.1, .int C.2.2.1, .int C.2.2.2]))
/-- a receiver at b -/
def rcv (G : ho_G) (σ : ho_H) (w : Nat → Nat) (O b : Nat) (s : RS) (dr : Int32) : Prop :=
  (O + 27 ≤ b ∧ b + 21 ≤ O + 195) ∧
  σ.2.2 b = some (.inr (4, [.ref (O + 1), .ref (O + 2), .ref (b + 1), .ref (b + 2), .ref (b + 3), .ref (b + 4), .int (ii s.2.2.1.length), .int dr])) ∧
  (∃ f, σ.2.2 (b + 1) = some (.inl (gc G 3, 8, .inr (.inr (.inr (.inr f))))) ∧ ∀ c, c < 8 → f c = some (b + 5 + 2 * c)) ∧
  pls G σ w O (b + 2) s.2.1 ∧ pls G σ w O (b + 3) (s.2.2.1.take 100) ∧
  (∃ f, σ.2.2 (b + 4) = some (.inl (gc G 0, 7, .inl f)) ∧ ∀ j, j < 7 → f j = s.2.2.2 j) ∧
  ∀ c, c < 8 → ∃ fi la f, σ.2.2 (b + 5 + 2 * c) = some (.inr (2, [.ref (b + 6 + 2 * c), .int fi, .int la])) ∧ σ.2.2 (b + 6 + 2 * c) = some (.inl (gc G 0, 325, .inl f)) ∧ kr (s.1 c) fi la f
def TR (O b : Nat) : Nat → Nat → Prop := fun a o => (O + 2 ≤ a ∧ a < O + 7) ∨ (b ≤ a ∧ a < b + 21) ∨ (O + 227 ≤ a ∧ (o = b + 2 ∨ o = b + 3))
section RV
variable {G : ho_G} {σ : ho_H} {N : Nat} {w : Nat → Nat} {O b : Nat} {s : RS} {dr : Int32} {C : Int32 × Int32 × Int32 × Int32}
theorem sl_idem {R : ho_H} {S : Nat} {L : Int32} {B : Nat → Nat → Int32} : sl G R S L B = sl G (sl G R S L B) S L B := by
  refine sl_ext rfl rfl (fun a _ => rfl) (fun k => ?_)
  cases e : sle G S L B k with
  | none => rfl
  | some x => rw [sl_at e]; rfl
theorem sle_some {S : Nat} {L : Int32} {B : Nat → Nat → Int32} {k : Nat} (h : k < 5) : ∃ x, sle G S L B k = some x := by
  unfold sle
  by_cases h0 : k = 0
  · rw [if_pos h0]; exact ⟨_, rfl⟩
  · rw [if_neg h0, if_pos h]; exact ⟨_, rfl⟩
/-- the sealer's block written over R -/
theorem bse.sl {R : ho_H} {L : Int32} {B : Nat → Nat → Int32} (h : bse G σ O C) (h1 : σ.1 ≤ R.1) (hw : wf G R) (hc : R.2.2 (O + 1) = σ.2.2 (O + 1)) : bse G (sl G R (O + 2) L B) O C := by
  obtain ⟨a1, a2, a3, a4, a5⟩ := h
  refine ⟨⟨fun a ha => ?_, fun a ha => ?_⟩, a2, Nat.le_trans a3 h1, ⟨L, B, sl_idem⟩, ?_⟩
  · rw [sl_out (Or.inl (by omega))]
    exact hw.1 a ha
  · have ha' : R.1 ≤ a := ha
    rw [sl_out (Or.inr (by omega))]
    exact hw.2 a ha'
  · rw [sl_out (Or.inl (by omega)), hc]
    exact a5
theorem bse.fr {σ' : ho_H} {w w' : Nat → Nat} {T : Nat → Nat → Prop} (h : bse G σ O C) (hf : frm σ w σ' w' T) (hw : wf G σ') (hT : ∀ a, O + 1 ≤ a → a < O + 7 → ¬ T a (w a)) : bse G σ' O C := by
  obtain ⟨a1, a2, a3, ⟨L, B, a4⟩, a5⟩ := h
  refine ⟨hw, a2, Nat.le_trans a3 hf.1, ⟨L, B, ?_⟩, hf.at a1 a5 (hT _ (by omega) (by omega))⟩
  refine sl_ext rfl rfl (fun a _ => rfl) (fun k => ?_)
  cases e : sle G (O + 2) L B k with
  | none => rfl
  | some x =>
    have hk : k < 5 := by
      by_cases hk : k < 5
      · exact hk
      · unfold sle at e
        rw [if_neg (by omega), if_neg hk] at e
        cases e
    have := (hf.2.2 (O + 2 + k) (by omega)).2 (hT _ (by omega) (by omega))
    rw [this, a4, sl_at e]
    rfl
theorem frm.sl {R : ho_H} {w' : Nat → Nat} {T : Nat → Nat → Prop} {L : Int32} {B : Nat → Nat → Int32} (hf : frm σ w R w' T) (hT : ∀ a, O + 2 ≤ a → a < O + 7 → T a (w a)) : frm σ w (sl G R (O + 2) L B) w' T := by
  refine ⟨hf.1, hf.2.1, fun a ha => ⟨(hf.2.2 a ha).1, fun hn => ?_⟩⟩
  have : a < O + 2 ∨ O + 2 + 5 ≤ a := by
    by_cases h1 : a < O + 2
    · exact Or.inl h1
    · by_cases h2 : a < O + 7
      · exact absurd (hT a (by omega) h2) hn
      · exact Or.inr (by omega)
  rw [sl_out this]
  exact (hf.2.2 a ha).2 hn
theorem pk.isP {p : Nat} {q : PQ} (h : pk G σ w O p q) (hO : gB G ≤ O) : ∃ m, isP G σ (O + 2) p m q.1 q.2 := by
  obtain ⟨m, h1, h2, h3, h4, h5, h6⟩ := h
  refine ⟨m, c_f h1, c_a h2, Or.inr (by omega), Or.inr (by omega), fun e => ?_, by omega⟩
  rw [e, h2] at h1
  cases h1
theorem pk.f {p : Nat} {q : PQ} (h : pk G σ w O p q) : ∃ fs, ho_f σ p 3 = some fs := by
  obtain ⟨m, h1, -⟩ := h
  exact ⟨_, c_f h1⟩
theorem pk.gi {p : Nat} {q : PQ} (h : pk G σ w O p q) (hb : bse G σ O C) (h6 : 6 ≤ q.1) : f_Pk_interval G N σ p = some (s_wd q.2 0) := by
  obtain ⟨-, a2, -, ⟨L, B, a4⟩, -⟩ := hb
  obtain ⟨m, hP⟩ := h.isP a2
  have := Pk_interval_S (N := N) (L := L) (B := B) hP h6
  rw [← a4] at this
  exact this
theorem pk.kd {p : Nat} {q : PQ} (h : pk G σ w O p q) (hb : bse G σ O C) (h6 : 6 ≤ q.1) : f_Pk_kind G N σ p = some (q.2 4) := by
  obtain ⟨-, a2, -, ⟨L, B, a4⟩, -⟩ := hb
  obtain ⟨m, hP⟩ := h.isP a2
  have := Pk_kind_S (N := N) (L := L) (B := B) hP h6
  rw [← a4] at this
  exact this
theorem pk.sz {p : Nat} {q : PQ} (h : pk G σ w O p q) (hb : bse G σ O C) (h6 : 6 ≤ q.1) : f_Pk_size G N σ p = some (q.2 5) := by
  obtain ⟨-, a2, -, ⟨L, B, a4⟩, -⟩ := hb
  obtain ⟨m, hP⟩ := h.isP a2
  have := Pk_size_S (N := N) (L := L) (B := B) hP h6
  rw [← a4] at this
  exact this
theorem pkV.i {q : PQ} (h : pkV q) : s_wd q.2 0 = ii (gN q) := h.2.2.2.2.2.2.1
theorem pkV.g1 {q : PQ} (h : pkV q) : 1 ≤ gN q := h.2.2.2.2.1
theorem pkV.g2 {q : PQ} (h : pkV q) : gN q ≤ 512 := h.2.2.2.2.2.1
theorem pkV.n5 {q : PQ} (h : pkV q) : q.2 5 = ii (nN q) := h.2.2.2.2.2.2.2.1
theorem pkV.k4 {q : PQ} (h : pkV q) : q.2 4 = ii (kN q) := h.2.2.2.2.2.2.2.2.1
theorem pkV.n32 {q : PQ} (h : pkV q) : nN q ≤ 32 := h.2.1
theorem pkV.ln {q : PQ} (h : pkV q) : q.1 = 36 + nN q := h.1
theorem pkV.bb {q : PQ} (h : pkV q) : ∀ k, k < q.1 → isb (q.2 k) := h.2.2.2.2.2.2.2.2.2
theorem chainOf_S {g : Nat} (h1 : 1 ≤ g) (h2 : g < 2147483648) : f_Of_chainOf G N σ (ii g) = some (ii (ch g)) := by
  unfold f_Of_chainOf ch
  rw [show (1 : Int32) = ii 1 from rfl, ii_sub h1, show (64 : Int32) = ii 64 from rfl, ii_div (by omega) (by decide)]
theorem number_S {g : Nat} (h1 : 1 ≤ g) (h2 : g < 2147483648) : f_Of_numberInChain G N σ (ii g) = some (ii (nu g)) := by
  unfold f_Of_numberInChain nu
  rw [show (1 : Int32) = ii 1 from rfl, ii_sub h1, show (64 : Int32) = ii 64 from rfl, ii_rm (by omega) (by decide), ii_add]
theorem neg1_lt {n : Nat} (h : n < 2147483648) : (-1 : Int32) < ii n := by
  rw [Int32.lt_iff_toInt_lt, ii_toInt h, show (-1 : Int32).toInt = -1 from rfl]
  omega
theorem ne_neg1 {n : Nat} (h : n < 2147483648) : ¬ ii n = (-1 : Int32) := by
  intro e
  have := congrArg Int32.toInt e
  rw [ii_toInt h, show (-1 : Int32).toInt = -1 from rfl] at this
  omega
theorem rcv.f (h : rcv G σ w O b s dr) : ∃ fs, ho_f σ b 4 = some fs := ⟨_, c_f h.2.1⟩
theorem rcv.r2 (h : rcv G σ w O b s dr) : ho_gR σ b 4 2 = some (b + 1) := c_R h.2.1 rfl
theorem rcv.r0 (h : rcv G σ w O b s dr) : ho_gR σ b 4 0 = some (O + 1) := c_R h.2.1 rfl
theorem rcv.r1 (h : rcv G σ w O b s dr) : ho_gR σ b 4 1 = some (O + 2) := c_R h.2.1 rfl
theorem rcv.r3 (h : rcv G σ w O b s dr) : ho_gR σ b 4 3 = some (b + 2) := c_R h.2.1 rfl
theorem rcv.r4 (h : rcv G σ w O b s dr) : ho_gR σ b 4 4 = some (b + 3) := c_R h.2.1 rfl
theorem rcv.r5 (h : rcv G σ w O b s dr) : ho_gR σ b 4 5 = some (b + 4) := c_R h.2.1 rfl
theorem rcv.i6 (h : rcv G σ w O b s dr) : ho_gI σ b 4 6 = some (ii s.2.2.1.length) := c_I h.2.1 rfl
theorem rcv.i7 (h : rcv G σ w O b s dr) : ho_gI σ b 4 7 = some dr := c_I h.2.1 rfl
theorem rcv.kn (h : rcv G σ w O b s dr) {c : Nat} (hc : c < 8) : ho_ldR G σ (b + 1) 3 (ii c) = some (b + 5 + 2 * c) := by
  obtain ⟨f, h1, h2⟩ := h.2.2.1
  exact c_ldR h1 hc (by omega) (h2 c hc)
/-- is its key there -/
theorem hasKey_S {g : Nat} (h : rcv G σ w O b s dr) (hk : knV s.1) (h1 : 1 ≤ g) (h2 : g ≤ 512) : f_Rc_hasKeyFor G N σ b (ii g) = some (if due s.1 g = true then 1 else 0) := by
  obtain ⟨fi, la, f, k1, k2, k3⟩ := h.2.2.2.2.2.2 (ch g) (ch_lt h2)
  have n1 : nu g ≤ 64 := nu_le
  unfold f_Rc_hasKeyFor f_Rc_hasKeyFor_j24
  rw [h.r2, bd_S, chainOf_S h1 (by omega), bd_S, h.kn (ch_lt h2), bd_S, c_I k1 rfl, bd_S, number_S h1 (by omega), bd_S]
  unfold due
  cases e : s.1 (ch g) with
  | none =>
    rw [e] at k3
    have k4 : la = -1 := k3
    rw [k4, if_pos (neg1_lt (by omega))]
    rfl
  | some x =>
    obtain ⟨a, v, K⟩ := x
    rw [e] at k3
    have hv := hk _ _ _ _ e
    have k4 : la = ii v := k3.2.1
    rw [k4]
    dsimp only
    by_cases hn : nu g ≤ v
    · rw [if_neg (by rw [ii_lt (by omega) (by omega)]; omega), if_pos (decide_eq_true hn)]
      rfl
    · rw [if_pos (by rw [ii_lt (by omega) (by omega)]; omega), if_neg (fun hh => hn (of_decide_eq_true hh))]
      rfl
/-- which one goes out next -/
theorem nextTo_S (h : rcv G σ w O b s dr) (hb : bse G σ O C) (hs : rsV s) (hN : 301 < N) : f_Rc_nextToRelease G N σ b = some (match (bst s.1 s.2.1 s.2.1.length).1 with
  | none => -1
  | some k => ii k) := by
  have hl : s.2.1.length ≤ 16 := hs.2.2.1
  obtain ⟨fl, hfl⟩ := h.2.2.2.1.f
  obtain ⟨fb, hfb⟩ := h.f
  have e : ho_it (f_Rc_nextToRelease_l8 G N σ b) N ((-1), 513, 0) = some (match (bst s.1 s.2.1 s.2.1.length).1 with
    | none => -1
    | some k => ii k) := by
    refine it_for s.2.1.length (fun k => ((match (bst s.1 s.2.1 k).1 with
      | none => -1
      | some k => ii k), ii (bst s.1 s.2.1 k).2, ii k)) _ (fun k hk => ?_) ?_ (by omega) rfl
    · obtain ⟨q, hq⟩ : ∃ q, s.2.1[k]? = some q := ⟨_, List.getElem?_eq_getElem hk⟩
      have hv := (hs.2.1 k q hq).1
      obtain ⟨p, g1, g2⟩ := Al_get_S (N := N) h.2.2.2.1 hq
      obtain ⟨fp, hfp⟩ := g2.f
      have hlo : (bst s.1 s.2.1 k).2 ≤ 513 := by
        cases eb : (bst s.1 s.2.1 k).1 with
        | none => rw [(bst_none k eb).1]; omega
        | some j =>
          obtain ⟨x, x1, -, -, x4⟩ := bst_some k j eb
          rw [x4]
          have := (hs.2.1 j x x1).1.g2
          omega
      have gq := hv.g2
      have eb : bst s.1 s.2.1 (k + 1) = if gN q < (bst s.1 s.2.1 k).2 ∧ due s.1 (gN q) = true then (some k, gN q) else bst s.1 s.2.1 k := by
        rw [bst, hq]
      simp only [f_Rc_nextToRelease_l8, f_Rc_nextToRelease_j55_in8]
      rw [h.r3, bd_S, hfl, bd_S, Al_size_S h.2.2.2.1, bd_S, if_neg (by rw [ii_le (by omega) (by omega)]; omega), bd_S, hfl, bd_S, g1, bd_S, hfp, bd_S, bd_S, g2.gi hb (by have := hv.ln; omega), bd_S, hv.i, hasKey_S h hs.1 hv.g1 hv.g2, eb, show ii k + 1 = ii (k + 1) from ii_add k 1]
      by_cases hlt : gN q < (bst s.1 s.2.1 k).2
      · rw [if_neg (by rw [ii_le (by omega) (by omega)]; omega), hfb, bd_S, bd_S]
        by_cases hd : due s.1 (gN q) = true
        · rw [if_pos hd, if_neg (by decide), if_pos ⟨hlt, hd⟩]
        · rw [if_neg hd, if_pos rfl, if_neg (fun hh => hd hh.2)]
      · rw [if_pos (by rw [ii_le (by omega) (by omega)]; omega), if_neg (fun hh => hlt hh.1)]
    · simp only [f_Rc_nextToRelease_l8]
      rw [h.r3, bd_S, hfl, bd_S, Al_size_S h.2.2.2.1, bd_S, if_pos (by rw [ii_le (by omega) (by omega)]; omega)]
  unfold f_Rc_nextToRelease
  rw [e, bd_S]
end RV
