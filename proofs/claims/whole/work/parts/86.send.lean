/-! a packet is made -/
theorem ur24 {x : Int32} : ho_ur x 24 = s_by x 0 := by
  rw [← s_by_ur (by decide)]
  apply i_ext
  rw [Int32.toBitVec_and, bt_ur (n := 24) rfl (by decide), bt_ur (y := 24) (n := 24) rfl (by decide)]
  apply BitVec.eq_of_getLsbD_eq
  intro i hi
  rw [BitVec.getLsbD_and, show (255 : Int32).toBitVec = 255#32 from rfl, m255, BitVec.getLsbD_ushiftRight]
  by_cases h : i < 8
  · simp [h]
  · rw [BitVec.getLsbD_of_ge _ _ (by omega)]
    simp
/-- a packet's bytes: interval, kind, size, body, code, shown key -/
def pkS (F : Nat → Int32) (g : Nat) (kd : Int32) (n : Nat) (body K sh : Nat → Int32) : Prop := (∀ q, q < 4 → F q = s_by (ii g) q) ∧ F 4 = kd ∧ F 5 = ii n ∧ (∀ i, i < n → F (6 + i) = body i) ∧ (∀ i, i < 10 → F (6 + n + i) = s_cd K F (6 + n) i) ∧ ∀ i, i < 20 → F (16 + n + i) = sh i
theorem pkS.uq {F F' : Nat → Int32} {g n : Nat} {kd : Int32} {body K sh : Nat → Int32} (h : pkS F g kd n body K sh) (h' : pkS F' g kd n body K sh) : ∀ k, k < 36 + n → F k = F' k := by
  obtain ⟨a1, a2, a3, a4, a5, a6⟩ := h
  obtain ⟨b1, b2, b3, b4, b5, b6⟩ := h'
  have lo : ∀ k, k < 6 + n → F k = F' k := fun k hk => by
    by_cases h1 : k < 4
    · rw [a1 k h1, b1 k h1]
    · by_cases h2 : k = 4
      · rw [h2, a2, b2]
      · by_cases h3 : k = 5
        · rw [h3, a3, b3]
        · have e1 := a4 (k - 6) (by omega)
          have e2 := b4 (k - 6) (by omega)
          rw [show 6 + (k - 6) = k by omega] at e1 e2
          rw [e1, e2]
  intro k hk
  by_cases h1 : k < 6 + n
  · exact lo k h1
  · by_cases h2 : k < 16 + n
    · have e1 := a5 (k - (6 + n)) (by omega)
      have e2 := b5 (k - (6 + n)) (by omega)
      rw [show 6 + n + (k - (6 + n)) = k by omega] at e1 e2
      rw [e1, e2]
      exact s_cd_congr (fun _ _ => rfl) (fun z hz => lo z hz) _ (by omega)
    · have e1 := a6 (k - (16 + n)) (by omega)
      have e2 := b6 (k - (16 + n)) (by omega)
      rw [show 16 + n + (k - (16 + n)) = k by omega] at e1 e2
      rw [e1, e2]
theorem pkS.wd {F : Nat → Int32} {g n : Nat} {kd : Int32} {body K sh : Nat → Int32} (h : pkS F g kd n body K sh) : s_wd F 0 = ii g := by
  have e : s_wd F 0 = s_wd (s_bs fun _ => ii g) (4 * 0) := s_wd_congr (h.1 0 (by decide)) (h.1 1 (by decide)) (h.1 2 (by decide)) (h.1 3 (by decide))
  rw [e, s_wd_bs]
theorem pkS.B {F : Nat → Int32} {g n kn : Nat} {body K sh : Nat → Int32} (h : pkS F g (ii kn) n body K sh) (hn : n ≤ 32) (hk : kn ≤ 1) (hb : ∀ i, i < n → isb (body i)) (hs : ∀ i, i < 20 → isb (sh i)) : pkB (36 + n, F) := by
  obtain ⟨a1, a2, a3, a4, a5, a6⟩ := h
  refine ⟨by show 36 ≤ 36 + n; omega, by show 36 + n ≤ 68; omega, fun k hk' => ?_⟩
  have hk2 : k < 36 + n := hk'
  show isb (F k)
  by_cases h1 : k < 4
  · rw [a1 k h1]
    exact isb_by
  · by_cases h2 : k = 4
    · rw [h2, a2]
      exact isb_ii (by omega)
    · by_cases h3 : k = 5
      · rw [h3, a3]
        exact isb_ii (by omega)
      · by_cases h4 : k < 6 + n
        · have e := a4 (k - 6) (by omega)
          rw [show 6 + (k - 6) = k by omega] at e
          rw [e]
          exact hb _ (by omega)
        · by_cases h5 : k < 16 + n
          · have e := a5 (k - (6 + n)) (by omega)
            rw [show 6 + n + (k - (6 + n)) = k by omega] at e
            rw [e]
            exact isb_bs
          · have e := a6 (k - (16 + n)) (by omega)
            rw [show 16 + n + (k - (16 + n)) = k by omega] at e
            rw [e]
            exact hs _ (by omega)
section SN
variable {G : ho_G} {σ σ' : ho_H} {w w' : Nat → Nat} {N O n M : Nat} {C : CK} {cc : Nat} {bf : Nat → Int32} {W : Nat → Nat → Int32} {PL : List PQ} {ρ : Nat → RS} {dr : Nat → Int32} {T : Nat → Nat → Prop}
theorem pk.own {p : Nat} {q : PQ} (h : pk G σ w O p q) (e : ∀ a, w a ≠ 1 → w' a = w a) : pk G σ w' O p q := by
  obtain ⟨m, h1, h2, h3, h4, h5⟩ := h
  exact ⟨m, h1, h2, (e p (by rw [h3]; decide)).trans h3, (e m (by rw [h4]; decide)).trans h4, h5⟩
theorem pls.own {l : Nat} {qs : List PQ} (h : pls G σ w O l qs) (hl : 1 < l) (e : ∀ a, w a ≠ 1 → w' a = w a) : pls G σ w' O l qs := by
  obtain ⟨d, cap, mc, f, h1, h2, h3⟩ := h
  refine ⟨d, cap, mc, f, h1, ?_, fun i q hq => ?_⟩
  · rcases h2 with h2 | ⟨h2, h4, h5⟩
    · exact Or.inl h2
    · exact Or.inr ⟨h2, (e d (by omega)).trans h4, h5⟩
  · obtain ⟨p, g1, g2⟩ := h3 i q hq
    exact ⟨p, g1, g2.own e⟩
theorem rcv.own {b : Nat} {s : RS} {d : Int32} (h : rcv G σ w O b s d) (e : ∀ a, w a ≠ 1 → w' a = w a) : rcv G σ w' O b s d := by
  obtain ⟨h1, h2, h3, h4, h5, h6, h7⟩ := h
  exact ⟨h1, h2, h3, h4.own (by omega) e, h5.own (by omega) e, h6, h7⟩
theorem cls.own (h : cls G σ w O C cc bf W PL ρ dr) (e : ∀ a, w a ≠ 1 → w' a = w a) : cls G σ w' O C cc bf W PL ρ dr := by
  obtain ⟨c1, c2, c3, c4, c5, c6, c7, c8, c9⟩ := h
  exact ⟨c1, c2, c3, c4, c5, c6.own (by omega) e, c7, fun r hr => (c8 r hr).own e, c9⟩
/-- only the sealer, and a packet in the making -/
def TP (O : Nat) : Nat → Nat → Prop := fun a o => (O + 2 ≤ a ∧ a < O + 7) ∨ (O + 227 ≤ a ∧ o = 1)
theorem cls.tp (h : cls G σ w O C cc bf W PL ρ dr) (hb : bse G σ' O C) (hf : frm σ w σ' w' (TP O)) : cls G σ' w' O C cc bf W PL ρ dr := by
  obtain ⟨c1, c2, c3, c4, c5, c6, c7, c8, c9⟩ := h
  have b1 := c1.1
  have hT : ∀ a o, a < O + 2 ∨ (O + 7 ≤ a ∧ a < O + 227) ∨ (O + 7 ≤ a ∧ o ≠ 1) → ¬ TP O a o := fun a o h ht => by rcases ht with ht | ht <;> omega
  exact ⟨hb, c2.fr b1 hf (hT _ _ (by omega)), c3.fr b1 hf (hT _ _ (by omega)), c4.fr b1 hf (hT _ _ (by omega)), c5.fr b1 hf (fun a a1 a2 => hT _ _ (by omega)), c6.fr b1 hf (hT _ _ (by omega)) (fun a ha => hT _ _ (by omega)) (fun a ha => hT _ _ (by omega)), c7.fr b1 hf (hT _ _ (by omega)), c8.fr b1 hf (fun a a1 a2 => hT _ _ (by omega)) (fun a o a1 a2 => hT _ _ (by omega)), c9.fr b1 hf (hT _ _ (by omega))⟩
/-- a packet in the making -/
def mk (G : ho_G) (σ : ho_H) (w : Nat → Nat) (O p m bn : Nat) (F : Nat → Int32) : Prop := σ.2.2 p = some (.inr (3, [.ref m])) ∧ σ.2.2 m = some (.inl (gc G 0, bn, .inl F)) ∧ w p = 1 ∧ w m = 1 ∧ O + 227 ≤ p ∧ O + 227 ≤ m ∧ p ≠ m
theorem newp {g kd : Int32} {k : Nat} (g1 : cls G σ w O C cc bf W PL ρ dr) (hk : k ≤ 32) (r1 : σ.1 + 20 ≤ gC G) (r2 : σ.2.1 + 6000 ≤ gS G) : ∃ σ1 w1, bd2 (ho_al G σ 1 (.inr (3, [.null]))) (fun σ12 b13 => (ho_cv σ12 (f_Pk_init1 G N σ12 b13 g kd (ii k))).bind fun σ14 => some (σ14, b13)) = some (σ1, σ.1) ∧ ho_al G σ 1 (.inr (3, [.null])) = some (new σ 1 (.inr (3, [.null])), σ.1) ∧ ho_cv (new σ 1 (.inr (3, [.null]))) (f_Pk_init1 G N (new σ 1 (.inr (3, [.null]))) σ.1 g kd (ii k)) = some σ1 ∧ cls G σ1 w1 O C cc bf W PL ρ dr ∧ mk G σ1 w1 O σ.1 (σ.1 + 1) (36 + k) (pkhd g kd k) ∧ frm σ w σ1 w1 (fun _ _ => False) ∧ σ1.1 = σ.1 + 2 ∧ σ1.2.1 = σ.2.1 + (37 + k) := by
  obtain ⟨hw, hO, hz, -⟩ := g1.1
  have e1 : ho_al G σ 1 (.inr (3, [.null])) = some (new σ 1 (.inr (3, [.null])), σ.1) := al_S (by omega) (by omega)
  have w1 : wf G (new σ 1 (.inr (3, [.null]))) := hw.new (by omega)
  have e2 := Pk_init1_S (N := N) (g := g) (kd := kd) (n := k) w1 new_at hk (show σ.1 + 1 + 1 ≤ gC G by omega) (show σ.2.1 + 1 + 68 ≤ gS G by omega)
  have fs : (new σ 1 (.inr (3, [.null]))).1 = σ.1 + 1 := rfl
  generalize hσ2 : ho_set (ho_set (new (new σ 1 (.inr (3, [.null]))) (36 + k) (.inl (gc G 0, 36 + k, .inl fun _ => 0))) σ.1 (.inr (3, [.ref (new σ 1 (.inr (3, [.null]))).1]))) (new σ 1 (.inr (3, [.null]))).1 (.inl (gc G 0, 36 + k, .inl (pkhd g kd k))) = σ2 at e2
  have z1 : σ2.1 = σ.1 + 2 := by rw [← hσ2]; rfl
  have z2 : σ2.2.1 = σ.2.1 + (37 + k) := by rw [← hσ2]; show σ.2.1 + 1 + (36 + k) = _; omega
  have c1 : σ2.2.2 σ.1 = some (.inr (3, [.ref (σ.1 + 1)])) := by rw [← hσ2, set_ne (by rw [fs]; omega), set_at, fs]
  have c2 : σ2.2.2 (σ.1 + 1) = some (.inl (gc G 0, 36 + k, .inl (pkhd g kd k))) := by rw [← hσ2]; exact set_at
  have c3 : ∀ a, a ≠ σ.1 → a ≠ σ.1 + 1 → σ2.2.2 a = σ.2.2 a := fun a h1 h2 => by rw [← hσ2, set_ne (by rw [fs]; exact h2), set_ne h1, new_ne (by rw [fs]; exact h2), new_ne h1]
  have ff : frm σ w σ2 (fun a => if a = σ.1 ∨ a = σ.1 + 1 then 1 else w a) (fun _ _ => False) := ⟨by omega, by omega, fun a ha => ⟨if_neg (by omega), fun _ => c3 a (by omega) (by omega)⟩⟩
  have w2 : wf G σ2 := ⟨fun a ha => by rw [c3 a (by omega) (by omega)]; exact hw.1 a ha, fun a ha => by rw [c3 a (by omega) (by omega)]; exact hw.2 a (by omega)⟩
  have e3 : ho_cv (new σ 1 (.inr (3, [.null]))) (f_Pk_init1 G N (new σ 1 (.inr (3, [.null]))) σ.1 g kd (ii k)) = some σ2 := by rw [e2, cv_S (by rw [fs]; omega) (by show σ.2.1 + 1 ≤ _; omega)]
  exact ⟨σ2, _, by rw [e1, bd2_S, e3, bd_S], e1, e3, g1.fr ff w2 (fun _ _ _ h => h) (fun h => h) (fun _ _ _ _ h => h), ⟨c1, c2, if_pos (Or.inl rfl), if_pos (Or.inr rfl), by omega, by omega, by omega⟩, ff, z1, z2⟩
/-- bytes of the packet in the making are written -/
theorem mk.set {p m bn : Nat} {F F' : Nat → Int32} (h : mk G σ w O p m bn F) (g1 : cls G σ w O C cc bf W PL ρ dr) : cls G (ho_set σ m (.inl (gc G 0, bn, .inl F'))) w O C cc bf W PL ρ dr ∧ mk G (ho_set σ m (.inl (gc G 0, bn, .inl F'))) w O p m bn F' ∧ frm σ w (ho_set σ m (.inl (gc G 0, bn, .inl F'))) w (TP O) := by
  obtain ⟨h1, h2, h3, h4, h5, h6, h7⟩ := h
  have f1 : frm σ w (ho_set σ m (.inl (gc G 0, bn, .inl F'))) w (TP O) := frm.set (Or.inr ⟨h6, h4⟩)
  have f2 : frm σ w (ho_set σ m (.inl (gc G 0, bn, .inl F'))) w (fun a _ => a = m) := frm.set rfl
  exact ⟨g1.tp (g1.1.fr f2 (g1.1.1.set h2) (fun a a1 a2 => by omega)) f1, ⟨by rw [set_ne h7]; exact h1, set_at, h3, h4, h5, h6, h7⟩, f1⟩
theorem writeCode_S {p m bn k a : Nat} {F sf : Nat → Int32} (h : mk G σ w O p m bn F) (h5 : F 5 = ii k) (hk : k ≤ 32) (hbn : 16 + k ≤ bn) (ha : ho_rI G σ a = some (8, sf)) (ham : a ≠ m) (hN : 301 < N) : f_Pk_writeCode G N σ p a = some (ho_set σ m (.inl (gc G 0, bn, .inl (s_cp F (s_bs sf) (6 + k) 10)))) := by
  obtain ⟨h1, h2, -, -, -, -, h7⟩ := h
  have e : ho_it (f_Pk_writeCode_l2 G N p a) N (σ, 0) = some (ho_set σ m (.inl (gc G 0, bn, .inl (s_cp F (s_bs sf) (6 + k) 10)))) := by
    refine it_for 10 (fun i => (ho_set σ m (.inl (gc G 0, bn, .inl (s_cp F (s_bs sf) (6 + k) i))), ii i)) _ (fun i hi => ?_) ?_ (by omega) (by rw [s_cp_0, set_self h2]; rfl)
    · have p1 : (ho_set σ m (.inl (gc G 0, bn, .inl (s_cp F (s_bs sf) (6 + k) i)))).2.2 p = some (.inr (3, [.ref m])) := by rw [set_ne h7]; exact h1
      have e5 : s_cp F (s_bs sf) (6 + k) i 5 = ii k := by
        unfold s_cp
        rw [if_neg (by omega)]
        exact h5
      have ca : f_Pk_codeAt G N (ho_set σ m (.inl (gc G 0, bn, .inl (s_cp F (s_bs sf) (6 + k) i)))) p = some (ii (6 + k)) := by
        unfold f_Pk_codeAt f_Pk_size
        rw [c_f p1, bd_S, c_R p1 rfl, bd_S, show (5 : Int32) = ii 5 from rfl, c_ld set_at (by omega) (by decide), bd_S, bd_S, e5]
        exact congrArg some (ii_add 6 k)
      have ba : f_Of_byteOf G N (ho_set σ m (.inl (gc G 0, bn, .inl (s_cp F (s_bs sf) (6 + k) i)))) a (ii i) = some (s_bs sf i) := Of_byteOf_S (n := 8) (by
        unfold ho_rI
        rw [set_ne ham]
        exact ha) (by omega) (by omega)
      unfold f_Pk_writeCode_l2
      dsimp only
      rw [if_neg (by rw [show (10 : Int32) = ii 10 from rfl, ii_le (by decide) (by omega)]; omega), c_R p1 rfl, bd_S, c_f p1, bd_S, ca, bd_S, ba, bd_S, ii_add, c_st set_at (by omega) (by omega), bd_S, set_set, s_cp_up rfl, ii_1]
    · unfold f_Pk_writeCode_l2
      dsimp only
      rw [if_pos (by decide)]
  unfold f_Pk_writeCode
  rw [e, bd_S]
end SN
