/-! class and model together -/
abbrev CK : Type := Int32 × Int32 × Int32 × Int32
def cOf (σ : ho_H) (O cc : Nat) : Prop := σ.2.2 O = some (.inr (5, [.ref (O + 1), .ref (O + 2), .ref (O + 7), .ref (O + 8), .int (ii cc), .ref (O + 25), .ref (O + 26)]))
def cBf (G : ho_G) (σ : ho_H) (O : Nat) (bf : Nat → Int32) : Prop := ∃ f, σ.2.2 (O + 7) = some (.inl (gc G 0, 8, .inl f)) ∧ ∀ i, i < 8 → f i = bf i
def cCa (G : ho_G) (σ : ho_H) (O : Nat) : Prop := ∃ f, σ.2.2 (O + 8) = some (.inl (gc G 3, 8, .inr (.inr (.inr (.inr f))))) ∧ ∀ c, c < 8 → f c = some (O + 9 + 2 * c)
def cCh (G : ho_G) (σ : ho_H) (O cc : Nat) (W : Nat → Nat → Int32) : Prop := ∀ c, c < 8 → ∃ fi la f, σ.2.2 (O + 9 + 2 * c) = some (.inr (2, [.ref (O + 10 + 2 * c), .int fi, .int la])) ∧ σ.2.2 (O + 10 + 2 * c) = some (.inl (gc G 0, 325, .inl f)) ∧ (c < cc → ∀ i, i < 1300 → s_bs f i = W c i)
def cRa (G : ho_G) (σ : ho_H) (O : Nat) : Prop := ∃ f, σ.2.2 (O + 26) = some (.inl (gc G 4, 8, .inr (.inr (.inr (.inr f))))) ∧ ∀ r, r < 8 → f r = some (O + 27 + 21 * r)
def cRc (G : ho_G) (σ : ho_H) (w : Nat → Nat) (O : Nat) (ρ : Nat → RS) (dr : Nat → Int32) : Prop := ∀ r, r < 8 → rcv G σ w O (O + 27 + 21 * r) (ρ r) (dr r)
def cOu (G : ho_G) (σ : ho_H) (O : Nat) : Prop := ∃ f, σ.2.2 (O + 226) = some (.inl (gc G 2, 1, .inr (.inl f)))
/-- the class's cells -/
def cls (G : ho_G) (σ : ho_H) (w : Nat → Nat) (O : Nat) (C : CK) (cc : Nat) (bf : Nat → Int32) (W : Nat → Nat → Int32) (PL : List PQ) (ρ : Nat → RS) (dr : Nat → Int32) : Prop := bse G σ O C ∧ cOf σ O cc ∧ cBf G σ O bf ∧ cCa G σ O ∧ cCh G σ O cc W ∧ pls G σ w O (O + 25) PL ∧ cRa G σ O ∧ cRc G σ w O ρ dr ∧ cOu G σ O
/-- the model's fields -/
def mdl (I : Nat → Int32) (A : Nat → Nat → Int32) (C : CK) (cc : Nat) (bf : Nat → Int32) (W : Nat → Nat → Int32) (PL : List PQ) (ρ : Nat → RS) (dr : Nat → Int32) : Prop := mtab A ∧ (I 13 = C.1 ∧ I 14 = C.2.1 ∧ I 15 = C.2.2.1 ∧ I 16 = C.2.2.2) ∧ I 17 = ii cc ∧ I 18 = ii PL.length ∧ (∀ i, i < 8 → A 19 i = bf i) ∧ (∀ c, c < cc → ∀ i, i < 1300 → A 20 (1300 * c + i) = W c i) ∧ (∀ (p : Nat) (q : PQ), PL[p]? = some q → A 21 p = ii q.1 ∧ ∀ k, k < q.1 → A 22 (68 * p + k) = q.2 k) ∧ ∀ r, r < 8 → A 23 r = dr r ∧ mrc A r (ρ r)
def ckV (C : CK) (lag tk er tm : Nat) : Prop := C = (ii lag, ii tk, ii er, ii tm) ∧ 1 ≤ lag ∧ lag ≤ 8 ∧ 1 ≤ tk ∧ tk ≤ 1000 ∧ er ≤ 10000 ∧ tm / tk + 1 ≤ 512
def inv (C : CK) (cc : Nat) (PL : List PQ) (ρ : Nat → RS) (n : Nat) : Prop := (∃ lag tk er tm, ckV C lag tk er tm) ∧ cc ≤ 8 ∧ PL.length ≤ 200 ∧ (∀ (p : Nat) (q : PQ), PL[p]? = some q → pkB q) ∧ ∀ r, r < 8 → rsV (ρ r) ∧ ndV (ρ r).1 (ρ r).2.1 ∧ (ρ r).2.1.length + (ρ r).2.2.1.length ≤ n
theorem inv.succ {C : CK} {cc : Nat} {PL : List PQ} {ρ : Nat → RS} {n : Nat} (h : inv C cc PL ρ n) : inv C cc PL ρ (n + 1) := by
  obtain ⟨h1, h2, h3, h4, h5⟩ := h
  refine ⟨h1, h2, h3, h4, fun r hr => ?_⟩
  obtain ⟨a, b, c⟩ := h5 r hr
  exact ⟨a, b, by omega⟩
theorem ckV.tm {C : CK} {lag tk er tm : Nat} (h : ckV C lag tk er tm) : tm < 600000 := by
  obtain ⟨-, -, -, h3, h4, -, h5⟩ := h
  have h6 := Nat.div_add_mod tm tk
  have h7 := Nat.mod_lt tm (show 0 < tk by omega)
  have h8 : tk * (tm / tk) ≤ 1000 * 511 := Nat.mul_le_mul h4 (by omega)
  omega
section TP
variable {G : ho_G} {σ σ' : ho_H} {w w' : Nat → Nat} {N O : Nat} {C : CK} {cc : Nat} {bf : Nat → Int32} {W : Nat → Nat → Int32} {PL : List PQ} {ρ : Nat → RS} {dr : Nat → Int32} {T : Nat → Nat → Prop}
theorem cOf.fr (h : cOf σ O cc) (hw : wf G σ) (hf : frm σ w σ' w' T) (hT : ¬ T O (w O)) : cOf σ' O cc := hf.at hw h hT
theorem cBf.fr (h : cBf G σ O bf) (hw : wf G σ) (hf : frm σ w σ' w' T) (hT : ¬ T (O + 7) (w (O + 7))) : cBf G σ' O bf := by
  obtain ⟨f, h1, h2⟩ := h
  exact ⟨f, hf.at hw h1 hT, h2⟩
theorem cCa.fr (h : cCa G σ O) (hw : wf G σ) (hf : frm σ w σ' w' T) (hT : ¬ T (O + 8) (w (O + 8))) : cCa G σ' O := by
  obtain ⟨f, h1, h2⟩ := h
  exact ⟨f, hf.at hw h1 hT, h2⟩
theorem cRa.fr (h : cRa G σ O) (hw : wf G σ) (hf : frm σ w σ' w' T) (hT : ¬ T (O + 26) (w (O + 26))) : cRa G σ' O := by
  obtain ⟨f, h1, h2⟩ := h
  exact ⟨f, hf.at hw h1 hT, h2⟩
theorem cOu.fr (h : cOu G σ O) (hw : wf G σ) (hf : frm σ w σ' w' T) (hT : ¬ T (O + 226) (w (O + 226))) : cOu G σ' O := by
  obtain ⟨f, h1⟩ := h
  exact ⟨f, hf.at hw h1 hT⟩
theorem cCh.fr (h : cCh G σ O cc W) (hw : wf G σ) (hf : frm σ w σ' w' T) (hT : ∀ a, O + 9 ≤ a → a < O + 25 → ¬ T a (w a)) : cCh G σ' O cc W := by
  intro c hc
  obtain ⟨fi, la, f, h1, h2, h3⟩ := h c hc
  exact ⟨fi, la, f, hf.at hw h1 (hT _ (by omega) (by omega)), hf.at hw h2 (hT _ (by omega) (by omega)), h3⟩
theorem cRc.fr (h : cRc G σ w O ρ dr) (hw : wf G σ) (hf : frm σ w σ' w' T) (hT : ∀ a, O + 27 ≤ a → a < O + 195 → ¬ T a (w a)) (hT2 : ∀ a o, O + 227 ≤ a → (o = 0 ∨ (O + 27 ≤ o ∧ o < O + 195)) → ¬ T a o) : cRc G σ' w' O ρ dr := fun r hr => (h r hr).fr hw hf (fun a h1 h2 => hT a (by omega) (by omega)) (fun a o h1 h2 => hT2 a o h1 (by omega))
/-- nothing of the class is touched -/
theorem cls.fr (h : cls G σ w O C cc bf W PL ρ dr) (hf : frm σ w σ' w' T) (hw : wf G σ') (hT : ∀ a, O ≤ a → a < O + 195 → ¬ T a (w a)) (hT2 : ¬ T (O + 226) (w (O + 226))) (hT3 : ∀ a o, O + 227 ≤ a → (o = 0 ∨ (O ≤ o ∧ o < O + 195)) → ¬ T a o) : cls G σ' w' O C cc bf W PL ρ dr := by
  obtain ⟨h1, h2, h3, h4, h5, h6, h7, h8, h9⟩ := h
  have hw0 := h1.1
  exact ⟨h1.fr hf hw (fun a a1 a2 => hT a (by omega) (by omega)), h2.fr hw0 hf (hT _ (by omega) (by omega)), h3.fr hw0 hf (hT _ (by omega) (by omega)), h4.fr hw0 hf (hT _ (by omega) (by omega)), h5.fr hw0 hf (fun a a1 a2 => hT a (by omega) (by omega)), h6.fr hw0 hf (hT _ (by omega) (by omega)) (fun a ha => hT3 a 0 ha (Or.inl rfl)) (fun a ha => hT3 a _ ha (Or.inr (by omega))), h7.fr hw0 hf (hT _ (by omega) (by omega)), h8.fr hw0 hf (fun a a1 a2 => hT a (by omega) (by omega)) (fun a o a1 a2 => hT3 a o a1 (by omega)), h9.fr hw0 hf hT2⟩
def TT (O : Nat) : Nat → Nat → Prop := fun a _ => ¬ (O + 195 ≤ a ∧ a < O + 226)
/-- an office's call: it ends with o -/
def OS {α : Type} (G : ho_G) (σ : ho_H) (w : Nat → Nat) (O : Nat) (f : Option (ho_H × (Nat ⊕ α))) (o : Nat ⊕ α) (C : CK) (cc : Nat) (bf : Nat → Int32) (W : Nat → Nat → Int32) (PL : List PQ) (ρ : Nat → RS) (dr : Nat → Int32) : Prop := ∃ σ1 w1, f = some (σ1, o) ∧ cls G σ1 w1 O C cc bf W PL ρ dr ∧ frm σ w σ1 w1 (TT O) ∧ σ1.1 ≤ σ.1 + 20 ∧ σ1.2.1 ≤ σ.2.1 + 6000
/-- a call of the law's on the class -/
def KS (G : ho_G) (σ : ho_H) (w : Nat → Nat) (O : Nat) (f : Option (ho_H × Int32)) (k : Nat) (v : Int32) (C : CK) (cc : Nat) (bf : Nat → Int32) (W : Nat → Nat → Int32) (PL : List PQ) (ρ : Nat → RS) (dr : Nat → Int32) : Prop := ∃ σ1 w1, f = some (σ1, ii k) ∧ cls G σ1 w1 O C cc bf W PL ρ dr ∧ frm σ w σ1 w1 (TT O) ∧ σ1.1 ≤ σ.1 + 20 ∧ σ1.2.1 ≤ σ.2.1 + 6000 ∧ (k = 0 → ho_ldL G σ1 (O + 226) 2 0 = some v.toInt64)
theorem thr_S (h : cls G σ w O C cc bf W PL ρ dr) (r1 : σ.1 + 20 ≤ gC G) (r2 : σ.2.1 + 6000 ≤ gS G) {α : Type} (i : Nat) : OS G σ w O ((ho_thr G σ).bind fun σ1 => some (σ1, (.inl i : Nat ⊕ α))) (.inl i) C cc bf W PL ρ dr := by
  have e : ho_thr G σ = some (σ.1 + 1, σ.2.1 + 6, σ.2.2) := by
    unfold ho_thr
    rw [if_pos ⟨by omega, by omega⟩]
  have hw := h.1.1
  have f1 : frm σ w (σ.1 + 1, σ.2.1 + 6, σ.2.2) w (fun _ _ => False) := ⟨Nat.le_succ _, Nat.le_add_right _ _, fun a _ => ⟨rfl, fun _ => rfl⟩⟩
  have w1 : wf G (σ.1 + 1, σ.2.1 + 6, σ.2.2) := ⟨hw.1, fun a ha => hw.2 a (by have : σ.1 + 1 ≤ a := ha; omega)⟩
  exact ⟨_, w, by rw [e, bd_S], h.fr f1 w1 (fun _ _ _ h => h) (fun h => h) (fun _ _ _ _ h => h), f1.mono fun a _ h => h.elim, by show σ.1 + 1 ≤ _; omega, by show σ.2.1 + 6 ≤ _; omega⟩
/-- the call changes nothing -/
theorem same_S (h : cls G σ w O C cc bf W PL ρ dr) {α : Type} (v : Nat ⊕ α) : OS G σ w O (some (σ, v)) v C cc bf W PL ρ dr := ⟨σ, w, rfl, h, frm.refl, by omega, by omega⟩
theorem stL_S {f : Nat → Int64} {a : Nat} {x : Int64} (h : σ.2.2 a = some (.inl (gc G 2, 1, .inr (.inl f)))) : ho_stL G σ a 2 0 x = some (ho_set σ a (.inl (gc G 2, 1, .inr (.inl (vp_updL f 0 x))))) := by
  unfold ho_stL ho_aL
  rw [h]
  dsimp only
  rw [if_pos rfl, bd_S, show (0 : Int32) = ii 0 from rfl, ii_ix (show 0 < 1 by decide) (by decide)]
  rfl
theorem ldL_S {f : Nat → Int64} {a : Nat} (h : σ.2.2 a = some (.inl (gc G 2, 1, .inr (.inl f)))) : ho_ldL G σ a 2 0 = some (f 0) := by
  unfold ho_ldL ho_aL
  rw [h]
  dsimp only
  rw [if_pos rfl, bd_S, show (0 : Int32) = ii 0 from rfl, ii_ix (show 0 < 1 by decide) (by decide)]
  rfl
theorem lw_ok {f : Option (ho_H × (Nat ⊕ Int32))} {h : ho_H → Nat → Option (ho_H × Int32)} {v : Int32} {cc0 : Nat} (h0 : cOf σ O cc0) (hs : OS G σ w O f (.inr v) C cc bf W PL ρ dr) : KS G σ w O ((ho_f σ O 5).bind fun _ => bd2 (ho_ck σ f) fun σ2 o3 => sm_e (fun i4 => h σ2 i4) (fun v5 => (ho_stL G σ2 (O + 226) 2 0 v5.toInt64).bind fun σ6 => some (σ6, 0)) o3) 0 v C cc bf W PL ρ dr := by
  obtain ⟨σ1, w1, a1, a2, a3, a4, a5⟩ := hs
  obtain ⟨f0, o1⟩ := a2.2.2.2.2.2.2.2.2
  have f2 : frm σ1 w1 (ho_set σ1 (O + 226) (.inl (gc G 2, 1, .inr (.inl (vp_updL f0 0 v.toInt64))))) w1 (fun a _ => a = O + 226) := frm.set rfl
  have w2 : wf G (ho_set σ1 (O + 226) (.inl (gc G 2, 1, .inr (.inl (vp_updL f0 0 v.toInt64))))) := a2.1.1.set o1
  refine ⟨_, w1, ?_, ?_, a3.trans (f2.mono fun a _ ht => by intro hh; omega), a4, a5, fun _ => ?_⟩
  · rw [c_f h0, bd_S, a1, ck_S a3.1 a3.2.1, bd2_S]
    show (ho_stL G σ1 (O + 226) 2 0 v.toInt64).bind _ = _
    rw [stL_S o1, bd_S]
    rfl
  · obtain ⟨h1, h2, h3, h4, h5, h6, h7, h8, -⟩ := a2
    have hw0 := h1.1
    exact ⟨h1.fr f2 w2 (fun a a1 a2 => by omega), h2.fr hw0 f2 (by omega), h3.fr hw0 f2 (by omega), h4.fr hw0 f2 (by omega), h5.fr hw0 f2 (fun a a1 a2 => by omega), h6.fr hw0 f2 (by omega) (fun a ha => by omega) (fun a ha => by omega), h7.fr hw0 f2 (by omega), h8.fr hw0 f2 (fun a a1 a2 => by omega) (fun a o a1 a2 => by omega), ⟨_, set_at⟩⟩
  · rw [ldL_S set_at]
    unfold vp_updL
    rw [if_pos rfl]
theorem lw_ex {f : Option (ho_H × (Nat ⊕ Int32))} {h : ho_H → Nat → Option (ho_H × Int32)} {g : ho_H → Int32 → Option (ho_H × Int32)} {v : Int32} {cc0 i k : Nat} (h0 : cOf σ O cc0) (hs : OS G σ w O f (.inl i) C cc bf W PL ρ dr) (hh : ∀ σ2, h σ2 i = some (σ2, ii k)) (hk : k ≠ 0) : KS G σ w O ((ho_f σ O 5).bind fun _ => bd2 (ho_ck σ f) fun σ2 o3 => sm_e (fun i4 => h σ2 i4) (fun v5 => g σ2 v5) o3) k v C cc bf W PL ρ dr := by
  obtain ⟨σ1, w1, a1, a2, a3, a4, a5⟩ := hs
  refine ⟨σ1, w1, ?_, a2, a3, a4, a5, fun e => absurd e hk⟩
  rw [c_f h0, bd_S, a1, ck_S a3.1 a3.2.1, bd2_S]
  exact hh σ1
end TP
