/-! cells of a heap, and what a call leaves alone -/
section CE
variable {G : ho_G} {σ : ho_H} {N : Nat}
theorem c_f {a ci : Nat} {fs : List Value} (h : σ.2.2 a = some (.inr (ci, fs))) : ho_f σ a ci = some fs := by
  unfold ho_f
  rw [h]
  exact if_pos rfl
theorem c_I {a ci j : Nat} {fs : List Value} {x : Int32} (h : σ.2.2 a = some (.inr (ci, fs))) (hj : fs[j]? = some (.int x)) : ho_gI σ a ci j = some x := by
  unfold ho_gI
  rw [c_f h, bd_S, hj]
  rfl
theorem c_R {a ci j : Nat} {fs : List Value} {x : Nat} (h : σ.2.2 a = some (.inr (ci, fs))) (hj : fs[j]? = some (.ref x)) : ho_gR σ a ci j = some x := by
  unfold ho_gR
  rw [c_f h, bd_S, hj]
  rfl
theorem c_p {a ci j : Nat} {fs : List Value} {v : Value} (h : σ.2.2 a = some (.inr (ci, fs))) (hj : j < fs.length) : ho_p σ a ci j v = some (ho_set σ a (.inr (ci, fs.set j v))) := by
  unfold ho_p
  rw [c_f h, bd_S, if_pos hj]
theorem c_a {a n : Nat} {f : Nat → Int32} (h : σ.2.2 a = some (.inl (gc G 0, n, .inl f))) : ho_aI G σ a 0 = some (n, f) := by
  unfold ho_aI
  rw [h]
  exact if_pos rfl
theorem c_r {a n : Nat} {f : Nat → Int32} (h : σ.2.2 a = some (.inl (gc G 0, n, .inl f))) : ho_rI G σ a = some (n, f) := by
  unfold ho_rI
  rw [h]
  exact if_pos rfl
theorem c_ar {a n kd : Nat} {f : Nat → Option Nat} (h : σ.2.2 a = some (.inl (gc G kd, n, .inr (.inr (.inr (.inr f)))))) : ho_aR G σ a kd = some (n, f) := by
  unfold ho_aR
  rw [h]
  exact if_pos rfl
theorem c_rr {a n kd : Nat} {f : Nat → Option Nat} (h : σ.2.2 a = some (.inl (gc G kd, n, .inr (.inr (.inr (.inr f)))))) : ho_rR G σ a kd = some (n, f) := by
  unfold ho_rR
  rw [h]
  exact if_pos rfl
theorem c_ldR {a n kd i p : Nat} {f : Nat → Option Nat} (h : σ.2.2 a = some (.inl (gc G kd, n, .inr (.inr (.inr (.inr f)))))) (hi : i < n) (hb : i < 2147483648) (hf : f i = some p) : ho_ldR G σ a kd (ii i) = some p := by
  unfold ho_ldR
  rw [c_ar h, bd_S, ii_ix hi hb, bd_S]
  exact hf
theorem c_stR {a n kd i : Nat} {x : Option Nat} {f : Nat → Option Nat} (h : σ.2.2 a = some (.inl (gc G kd, n, .inr (.inr (.inr (.inr f)))))) (hi : i < n) (hb : i < 2147483648) : ho_stR G σ a kd (ii i) x = some (ho_set σ a (.inl (gc G kd, n, .inr (.inr (.inr (.inr (va_up f i x))))))) := by
  unfold ho_stR
  rw [c_ar h, bd_S, ii_ix hi hb]
  rfl
theorem c_st {a n i : Nat} {x : Int32} {f : Nat → Int32} (h : σ.2.2 a = some (.inl (gc G 0, n, .inl f))) (hi : i < n) (hb : i < 2147483648) : ho_stI G σ a (ii i) x = some (ho_set σ a (.inl (gc G 0, n, .inl (upd f i x)))) := by
  unfold ho_stI
  rw [c_a h, bd_S, ii_ix hi hb]
  rfl
theorem c_ld {a n i : Nat} {f : Nat → Int32} (h : σ.2.2 a = some (.inl (gc G 0, n, .inl f))) (hi : i < n) (hb : i < 2147483648) : ho_ldI G σ a (ii i) = some (f i) := ld_S (c_r h) hi hb
theorem set_at {a : Nat} {e : va_E} : (ho_set σ a e).2.2 a = some e := if_pos rfl
theorem set_ne {a b : Nat} {e : va_E} (h : b ≠ a) : (ho_set σ a e).2.2 b = σ.2.2 b := if_neg h
theorem set_set {a : Nat} {e e' : va_E} : ho_set (ho_set σ a e) a e' = ho_set σ a e' := by
  unfold ho_set
  congr 2
  funext q
  by_cases h : q = a
  · rw [if_pos h, if_pos h]
  · rw [if_neg h, if_neg h]
    exact if_neg h
def new (σ : ho_H) (n : Nat) (e : va_E) : ho_H := (σ.1 + 1, σ.2.1 + n, fun q => if q = σ.1 then some e else σ.2.2 q)
theorem new_at {n : Nat} {e : va_E} : (new σ n e).2.2 σ.1 = some e := if_pos rfl
theorem new_ne {n b : Nat} {e : va_E} (h : b ≠ σ.1) : (new σ n e).2.2 b = σ.2.2 b := if_neg h
theorem al_S {n : Nat} {e : va_E} (h1 : σ.1 + 1 ≤ gC G) (h2 : σ.2.1 + n ≤ gS G) : ho_al G σ n e = some (new σ n e, σ.1) := by
  unfold ho_al
  rw [if_pos ⟨h1, h2⟩]
  rfl
theorem n_S {n : Nat} (hn : n ≤ 60000000) : ho_n (ii n) = some n := by
  unfold ho_n
  rw [ii_nat (by omega), if_neg]
  intro h
  rcases h with h | h
  · exact ii_nneg (by omega) h
  · omega
theorem nwI_S {n : Nat} (h1 : σ.1 + 1 ≤ gC G) (h2 : σ.2.1 + n ≤ gS G) (hn : n ≤ 60000000) : ho_nwI G σ (ii n) = some (new σ n (.inl (gc G 0, n, .inl fun _ => 0)), σ.1) := by
  unfold ho_nwI
  rw [n_S hn, bd_S, al_S h1 h2]
theorem nwR_S {n kd : Nat} (h1 : σ.1 + 1 ≤ gC G) (h2 : σ.2.1 + n ≤ gS G) (hn : n ≤ 60000000) : ho_nwR G σ kd (ii n) = some (new σ n (.inl (gc G kd, n, .inr (.inr (.inr (.inr fun _ => none))))), σ.1) := by
  unfold ho_nwR
  rw [n_S hn, bd_S, al_S h1 h2]
theorem cv_S {σ' : ho_H} (h1 : σ.1 ≤ σ'.1) (h2 : σ.2.1 ≤ σ'.2.1) : ho_cv σ (some σ') = some σ' := by
  unfold ho_cv
  rw [bd_S, if_pos ⟨h1, h2⟩]
theorem ck_S {α : Type} {σ' : ho_H} {v : α} (h1 : σ.1 ≤ σ'.1) (h2 : σ.2.1 ≤ σ'.2.1) : ho_ck σ (some (σ', v)) = some (σ', v) := by
  unfold ho_ck
  rw [bd_S, if_pos ⟨h1, h2⟩]
/-- nothing below the base, nothing above the end -/
def wf (G : ho_G) (σ : ho_H) : Prop := (∀ a, a < gB G → σ.2.2 a = none) ∧ ∀ a, σ.1 ≤ a → σ.2.2 a = none
theorem wf.lt {a : Nat} {x : va_E} (h : wf G σ) (e : σ.2.2 a = some x) : a < σ.1 := by
  by_cases ha : a < σ.1
  · exact ha
  · rw [h.2 a (by omega)] at e
    cases e
theorem wf.ge {a : Nat} {x : va_E} (h : wf G σ) (e : σ.2.2 a = some x) : gB G ≤ a := by
  by_cases ha : gB G ≤ a
  · exact ha
  · rw [h.1 a (by omega)] at e
    cases e
theorem wf.set {a : Nat} {x e : va_E} (h : wf G σ) (h1 : σ.2.2 a = some x) : wf G (ho_set σ a e) := by
  have g1 := h.lt h1
  have g2 := h.ge h1
  refine ⟨fun b hb => ?_, fun b hb => ?_⟩
  · rw [set_ne (by omega)]
    exact h.1 b hb
  · have hb' : σ.1 ≤ b := hb
    rw [set_ne (by omega)]
    exact h.2 b hb'
theorem wf.new {n : Nat} {e : va_E} (h : wf G σ) (h1 : gB G ≤ σ.1) : wf G (new σ n e) := by
  refine ⟨fun b hb => ?_, fun b hb => ?_⟩
  · rw [new_ne (by omega)]
    exact h.1 b hb
  · have hb' : σ.1 + 1 ≤ b := hb
    rw [new_ne (by omega)]
    exact h.2 b (by omega)
/-- σ' came out of σ: owners stay, cells outside T stay -/
def frm (σ : ho_H) (w : Nat → Nat) (σ' : ho_H) (w' : Nat → Nat) (T : Nat → Nat → Prop) : Prop := σ.1 ≤ σ'.1 ∧ σ.2.1 ≤ σ'.2.1 ∧ ∀ a, a < σ.1 → w' a = w a ∧ (¬ T a (w a) → σ'.2.2 a = σ.2.2 a)
theorem frm.refl {w : Nat → Nat} {T : Nat → Nat → Prop} : frm σ w σ w T := ⟨Nat.le_refl _, Nat.le_refl _, fun _ _ => ⟨rfl, fun _ => rfl⟩⟩
theorem frm.trans {σ1 σ2 : ho_H} {w w1 w2 : Nat → Nat} {T : Nat → Nat → Prop} (h1 : frm σ w σ1 w1 T) (h2 : frm σ1 w1 σ2 w2 T) : frm σ w σ2 w2 T := by
  refine ⟨Nat.le_trans h1.1 h2.1, Nat.le_trans h1.2.1 h2.2.1, fun a ha => ?_⟩
  have q1 := h1.2.2 a ha
  have q2 := h2.2.2 a (Nat.lt_of_lt_of_le ha h1.1)
  refine ⟨q2.1.trans q1.1, fun hT => ?_⟩
  rw [q2.2 (by rw [q1.1]; exact hT), q1.2 hT]
theorem frm.mono {σ' : ho_H} {w w' : Nat → Nat} {T T' : Nat → Nat → Prop} (h : frm σ w σ' w' T) (hT : ∀ a, a < σ.1 → T a (w a) → T' a (w a)) : frm σ w σ' w' T' := ⟨h.1, h.2.1, fun a ha => ⟨(h.2.2 a ha).1, fun hn => (h.2.2 a ha).2 fun ht => hn (hT a ha ht)⟩⟩
theorem frm.set {a : Nat} {e : va_E} {w : Nat → Nat} {T : Nat → Nat → Prop} (h : T a (w a)) : frm σ w (ho_set σ a e) w T := ⟨Nat.le_refl _, Nat.le_refl _, fun b hb => ⟨rfl, fun hn => set_ne fun e => hn (e ▸ h)⟩⟩
theorem frm.new {n : Nat} {e : va_E} {w w' : Nat → Nat} {T : Nat → Nat → Prop} (h : ∀ a, a < σ.1 → w' a = w a) : frm σ w (new σ n e) w' T := ⟨Nat.le_succ _, Nat.le_add_right _ _, fun b hb => ⟨h b hb, fun _ => new_ne (by omega)⟩⟩
theorem frm.at {σ' : ho_H} {w w' : Nat → Nat} {T : Nat → Nat → Prop} {a : Nat} {x : va_E} (h : frm σ w σ' w' T) (hw : wf G σ) (e : σ.2.2 a = some x) (hT : ¬ T a (w a)) : σ'.2.2 a = some x := ((h.2.2 a (hw.lt e)).2 hT).trans e
theorem frm.sz {σ' σ'' : ho_H} {w w' : Nat → Nat} {T : Nat → Nat → Prop} (h : frm σ w σ' w' T) (h1 : σ'.1 = σ''.1) : σ.1 ≤ σ''.1 := h1 ▸ h.1
/-- a packet -/
def pk (G : ho_G) (σ : ho_H) (w : Nat → Nat) (O p : Nat) (q : Nat × (Nat → Int32)) : Prop := ∃ m : Nat, σ.2.2 p = some (.inr (3, [.ref m])) ∧ σ.2.2 m = some (.inl (gc G 0, q.1, .inl q.2)) ∧ w p = 0 ∧ w m = 0 ∧ O + 227 ≤ p ∧ O + 227 ≤ m
theorem pk.fr {σ' : ho_H} {w w' : Nat → Nat} {T : Nat → Nat → Prop} {O p : Nat} {q : Nat × (Nat → Int32)} (h : pk G σ w O p q) (hw : wf G σ) (hf : frm σ w σ' w' T) (hT : ∀ a, O + 227 ≤ a → ¬ T a 0) : pk G σ' w' O p q := by
  obtain ⟨m, h1, h2, h3, h4, h5, h6⟩ := h
  exact ⟨m, hf.at hw h1 (by rw [h3]; exact hT _ h5), hf.at hw h2 (by rw [h4]; exact hT _ h6), (hf.2.2 p (hw.lt h1)).1.trans h3, (hf.2.2 m (hw.lt h2)).1.trans h4, h5, h6⟩
/-- a list of packets -/
def pls (G : ho_G) (σ : ho_H) (w : Nat → Nat) (O l : Nat) (qs : List (Nat × (Nat → Int32))) : Prop := ∃ (d cap : Nat) (mc : Int32) (f : Nat → Option Nat), σ.2.2 l = some (.inr (7, [.ref d, .int (ii qs.length), .int mc])) ∧ ((d = gA G 4 ∧ qs.length = 0) ∨ (O + 227 ≤ d ∧ w d = l ∧ σ.2.2 d = some (.inl (gc G 5, cap, .inr (.inr (.inr (.inr f))))) ∧ qs.length ≤ cap ∧ 1 ≤ cap ∧ cap ≤ 300)) ∧ ∀ i q, qs[i]? = some q → ∃ p, f i = some p ∧ pk G σ w O p q
theorem pls.fr {σ' : ho_H} {w w' : Nat → Nat} {T : Nat → Nat → Prop} {O l : Nat} {qs : List (Nat × (Nat → Int32))} (h : pls G σ w O l qs) (hw : wf G σ) (hf : frm σ w σ' w' T) (hl : ¬ T l (w l)) (hT : ∀ a, O + 227 ≤ a → ¬ T a 0) (hT2 : ∀ a, O + 227 ≤ a → ¬ T a l) : pls G σ' w' O l qs := by
  obtain ⟨d, cap, mc, f, h1, h2, h3⟩ := h
  refine ⟨d, cap, mc, f, hf.at hw h1 hl, ?_, fun i q hq => ?_⟩
  · rcases h2 with h2 | ⟨h2, h4, h5, h6⟩
    · exact Or.inl h2
    · exact Or.inr ⟨h2, (hf.2.2 d (hw.lt h5)).1.trans h4, hf.at hw h5 (by rw [h4]; exact hT2 _ h2), h6⟩
  · obtain ⟨p, g1, g2⟩ := h3 i q hq
    exact ⟨p, g1, g2.fr hw hf hT⟩
def TL (O l : Nat) : Nat → Nat → Prop := fun a o => a = l ∨ (O + 227 ≤ a ∧ o = l)
end CE
