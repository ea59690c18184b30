/-! one call: class, then model -/
theorem ge0 {x : Int32} (h : ¬ x < 0) : x = ii x.toNatClampNeg ∧ x.toNatClampNeg < 2147483648 := by
  rw [Int32.lt_iff_toInt_lt] at h
  have e1 : (0 : Int32).toInt = 0 := rfl
  have e3 : x.toNatClampNeg = x.toInt.toNat := rfl
  have := Int32.toInt_lt x
  rw [e1] at h
  have hb : x.toNatClampNeg < 2147483648 := by omega
  refine ⟨?_, hb⟩
  apply Int32.toInt_inj.mp
  rw [ii_toInt hb]
  omega
/-- an index in range -/
theorem rng {x : Int32} {b : Nat} (hb : b < 2147483648) (h : ¬ x < 0) (h2 : x < ii b) : ∃ n, n < b ∧ x = ii n := by
  obtain ⟨e, hn⟩ := ge0 h
  refine ⟨x.toNatClampNeg, ?_, e⟩
  rw [e, ii_lt hn hb] at h2
  exact h2
theorem rng2 {x : Int32} {b : Nat} (hb : b < 2147483648) (h : ¬ x < 0) (h2 : ¬ ii b < x) : ∃ n, n ≤ b ∧ x = ii n := by
  obtain ⟨e, hn⟩ := ge0 h
  refine ⟨x.toNatClampNeg, ?_, e⟩
  rw [e, ii_lt hb hn] at h2
  omega
/-- class and model stand side by side, after n calls -/
def good (G : ho_G) (σ : ho_H) (w : Nat → Nat) (O n : Nat) (C : CK) (cc : Nat) (bf : Nat → Int32) (W : Nat → Nat → Int32) (PL : List PQ) (ρ : Nat → RS) (dr : Nat → Int32) : Prop := cls G σ w O C cc bf W PL ρ dr ∧ (∃ I A, σ = md G σ (O + 195) I A ∧ mdl I A C cc bf W PL ρ dr) ∧ inv C cc PL ρ n ∧ σ.1 ≤ O + 227 + 20 * n ∧ σ.2.1 ≤ 6000 * (n + 70)
/-- a model's call -/
def MS (G : ho_G) (M : Nat) (I : Nat → Int32) (A : Nat → Nat → Int32) (f : ho_H → Option (ho_H × Int32)) (k : Nat) (v : Int32) (C : CK) (cc : Nat) (bf : Nat → Int32) (W : Nat → Nat → Int32) (PL : List PQ) (ρ : Nat → RS) (dr : Nat → Int32) : Prop := ∀ R, ∃ I' A' v', f (md G R M I A) = some (md G R M I' A', v') ∧ I' 12 = ii k ∧ (k = 0 → v' = v) ∧ mdl I' A' C cc bf W PL ρ dr
/-- both -/
def J (G : ho_G) (N : Nat) (σ : ho_H) (O n : Nat) (fL : Option (ho_H × Int32)) (fM : ho_H → Option (ho_H × Int32)) : Prop := ∃ (σ1 : ho_H) (k : Int32) (σ2 : ho_H) (v2 : Int32), fL = some (σ1, k) ∧ (σ.1 ≤ σ1.1 ∧ σ.2.1 ≤ σ1.2.1) ∧ wf G σ1 ∧ (∃ fs, ho_f σ1 (O + 195) 6 = some fs) ∧ fM σ1 = some (σ2, v2) ∧ (σ1.1 ≤ σ2.1 ∧ σ1.2.1 ≤ σ2.2.1) ∧ (∃ fs, ho_f σ2 (O + 195) 6 = some fs) ∧ f_Md_thrown G N σ2 (O + 195) = some k ∧ (k = 0 → ho_ldL G σ2 (O + 226) 2 0 = some v2.toInt64) ∧ ∃ w2 C cc bf W PL ρ dr, good G σ2 w2 O (n + 1) C cc bf W PL ρ dr
section GL
variable {G : ho_G} {σ σ' : ho_H} {w w' : Nat → Nat} {N O n : Nat} {C C' : CK} {cc cc' : Nat} {bf bf' : Nat → Int32} {W W' : Nat → Nat → Int32} {PL PL' : List PQ} {ρ ρ' : Nat → RS} {dr dr' : Nat → Int32} {T : Nat → Nat → Prop}
theorem mde_lt {M k : Nat} {I : Nat → Int32} {A : Nat → Nat → Int32} {e : va_E} (h : mde G M I A k = some e) : k < 31 := by
  by_cases hk : k < 31
  · exact hk
  · cases k with
    | zero => omega
    | succ k =>
      have h' : (mfl[k]?).map (fun j => (.inl (gc G (mkd j), msz j, .inl (A j)) : va_E)) = some e := h
      rw [List.getElem?_eq_none (show mfl.length ≤ k by rw [show mfl.length = 30 from rfl]; omega)] at h'
      cases h'
theorem md_keep {M : Nat} {I : Nat → Int32} {A : Nat → Nat → Int32} (h : σ = md G σ M I A) (e : ∀ a, M ≤ a → a < M + 31 → σ'.2.2 a = σ.2.2 a) : σ' = md G σ' M I A := by
  refine md_ext rfl rfl (fun a _ => rfl) (fun k => ?_)
  cases hk : mde G M I A k with
  | none => rfl
  | some x =>
    have := mde_lt hk
    rw [e (M + k) (by omega) (by omega), h, md_at hk]
    rfl
theorem md_idem {M : Nat} {I : Nat → Int32} {A : Nat → Nat → Int32} : md G σ M I A = md G (md G σ M I A) M I A := by
  refine md_ext rfl rfl (fun a _ => rfl) (fun k => ?_)
  cases hk : mde G M I A k with
  | none => rfl
  | some x => rw [md_at hk]; rfl
theorem md_frm {M : Nat} {I : Nat → Int32} {A : Nat → Nat → Int32} : frm σ w (md G σ M I A) w (fun a _ => M ≤ a ∧ a < M + 31) := by
  refine ⟨Nat.le_refl _, Nat.le_refl _, fun a _ => ⟨rfl, fun hn => ?_⟩⟩
  show (if a < M then σ.2.2 a else (mde G M I A (a - M)).or (σ.2.2 a)) = _
  by_cases h : a < M
  · rw [if_pos h]
  · rw [if_neg h]
    cases hk : mde G M I A (a - M) with
    | none => rfl
    | some x =>
      have := mde_lt hk
      exact absurd ⟨by omega, by omega⟩ hn
theorem md_wf {M : Nat} {I : Nat → Int32} {A : Nat → Nat → Int32} (h : wf G σ) (h1 : gB G ≤ M) (h2 : M + 31 ≤ σ.1) : wf G (md G σ M I A) := by
  refine ⟨fun a ha => ?_, fun a ha => ?_⟩
  · show (if a < M then σ.2.2 a else (mde G M I A (a - M)).or (σ.2.2 a)) = _
    rw [if_pos (by omega)]
    exact h.1 a ha
  · have ha' : σ.1 ≤ a := ha
    show (if a < M then σ.2.2 a else (mde G M I A (a - M)).or (σ.2.2 a)) = _
    rw [if_neg (by omega)]
    cases hk : mde G M I A (a - M) with
    | none => exact h.2 a ha'
    | some x =>
      have := mde_lt hk
      omega
theorem lim {a b n : Nat} (h1 : a ≤ b + 6000) (h2 : b ≤ 6000 * (n + 70)) : a ≤ 6000 * (n + 1 + 70) := by omega
theorem glue {fL : Option (ho_H × Int32)} {fM : ho_H → Option (ho_H × Int32)} {k : Nat} {v : Int32} (hg : good G σ w O n C cc bf W PL ρ dr) (hk : KS G σ w O fL k v C' cc' bf' W' PL' ρ' dr') (hm : ∀ I A, mdl I A C cc bf W PL ρ dr → MS G (O + 195) I A fM k v C' cc' bf' W' PL' ρ' dr') (hi : inv C' cc' PL' ρ' (n + 1)) (hk9 : k < 2147483648) : J G N σ O n fL fM := by
  obtain ⟨g1, ⟨I, A, g2, g3⟩, g4, g5, g6⟩ := hg
  obtain ⟨σ1, w1, k1, k2, k3, k4, k5, k6⟩ := hk
  have hz := g1.1.2.2.1
  have hO := g1.1.2.1
  have e1 : σ1 = md G σ1 (O + 195) I A := md_keep g2 fun a h1 h2 => (k3.2.2 a (by omega)).2 (fun h => h ⟨h1, by omega⟩)
  obtain ⟨I', A', v', m1, m2, m3, m4⟩ := hm I A g3 σ1
  rw [← e1] at m1
  have hz1 : O + 227 ≤ σ1.1 := Nat.le_trans hz k3.1
  have f2 : frm σ1 w1 (md G σ1 (O + 195) I' A') w1 (fun a _ => O + 195 ≤ a ∧ a < O + 195 + 31) := md_frm
  have w2 : wf G (md G σ1 (O + 195) I' A') := md_wf k2.1.1 (by omega) (by omega)
  refine ⟨σ1, ii k, md G σ1 (O + 195) I' A', v', k1, ⟨k3.1, k3.2.1⟩, k2.1.1, ⟨_, by rw [e1]; exact md_f⟩, m1, ⟨Nat.le_refl _, Nat.le_refl _⟩, ⟨_, md_f⟩, by rw [thrown_S, m2], fun e => ?_, w1, C', cc', bf', W', PL', ρ', dr', k2.fr f2 w2 (fun a h1 h2 h => by omega) (fun h => by omega) (fun a o h1 h2 h => by omega), ⟨I', A', md_idem, m4⟩, hi, ?_, ?_⟩
  · have ek : k = 0 := by
      have e' : ii k = ii 0 := e
      rw [ii_inj hk9 (by decide)] at e'
      exact e'
    obtain ⟨f0, o1⟩ := k2.2.2.2.2.2.2.2.2
    have y := k6 ek
    rw [ldL_S o1] at y
    rw [ldL_S (f2.at k2.1.1 o1 (fun h => by omega)), m3 ek]
    exact y
  · have h9 : (md G σ1 (O + 195) I' A').1 = σ1.1 := rfl
    rw [h9]
    omega
  · exact lim k5 g6
end GL
