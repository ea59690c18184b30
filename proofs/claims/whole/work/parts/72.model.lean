/-! the model: rows for its calls -/
theorem nar0 : vp_nar .boolean 0 = 0 := by decide
theorem nar1 : vp_nar .boolean 1 = 1 := by decide
section MM
variable {G : ho_G} {R : ho_H} {M N : Nat} {I : Nat → Int32} {A : Nat → Nat → Int32}
theorem md_ld24 {i : Nat} (hi : i < 64) : ho_ldZ G (md G R M I A) (M + 15) (ii i) = some (A 24 i) := by
  have := md_aI (G := G) (R := R) (M := M) (I := I) (A := A) (p := 14) (j := 24) rfl
  unfold ho_ldZ
  rw [show ho_aI G (md G R M I A) (M + 15) 1 = some (64, A 24) from this, bd_S, ii_ix hi (by omega)]
  rfl
theorem md_st24 {i : Nat} {x : Int32} (hi : i < 64) (hx : vp_nar .boolean x = x) : ho_stZ G (md G R M I A) (M + 15) (ii i) x = some (md G R M I (upA A 24 (upd (A 24) i x))) := by
  have e1 := md_aI (G := G) (R := R) (M := M) (I := I) (A := A) (p := 14) (j := 24) rfl
  have e2 := md_set (G := G) (R := R) (M := M) (I := I) (A := A) (p := 14) (j := 24) (by decide) rfl (f := upd (A 24) i x)
  unfold ho_stZ
  rw [show ho_aI G (md G R M I A) (M + 15) 1 = some (64, A 24) from e1, bd_S, ii_ix hi (by omega), mp_S, hx]
  exact congrArg some e2
theorem within_S {σ : ho_H} {x a b : Int32} : f_Md_within G N σ x a b = some (if x < a ∨ b < x then 0 else 1) := by
  unfold f_Md_within f_Md_within_j14 f_Md_within_j15
  by_cases h1 : x < a
  · rw [if_pos h1, if_pos (Or.inl h1)]
    rfl
  · rw [if_neg h1]
    by_cases h2 : b < x
    · rw [if_pos h2, if_pos (Or.inr h2)]
      rfl
    · rw [if_neg h2, if_neg (fun h => by rcases h with h | h <;> contradiction)]
      rfl
theorem fail_S {x : Int32} : f_Md_fail G N (md G R M I A) M x = some (md G R M (upI I 12 x) A, 0) := by
  unfold f_Md_fail
  rw [md_p12, bd_S]
theorem thrown_S : f_Md_thrown G N (md G R M I A) M = some (I 12) := by
  unfold f_Md_thrown
  rw [md_i12, bd_S]
theorem mchain_S {σ : ho_H} {g : Nat} (h1 : 1 ≤ g) (h2 : g < 2147483648) : f_Md_chainOf G N σ (ii g) = some (ii (ch g)) := by
  unfold f_Md_chainOf ch
  rw [show (1 : Int32) = ii 1 from rfl, ii_sub h1, show (64 : Int32) = ii 64 from rfl, ii_div (by omega) (by decide)]
theorem copyI_S : f_Md_intervalOfCopy G N (md G R M I A) M = some (s_wd (A 37) 0) := by
  unfold f_Md_intervalOfCopy
  rw [md_r37, bd_S, show (0 : Int32) = ii 0 from rfl, md_ld37 (by decide), bd_S, bd_S, show (1 : Int32) = ii 1 from rfl, md_ld37 (by decide), bd_S, bd_S, show (2 : Int32) = ii 2 from rfl, md_ld37 (by decide), bd_S, bd_S, show (3 : Int32) = ii 3 from rfl, md_ld37 (by decide), bd_S]
  rfl
theorem keyAt_S {c k i : Nat} (h : 1300 * c + 20 * k + i < 10400) : f_Md_keyAt G N (md G R M I A) M (ii c) (ii k) (ii i) = some (A 20 (1300 * c + 20 * k + i)) := by
  unfold f_Md_keyAt
  rw [md_r20, bd_S, show (1300 : Int32) = ii 1300 from rfl, show (20 : Int32) = ii 20 from rfl, ii_mul, ii_mul, ii_add, ii_add, md_ld20 h, bd_S]
end MM
/-! what a call on one receiver leaves alone -/
def wd (j : Nat) : Nat := match j with
  | 24 => 8
  | 25 => 8
  | 26 => 8
  | 27 => 160
  | 28 => 8
  | 29 => 1
  | 30 => 16
  | 31 => 1088
  | 32 => 1
  | 33 => 1024
  | 34 => 10240
  | 35 => 100
  | 36 => 6800
  | _ => 0
def fre (j : Nat) : Bool := decide (j ∈ [2, 3, 4, 5, 7, 9, 11, 37, 38, 39])
def mfr (A A' : Nat → Nat → Int32) (r : Nat) : Prop := ∀ j q, fre j = false → (q < wd j * r ∨ wd j * r + wd j ≤ q) → A' j q = A j q
theorem mfr.refl {A : Nat → Nat → Int32} {r : Nat} : mfr A A r := fun _ _ _ _ => rfl
theorem mfr.trans {A B C : Nat → Nat → Int32} {r : Nat} (h1 : mfr A B r) (h2 : mfr B C r) : mfr A C r := fun j q a b => (h2 j q a b).trans (h1 j q a b)
theorem mfr.keep {A A' : Nat → Nat → Int32} {r : Nat} (h : mkeep A A') : mfr A A' r := fun j q a _ => by
  rw [h j]
  intro hj
  have : fre j = true := decide_eq_true (by
    simp only [List.mem_cons, List.not_mem_nil, or_false] at hj ⊢
    omega)
  rw [this] at a
  cases a
theorem mfr.upF {A : Nat → Nat → Int32} {r j : Nat} {f : Nat → Int32} (h : fre j = true) : mfr A (upA A j f) r := fun k q a _ => by
  rw [upA_ne]
  intro e
  rw [e, h] at a
  cases a
theorem mfr.upW {A : Nat → Nat → Int32} {r j : Nat} {f : Nat → Int32} (h : ∀ q, (q < wd j * r ∨ wd j * r + wd j ≤ q) → f q = A j q) : mfr A (upA A j f) r := fun k q _ b => by
  by_cases e : k = j
  · subst e
    rw [upA_eq]
    exact h q b
  · rw [upA_ne e]
theorem mfr.upd1 {A : Nat → Nat → Int32} {r j i : Nat} {x : Int32} (h1 : wd j * r ≤ i) (h2 : i < wd j * r + wd j) : mfr A (upA A j (upd (A j) i x)) r := mfr.upW fun q hq => by
  unfold upd
  rw [if_neg (by omega)]
theorem mfr.cp {A : Nat → Nat → Int32} {r j a n : Nat} {g : Nat → Int32} (h1 : wd j * r ≤ a) (h2 : a + n ≤ wd j * r + wd j) : mfr A (upA A j (s_cp (A j) g a n)) r := mfr.upW fun q hq => by
  unfold s_cp
  rw [if_neg (by omega)]
theorem mfr.tab {A A' : Nat → Nat → Int32} {r : Nat} (h : mfr A A' r) (ht : mtab A) : mtab A' := by
  refine ⟨fun k hk => ?_, fun i hi => ?_⟩
  · rw [h 0 k rfl (by show k < 0 * r ∨ 0 * r + 0 ≤ k; omega)]
    exact ht.1 k hk
  · rw [h 1 i rfl (by show i < 0 * r ∨ 0 * r + 0 ≤ i; omega)]
    exact ht.2 i hi
/-- an array that no receiver's call writes -/
theorem mfr.con {A A' : Nat → Nat → Int32} {r j : Nat} (h : mfr A A' r) (h1 : fre j = false) (h2 : wd j = 0) : A' j = A j := by
  funext q
  refine h j q h1 ?_
  rw [h2]
  omega
/-! loops that compare, loops that go down -/
theorem it_cmp {f : Int32 × Int32 → Option ((Int32 × Int32) ⊕ Int32)} {n N : Nat} (p : Nat → Prop) (h1 : ∀ k, k < n → p k → f (1, ii k) = some (.inl (1, ii (k + 1)))) (h2 : ∀ k, k < n → ¬ p k → f (1, ii k) = some (.inl (0, ii (k + 1)))) (h3 : ∀ k, k < n → f (0, ii k) = some (.inl (0, ii (k + 1)))) (he : ∀ b, f (b, ii n) = some (.inr b)) (hN : n < N) : ho_it f N (0, 0) = some 0 ∧ ∃ b, ho_it f N (1, 0) = some b ∧ ((b = 1 ∧ ∀ k, k < n → p k) ∨ (b = 0 ∧ ¬ ∀ k, k < n → p k)) := by
  refine ⟨it_for n (fun k => (0, ii k)) 0 (fun k hk => h3 k hk) (he 0) hN rfl, ?_⟩
  have key : ∃ b, ho_it f N (1, 0) = some b ∧ ((b = 1 ∧ ∀ k, k < n → p k) ∨ (b = 0 ∧ ∃ k, k < n ∧ ¬ p k)) := by
    refine it_ex n (fun k s => (s = (1, ii k) ∧ ∀ j, j < k → p j) ∨ (s = (0, ii k) ∧ ∃ j, j < k ∧ ¬ p j)) _ ?_ ?_ hN (Or.inl ⟨rfl, fun j hj => absurd hj (by omega)⟩)
    · rintro k s hk (⟨rfl, hp⟩ | ⟨rfl, j, hj, hp⟩)
      · by_cases hk' : p k
        · refine ⟨_, h1 k hk hk', Or.inl ⟨rfl, fun j hj => ?_⟩⟩
          by_cases e : j = k
          · rw [e]; exact hk'
          · exact hp j (by omega)
        · exact ⟨_, h2 k hk hk', Or.inr ⟨rfl, k, by omega, hk'⟩⟩
      · exact ⟨_, h3 k hk, Or.inr ⟨rfl, j, by omega, hp⟩⟩
    · rintro s (⟨rfl, hp⟩ | ⟨rfl, j, hj, hp⟩)
      · exact ⟨1, he 1, Or.inl ⟨rfl, hp⟩⟩
      · exact ⟨0, he 0, Or.inr ⟨rfl, j, hj, hp⟩⟩
  obtain ⟨b, k1, k2⟩ := key
  refine ⟨b, k1, ?_⟩
  rcases k2 with k2 | ⟨k2, j, hj, hp⟩
  · exact Or.inl k2
  · exact Or.inr ⟨k2, fun h => hp (h j hj)⟩
section MN
variable {G : ho_G} {R : ho_H} {M N : Nat} {I : Nat → Int32} {A : Nat → Nat → Int32}
theorem md_downs {f : ho_H × Int32 → Option ((ho_H × Int32) ⊕ ho_H)} (a d : Nat) (ht : mtab A) (hs : ∀ I' A' j, mkeep A A' → j < d → f (md G R M I' A', ii (a + j)) = (ho_cv (md G R M I' A') (f_Md_down G N (md G R M I' A') M)).bind fun σ => some (.inl (σ, ii (a + j) + 1))) (he : ∀ I' A', mkeep A A' → f (md G R M I' A', ii (a + d)) = some (.inr (md G R M I' A'))) (hN : 301 < N) (hd : d ≤ 300) : ∃ I' A', ho_it f N (md G R M I A, ii a) = some (md G R M I' A') ∧ (∀ i, i < 20 → A' 38 i = dnN d (A 38) i) ∧ mkeep A A' ∧ ikeep I I' := by
  have key : ∃ σ', ho_it f N (md G R M I A, ii a) = some σ' ∧ ∃ I' A', σ' = md G R M I' A' ∧ (∀ i, i < 20 → A' 38 i = dnN d (A 38) i) ∧ mkeep A A' ∧ ikeep I I' := by
    refine it_ex d (fun j s => ∃ I' A', s = (md G R M I' A', ii (a + j)) ∧ (∀ i, i < 20 → A' 38 i = dnN j (A 38) i) ∧ mkeep A A' ∧ ikeep I I') _ ?_ ?_ (by omega) ⟨I, A, rfl, fun i hi => rfl, mkeep.rf, ikeep.rf⟩
    · rintro j s hj ⟨I1, A1, rfl, p1, p2, p3⟩
      obtain ⟨I2, A2, q1, q2, q3, q4⟩ := Md_down_S (G := G) (R := R) (M := M) (I := I1) (A := A1) (N := N) (p2.tab ht) (by omega)
      refine ⟨_, by rw [hs I1 A1 j p2 hj, q1, md_mono, bd_S], I2, A2, by rw [show ii (a + j) + 1 = ii (a + j + 1) from ii_add _ 1]; rfl, fun i hi => ?_, p2.tr q3, p3.tr q4⟩
      rw [q2]
      unfold ovr
      rw [if_pos hi]
      exact s_dn_congr p1 i (by omega)
    · rintro s ⟨I1, A1, rfl, p1, p2, p3⟩
      exact ⟨_, he I1 A1 p2, I1, A1, rfl, p1, p2, p3⟩
  obtain ⟨σ', k1, I', A', rfl, k2⟩ := key
  exact ⟨I', A', k1, k2⟩
end MN
/-! the model's receivers -/
def mkn (A : Nat → Nat → Int32) (r : Nat) (kn : KN) : Prop := ∀ c, c < 8 → match kn c with
  | none => A 24 (8 * r + c) = 0
  | some (fi, v, K) => A 24 (8 * r + c) = 1 ∧ A 25 (8 * r + c) = ii (64 * c + fi) ∧ A 26 (8 * r + c) = ii (64 * c + v) ∧ ∀ i, i < 20 → A 27 (20 * (8 * r + c) + i) = K i
def mcn (A : Nat → Nat → Int32) (r : Nat) (cn : Nat → Int32) : Prop := ∀ j, j < 7 → A 28 (8 * r + j) = cn j
def mhd (A : Nat → Nat → Int32) (r : Nat) (h : List PQ) : Prop := A 29 r = ii h.length ∧ ∀ (k : Nat) (q : PQ), h[k]? = some q → A 30 (16 * r + k) = ii q.1 ∧ ∀ i, i < q.1 → A 31 (68 * (16 * r + k) + i) = q.2 i
def mot (A : Nat → Nat → Int32) (r : Nat) (o : List PQ) : Prop := A 32 r = ii o.length ∧ ∀ (k : Nat) (q : PQ), o[k]? = some q → A 33 (1024 * r + k) = ii (gN q) ∧ (k < 100 → ∀ i, i < q.1 → A 36 (68 * (100 * r + k) + i) = q.2 i)
def mrc (A : Nat → Nat → Int32) (r : Nat) (s : RS) : Prop := mkn A r s.1 ∧ mhd A r s.2.1 ∧ mot A r s.2.2.1 ∧ mcn A r s.2.2.2
