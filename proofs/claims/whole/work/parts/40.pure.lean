/-! PURE PART. Numbers, loops -/
def ii (n : Nat) : Int32 := Int32.ofNat n
theorem ii_add (a b : Nat) : ii a + ii b = ii (a + b) := (Int32.ofNat_add a b).symm
theorem ii_mul (a b : Nat) : ii a * ii b = ii (a * b) := (Int32.ofNat_mul a b).symm
theorem ii_toInt {a : Nat} (h : a < 2147483648) : (ii a).toInt = a := Int32.toInt_ofNat_of_lt h
theorem ii_sub {a b : Nat} (h : b ≤ a) : ii a - ii b = ii (a - b) := by
  have e : ii a = ii (a - b) + ii b := by rw [ii_add, Nat.sub_add_cancel h]
  rw [e, Int32.add_sub_cancel]
theorem ii_lt {a b : Nat} (ha : a < 2147483648) (hb : b < 2147483648) : (ii a < ii b) = (a < b) := by
  rw [Int32.lt_iff_toInt_lt, ii_toInt ha, ii_toInt hb]
  exact propext (by omega)
theorem ii_le {a b : Nat} (ha : a < 2147483648) (hb : b < 2147483648) : (ii a ≤ ii b) = (a ≤ b) := by
  rw [Int32.le_iff_toInt_le, ii_toInt ha, ii_toInt hb]
  exact propext (by omega)
theorem ii_inj {a b : Nat} (ha : a < 2147483648) (hb : b < 2147483648) : (ii a = ii b) = (a = b) := by
  refine propext ⟨fun h => ?_, fun h => by rw [h]⟩
  have h := congrArg Int32.toInt h
  rw [ii_toInt ha, ii_toInt hb] at h
  omega
theorem ii_nat {a : Nat} (h : a < 2147483648) : (ii a).toNatClampNeg = a := by
  show (ii a).toInt.toNat = a
  rw [ii_toInt h]
  rfl
theorem ii_nneg {a : Nat} (h : a < 2147483648) : ¬ ii a < 0 := by
  rw [show (0 : Int32) = ii 0 from rfl, ii_lt h (by decide)]
  omega
theorem ii_ix {i n : Nat} (h : i < n) (hn : i < 2147483648) : ho_ix (ii i) n = some i := by
  unfold ho_ix
  rw [ii_nat hn, if_neg]
  intro h'
  rcases h' with h' | h'
  · exact ii_nneg hn h'
  · omega
theorem ii_div {a b : Nat} (ha : a < 2147483648) (hb : b < 2147483648) : ii a / ii b = ii (a / b) := by
  have h1 : a / b < 2147483648 := Nat.lt_of_le_of_lt (Nat.div_le_self a b) ha
  apply Int32.toInt_inj.mp
  rw [Int32.toInt_div, ii_toInt ha, ii_toInt hb, ii_toInt h1]
  rw [show Int.tdiv (a : Int) (b : Int) = ((a / b : Nat) : Int) from rfl]
  generalize a / b = q at h1 ⊢
  rw [Int.bmod_eq_of_le (by omega) (by omega)]
theorem ii_rm {a b : Nat} (ha : a < 2147483648) (hb : b < 2147483648) : ho_rm (ii a) (ii b) = ii (a % b) := by
  unfold ho_rm
  rw [ii_div ha hb, ii_mul, ii_sub (Nat.div_mul_le_self a b)]
  congr 1
  have := Nat.div_add_mod a b
  rw [Nat.mul_comm] at this
  omega
theorem it_from {S E : Type} {f : S → Option (S ⊕ E)} {n : Nat} (st : Nat → S) (e : E) (h : ∀ k, k < n → f (st k) = some (.inl (st (k + 1)))) (he : f (st n) = some (.inr e)) : ∀ (d m N : Nat), m + d = n → d < N → ho_it f N (st m) = some e := by
  intro d
  induction d with
  | zero =>
    intro m N hm hN
    have : m = n := by omega
    subst this
    cases N with
    | zero => omega
    | succ N => simp only [ho_it, he]
  | succ d ih =>
    intro m N hm hN
    cases N with
    | zero => omega
    | succ N =>
      simp only [ho_it, h m (by omega)]
      exact ih (m + 1) N (by omega) (by omega)
/-- a loop of n turns -/
theorem it_for {S E : Type} {f : S → Option (S ⊕ E)} {N : Nat} {s0 : S} (n : Nat) (st : Nat → S) (e : E) (h : ∀ k, k < n → f (st k) = some (.inl (st (k + 1)))) (he : f (st n) = some (.inr e)) (hN : n < N) (h0 : s0 = st 0) : ho_it f N s0 = some e := by
  subst h0
  exact it_from st e h he n 0 N (by omega) hN
theorem bd_S {α β : Type} {v : α} {f : α → Option β} : (some v).bind f = f v := rfl
theorem bd2_S {α β γ : Type} {a : α} {b : β} {f : α → β → Option γ} : bd2 (some (a, b)) f = f a b := rfl
theorem mp_S {α β : Type} {v : α} {f : α → β} : (some v).map f = some (f v) := rfl
theorem ho_nz_S {y : Int32} (h : ¬ y = 0) : ho_nz y = some () := by unfold ho_nz; rw [if_neg h]
theorem ho_bz_0 : ho_bz 0 = some () := rfl
theorem ho_bz_1 : ho_bz 1 = some () := rfl
/-! the model's block: its object at M, its arrays behind it -/
def mfl : List Nat := [0, 1, 2, 3, 4, 5, 7, 9, 11, 19, 20, 21, 22, 23, 24, 25, 26, 27, 28, 29, 30, 31, 32, 33, 34, 35, 36, 37, 38, 39]
def msz (j : Nat) : Nat := match j with
  | 0 => 64
  | 1 => 8
  | 2 => 64
  | 3 => 8
  | 4 => 8
  | 5 => 256
  | 7 => 64
  | 9 => 64
  | 11 => 32
  | 19 => 8
  | 20 => 10400
  | 21 => 200
  | 22 => 13600
  | 23 => 8
  | 24 => 64
  | 25 => 64
  | 26 => 64
  | 27 => 1280
  | 28 => 64
  | 29 => 8
  | 30 => 128
  | 31 => 8704
  | 32 => 8
  | 33 => 8192
  | 34 => 81920
  | 35 => 800
  | 36 => 54400
  | 37 => 68
  | 38 => 20
  | 39 => 68
  | _ => 0
def mkd (j : Nat) : Nat := if j = 24 then 1 else 0
def mfs (M : Nat) (I : Nat → Int32) : List Value := [.ref (M + 1), .ref (M + 2), .ref (M + 3), .ref (M + 4), .ref (M + 5), .ref (M + 6), .int (I 6), .ref (M + 7), .int (I 8), .ref (M + 8), .int (I 10), .ref (M + 9), .int (I 12), .int (I 13), .int (I 14), .int (I 15), .int (I 16), .int (I 17), .int (I 18), .ref (M + 10), .ref (M + 11), .ref (M + 12), .ref (M + 13), .ref (M + 14), .ref (M + 15), .ref (M + 16), .ref (M + 17), .ref (M + 18), .ref (M + 19), .ref (M + 20), .ref (M + 21), .ref (M + 22), .ref (M + 23), .ref (M + 24), .ref (M + 25), .ref (M + 26), .ref (M + 27), .ref (M + 28), .ref (M + 29), .ref (M + 30)]
def mde (G : ho_G) (M : Nat) (I : Nat → Int32) (A : Nat → Nat → Int32) (k : Nat) : Option va_E := match k with
  | 0 => some (.inr (6, mfs M I))
  | k + 1 => (mfl[k]?).map fun j => .inl (gc G (mkd j), msz j, .inl (A j))
def md (G : ho_G) (R : ho_H) (M : Nat) (I : Nat → Int32) (A : Nat → Nat → Int32) : ho_H := (R.1, R.2.1, fun a => if a < M then R.2.2 a else (mde G M I A (a - M)).or (R.2.2 a))
def upA (A : Nat → Nat → Int32) (j : Nat) (f : Nat → Int32) : Nat → Nat → Int32 := fun q => if q = j then f else A q
theorem upA_eq {A : Nat → Nat → Int32} {j : Nat} {f : Nat → Int32} : upA A j f j = f := if_pos rfl
theorem upA_ne {A : Nat → Nat → Int32} {j q : Nat} {f : Nat → Int32} (h : q ≠ j) : upA A j f q = A q := if_neg h
theorem upA_upA {A : Nat → Nat → Int32} {j : Nat} {f g : Nat → Int32} : upA (upA A j f) j g = upA A j g := by
  funext q
  unfold upA
  by_cases h : q = j
  · rw [if_pos h, if_pos h]
  · rw [if_neg h, if_neg h, if_neg h]
theorem upA_self {A : Nat → Nat → Int32} {j : Nat} : upA A j (A j) = A := by
  funext q
  unfold upA
  by_cases h : q = j
  · rw [if_pos h, h]
  · rw [if_neg h]
theorem mfl_inj : ∀ a, a < 30 → ∀ b, b < 30 → mfl[a]? = mfl[b]? → a = b := by decide
section MD
variable {G : ho_G} {R : ho_H} {M : Nat} {I : Nat → Int32} {A : Nat → Nat → Int32}
theorem md_at {k : Nat} {e : va_E} (h : mde G M I A k = some e) : (md G R M I A).2.2 (M + k) = some e := by
  show (if M + k < M then _ else _) = _
  rw [if_neg (by omega), Nat.add_sub_cancel_left, h]
  rfl
theorem md_f : ho_f (md G R M I A) M 6 = some (mfs M I) := by
  unfold ho_f
  rw [show (md G R M I A).2.2 M = some (.inr (6, mfs M I)) from md_at (k := 0) rfl]
  rfl
theorem md_ext {σ : ho_H} {I' : Nat → Int32} {A' : Nat → Nat → Int32} (h1 : σ.1 = R.1) (h2 : σ.2.1 = R.2.1) (h3 : ∀ a, a < M → σ.2.2 a = R.2.2 a) (h4 : ∀ k, σ.2.2 (M + k) = (mde G M I' A' k).or (R.2.2 (M + k))) : σ = md G R M I' A' := by
  obtain ⟨s1, s2, s3⟩ := σ
  dsimp only at h1 h2 h3 h4
  subst h1; subst h2
  show _ = (R.1, R.2.1, _)
  congr 2
  funext a
  by_cases h : a < M
  · rw [if_pos h, h3 a h]
  · rw [if_neg h]
    have := h4 (a - M)
    rw [show M + (a - M) = a by omega] at this
    exact this
theorem md_set {p j : Nat} (hp : p < 30) (hj : mfl[p]? = some j) {f : Nat → Int32} : ho_set (md G R M I A) (M + (p + 1)) (.inl (gc G (mkd j), msz j, .inl f)) = md G R M I (upA A j f) := by
  refine md_ext rfl rfl (fun a ha => ?_) (fun k => ?_)
  · show (if a = M + (p + 1) then _ else (if a < M then _ else _)) = _
    rw [if_neg (by omega), if_pos ha]
  · show (if M + k = M + (p + 1) then _ else (if M + k < M then _ else _)) = _
    rw [if_neg (show ¬ M + k < M by omega), Nat.add_sub_cancel_left]
    by_cases hk : k = p + 1
    · subst hk
      rw [if_pos rfl]
      show _ = ((mfl[p]?).map _).or _
      rw [hj, Option.map_some, upA_eq]
      rfl
    · rw [if_neg (by omega)]
      cases k with
      | zero => rfl
      | succ k =>
        show ((mfl[k]?).map _).or _ = ((mfl[k]?).map _).or _
        cases hq : mfl[k]? with
        | none => rfl
        | some i =>
          have hk30 : k < 30 := by
            have := (List.getElem?_eq_some_iff.mp hq).1
            exact this
          have hi : i ≠ j := fun h => by
            subst h
            have := mfl_inj k hk30 p hp (hq.trans hj.symm)
            omega
          rw [Option.map_some, Option.map_some, upA_ne hi]
theorem md_aI {p j : Nat} (hj : mfl[p]? = some j) : ho_aI G (md G R M I A) (M + (p + 1)) (mkd j) = some (msz j, A j) := by
  unfold ho_aI
  rw [md_at (k := p + 1) (e := .inl (gc G (mkd j), msz j, .inl (A j))) (by show (mfl[p]?).map _ = _; rw [hj]; rfl)]
  exact if_pos rfl
theorem md_rI {p j : Nat} (hj : mfl[p]? = some j) (h0 : mkd j = 0) : ho_rI G (md G R M I A) (M + (p + 1)) = some (msz j, A j) := by
  unfold ho_rI
  rw [md_at (k := p + 1) (e := .inl (gc G (mkd j), msz j, .inl (A j))) (by show (mfl[p]?).map _ = _; rw [hj]; rfl), h0]
  exact if_pos rfl
theorem md_ldG {p j i : Nat} (hj : mfl[p]? = some j) (h0 : mkd j = 0) (hi : i < msz j) (hi2 : i < 2147483648) : ho_ldI G (md G R M I A) (M + (p + 1)) (ii i) = some (A j i) := by
  unfold ho_ldI
  rw [md_rI hj h0, bd_S, ii_ix hi hi2]
  rfl
theorem md_stG {p j i : Nat} {x : Int32} (hp : p < 30) (hj : mfl[p]? = some j) (h0 : mkd j = 0) (hi : i < msz j) (hi2 : i < 2147483648) : ho_stI G (md G R M I A) (M + (p + 1)) (ii i) x = some (md G R M I (upA A j (upd (A j) i x))) := by
  unfold ho_stI
  have := md_aI (G := G) (R := R) (M := M) (I := I) (A := A) hj
  rw [h0] at this
  rw [this, bd_S, ii_ix hi hi2, mp_S]
  have := md_set (G := G) (R := R) (M := M) (I := I) (A := A) hp hj (f := upd (A j) i x)
  rw [h0] at this
  rw [this]
theorem md_mono {I' : Nat → Int32} {A' : Nat → Nat → Int32} : ho_cv (md G R M I A) (some (md G R M I' A')) = some (md G R M I' A') := by
  unfold ho_cv
  rw [bd_S, if_pos ⟨Nat.le_refl _, Nat.le_refl _⟩]
theorem md_mono2 {α : Type} {v : α} {I' : Nat → Int32} {A' : Nat → Nat → Int32} : ho_ck (md G R M I A) (some (md G R M I' A', v)) = some (md G R M I' A', v) := by
  unfold ho_ck
  rw [bd_S, if_pos ⟨Nat.le_refl _, Nat.le_refl _⟩]
theorem md_gRG {j r : Nat} (h : ho_vR (mfs M I)[j]? = some r) : ho_gR (md G R M I A) M 6 j = some r := by
  unfold ho_gR
  rw [md_f, bd_S, h]
theorem md_gIG {j : Nat} {x : Int32} (h : ho_vI (mfs M I)[j]? = some x) : ho_gI (md G R M I A) M 6 j = some x := by
  unfold ho_gI
  rw [md_f, bd_S, h]
def upI (I : Nat → Int32) (j : Nat) (x : Int32) : Nat → Int32 := fun q => if q = j then x else I q
theorem md_pG {j : Nat} {x : Int32} (hj : j < 40) (h : (mfs M I).set j (.int x) = mfs M (upI I j x)) : ho_p (md G R M I A) M 6 j (.int x) = some (md G R M (upI I j x) A) := by
  unfold ho_p
  rw [md_f, bd_S, if_pos (show j < (mfs M I).length from hj), h]
  congr 1
  refine md_ext rfl rfl (fun a ha => ?_) (fun k => ?_)
  · show (if a = M then _ else (if a < M then _ else _)) = _
    rw [if_neg (by omega), if_pos ha]
  · show (if M + k = M then _ else (if M + k < M then _ else _)) = _
    rw [if_neg (show ¬ M + k < M by omega), Nat.add_sub_cancel_left]
    cases k with
    | zero => rw [if_pos (show M + 0 = M from rfl)]; rfl
    | succ k => rw [if_neg (by omega)]; rfl
theorem md_r0 : ho_gR (md G R M I A) M 6 0 = some (M + 1) := md_gRG rfl
theorem md_ld0 {i : Nat} (hi : i < 64) : ho_ldI G (md G R M I A) (M + 1) (ii i) = some (A 0 i) := md_ldG (p := 0) (j := 0) rfl rfl hi (Nat.lt_trans hi (by decide))
theorem md_st0 {i : Nat} {x : Int32} (hi : i < 64) : ho_stI G (md G R M I A) (M + 1) (ii i) x = some (md G R M I (upA A 0 (upd (A 0) i x))) := md_stG (p := 0) (j := 0) (by decide) rfl rfl hi (Nat.lt_trans hi (by decide))
theorem md_r1 : ho_gR (md G R M I A) M 6 1 = some (M + 2) := md_gRG rfl
theorem md_ld1 {i : Nat} (hi : i < 8) : ho_ldI G (md G R M I A) (M + 2) (ii i) = some (A 1 i) := md_ldG (p := 1) (j := 1) rfl rfl hi (Nat.lt_trans hi (by decide))
theorem md_st1 {i : Nat} {x : Int32} (hi : i < 8) : ho_stI G (md G R M I A) (M + 2) (ii i) x = some (md G R M I (upA A 1 (upd (A 1) i x))) := md_stG (p := 1) (j := 1) (by decide) rfl rfl hi (Nat.lt_trans hi (by decide))
theorem md_r2 : ho_gR (md G R M I A) M 6 2 = some (M + 3) := md_gRG rfl
theorem md_ld2 {i : Nat} (hi : i < 64) : ho_ldI G (md G R M I A) (M + 3) (ii i) = some (A 2 i) := md_ldG (p := 2) (j := 2) rfl rfl hi (Nat.lt_trans hi (by decide))
theorem md_st2 {i : Nat} {x : Int32} (hi : i < 64) : ho_stI G (md G R M I A) (M + 3) (ii i) x = some (md G R M I (upA A 2 (upd (A 2) i x))) := md_stG (p := 2) (j := 2) (by decide) rfl rfl hi (Nat.lt_trans hi (by decide))
theorem md_r3 : ho_gR (md G R M I A) M 6 3 = some (M + 4) := md_gRG rfl
theorem md_ld3 {i : Nat} (hi : i < 8) : ho_ldI G (md G R M I A) (M + 4) (ii i) = some (A 3 i) := md_ldG (p := 3) (j := 3) rfl rfl hi (Nat.lt_trans hi (by decide))
theorem md_st3 {i : Nat} {x : Int32} (hi : i < 8) : ho_stI G (md G R M I A) (M + 4) (ii i) x = some (md G R M I (upA A 3 (upd (A 3) i x))) := md_stG (p := 3) (j := 3) (by decide) rfl rfl hi (Nat.lt_trans hi (by decide))
theorem md_r4 : ho_gR (md G R M I A) M 6 4 = some (M + 5) := md_gRG rfl
theorem md_ld4 {i : Nat} (hi : i < 8) : ho_ldI G (md G R M I A) (M + 5) (ii i) = some (A 4 i) := md_ldG (p := 4) (j := 4) rfl rfl hi (Nat.lt_trans hi (by decide))
theorem md_st4 {i : Nat} {x : Int32} (hi : i < 8) : ho_stI G (md G R M I A) (M + 5) (ii i) x = some (md G R M I (upA A 4 (upd (A 4) i x))) := md_stG (p := 4) (j := 4) (by decide) rfl rfl hi (Nat.lt_trans hi (by decide))
theorem md_r5 : ho_gR (md G R M I A) M 6 5 = some (M + 6) := md_gRG rfl
theorem md_ld5 {i : Nat} (hi : i < 256) : ho_ldI G (md G R M I A) (M + 6) (ii i) = some (A 5 i) := md_ldG (p := 5) (j := 5) rfl rfl hi (Nat.lt_trans hi (by decide))
theorem md_st5 {i : Nat} {x : Int32} (hi : i < 256) : ho_stI G (md G R M I A) (M + 6) (ii i) x = some (md G R M I (upA A 5 (upd (A 5) i x))) := md_stG (p := 5) (j := 5) (by decide) rfl rfl hi (Nat.lt_trans hi (by decide))
theorem md_r7 : ho_gR (md G R M I A) M 6 7 = some (M + 7) := md_gRG rfl
theorem md_ld7 {i : Nat} (hi : i < 64) : ho_ldI G (md G R M I A) (M + 7) (ii i) = some (A 7 i) := md_ldG (p := 6) (j := 7) rfl rfl hi (Nat.lt_trans hi (by decide))
theorem md_st7 {i : Nat} {x : Int32} (hi : i < 64) : ho_stI G (md G R M I A) (M + 7) (ii i) x = some (md G R M I (upA A 7 (upd (A 7) i x))) := md_stG (p := 6) (j := 7) (by decide) rfl rfl hi (Nat.lt_trans hi (by decide))
theorem md_r9 : ho_gR (md G R M I A) M 6 9 = some (M + 8) := md_gRG rfl
theorem md_ld9 {i : Nat} (hi : i < 64) : ho_ldI G (md G R M I A) (M + 8) (ii i) = some (A 9 i) := md_ldG (p := 7) (j := 9) rfl rfl hi (Nat.lt_trans hi (by decide))
theorem md_st9 {i : Nat} {x : Int32} (hi : i < 64) : ho_stI G (md G R M I A) (M + 8) (ii i) x = some (md G R M I (upA A 9 (upd (A 9) i x))) := md_stG (p := 7) (j := 9) (by decide) rfl rfl hi (Nat.lt_trans hi (by decide))
theorem md_r11 : ho_gR (md G R M I A) M 6 11 = some (M + 9) := md_gRG rfl
theorem md_ld11 {i : Nat} (hi : i < 32) : ho_ldI G (md G R M I A) (M + 9) (ii i) = some (A 11 i) := md_ldG (p := 8) (j := 11) rfl rfl hi (Nat.lt_trans hi (by decide))
theorem md_st11 {i : Nat} {x : Int32} (hi : i < 32) : ho_stI G (md G R M I A) (M + 9) (ii i) x = some (md G R M I (upA A 11 (upd (A 11) i x))) := md_stG (p := 8) (j := 11) (by decide) rfl rfl hi (Nat.lt_trans hi (by decide))
theorem md_r19 : ho_gR (md G R M I A) M 6 19 = some (M + 10) := md_gRG rfl
theorem md_ld19 {i : Nat} (hi : i < 8) : ho_ldI G (md G R M I A) (M + 10) (ii i) = some (A 19 i) := md_ldG (p := 9) (j := 19) rfl rfl hi (Nat.lt_trans hi (by decide))
theorem md_st19 {i : Nat} {x : Int32} (hi : i < 8) : ho_stI G (md G R M I A) (M + 10) (ii i) x = some (md G R M I (upA A 19 (upd (A 19) i x))) := md_stG (p := 9) (j := 19) (by decide) rfl rfl hi (Nat.lt_trans hi (by decide))
theorem md_r20 : ho_gR (md G R M I A) M 6 20 = some (M + 11) := md_gRG rfl
theorem md_ld20 {i : Nat} (hi : i < 10400) : ho_ldI G (md G R M I A) (M + 11) (ii i) = some (A 20 i) := md_ldG (p := 10) (j := 20) rfl rfl hi (Nat.lt_trans hi (by decide))
theorem md_st20 {i : Nat} {x : Int32} (hi : i < 10400) : ho_stI G (md G R M I A) (M + 11) (ii i) x = some (md G R M I (upA A 20 (upd (A 20) i x))) := md_stG (p := 10) (j := 20) (by decide) rfl rfl hi (Nat.lt_trans hi (by decide))
theorem md_r21 : ho_gR (md G R M I A) M 6 21 = some (M + 12) := md_gRG rfl
theorem md_ld21 {i : Nat} (hi : i < 200) : ho_ldI G (md G R M I A) (M + 12) (ii i) = some (A 21 i) := md_ldG (p := 11) (j := 21) rfl rfl hi (Nat.lt_trans hi (by decide))
theorem md_st21 {i : Nat} {x : Int32} (hi : i < 200) : ho_stI G (md G R M I A) (M + 12) (ii i) x = some (md G R M I (upA A 21 (upd (A 21) i x))) := md_stG (p := 11) (j := 21) (by decide) rfl rfl hi (Nat.lt_trans hi (by decide))
theorem md_r22 : ho_gR (md G R M I A) M 6 22 = some (M + 13) := md_gRG rfl
theorem md_ld22 {i : Nat} (hi : i < 13600) : ho_ldI G (md G R M I A) (M + 13) (ii i) = some (A 22 i) := md_ldG (p := 12) (j := 22) rfl rfl hi (Nat.lt_trans hi (by decide))
theorem md_st22 {i : Nat} {x : Int32} (hi : i < 13600) : ho_stI G (md G R M I A) (M + 13) (ii i) x = some (md G R M I (upA A 22 (upd (A 22) i x))) := md_stG (p := 12) (j := 22) (by decide) rfl rfl hi (Nat.lt_trans hi (by decide))
theorem md_r23 : ho_gR (md G R M I A) M 6 23 = some (M + 14) := md_gRG rfl
theorem md_ld23 {i : Nat} (hi : i < 8) : ho_ldI G (md G R M I A) (M + 14) (ii i) = some (A 23 i) := md_ldG (p := 13) (j := 23) rfl rfl hi (Nat.lt_trans hi (by decide))
theorem md_st23 {i : Nat} {x : Int32} (hi : i < 8) : ho_stI G (md G R M I A) (M + 14) (ii i) x = some (md G R M I (upA A 23 (upd (A 23) i x))) := md_stG (p := 13) (j := 23) (by decide) rfl rfl hi (Nat.lt_trans hi (by decide))
theorem md_r24 : ho_gR (md G R M I A) M 6 24 = some (M + 15) := md_gRG rfl
theorem md_r25 : ho_gR (md G R M I A) M 6 25 = some (M + 16) := md_gRG rfl
theorem md_ld25 {i : Nat} (hi : i < 64) : ho_ldI G (md G R M I A) (M + 16) (ii i) = some (A 25 i) := md_ldG (p := 15) (j := 25) rfl rfl hi (Nat.lt_trans hi (by decide))
theorem md_st25 {i : Nat} {x : Int32} (hi : i < 64) : ho_stI G (md G R M I A) (M + 16) (ii i) x = some (md G R M I (upA A 25 (upd (A 25) i x))) := md_stG (p := 15) (j := 25) (by decide) rfl rfl hi (Nat.lt_trans hi (by decide))
theorem md_r26 : ho_gR (md G R M I A) M 6 26 = some (M + 17) := md_gRG rfl
theorem md_ld26 {i : Nat} (hi : i < 64) : ho_ldI G (md G R M I A) (M + 17) (ii i) = some (A 26 i) := md_ldG (p := 16) (j := 26) rfl rfl hi (Nat.lt_trans hi (by decide))
theorem md_st26 {i : Nat} {x : Int32} (hi : i < 64) : ho_stI G (md G R M I A) (M + 17) (ii i) x = some (md G R M I (upA A 26 (upd (A 26) i x))) := md_stG (p := 16) (j := 26) (by decide) rfl rfl hi (Nat.lt_trans hi (by decide))
theorem md_r27 : ho_gR (md G R M I A) M 6 27 = some (M + 18) := md_gRG rfl
theorem md_ld27 {i : Nat} (hi : i < 1280) : ho_ldI G (md G R M I A) (M + 18) (ii i) = some (A 27 i) := md_ldG (p := 17) (j := 27) rfl rfl hi (Nat.lt_trans hi (by decide))
theorem md_st27 {i : Nat} {x : Int32} (hi : i < 1280) : ho_stI G (md G R M I A) (M + 18) (ii i) x = some (md G R M I (upA A 27 (upd (A 27) i x))) := md_stG (p := 17) (j := 27) (by decide) rfl rfl hi (Nat.lt_trans hi (by decide))
theorem md_r28 : ho_gR (md G R M I A) M 6 28 = some (M + 19) := md_gRG rfl
theorem md_ld28 {i : Nat} (hi : i < 64) : ho_ldI G (md G R M I A) (M + 19) (ii i) = some (A 28 i) := md_ldG (p := 18) (j := 28) rfl rfl hi (Nat.lt_trans hi (by decide))
theorem md_st28 {i : Nat} {x : Int32} (hi : i < 64) : ho_stI G (md G R M I A) (M + 19) (ii i) x = some (md G R M I (upA A 28 (upd (A 28) i x))) := md_stG (p := 18) (j := 28) (by decide) rfl rfl hi (Nat.lt_trans hi (by decide))
theorem md_r29 : ho_gR (md G R M I A) M 6 29 = some (M + 20) := md_gRG rfl
theorem md_ld29 {i : Nat} (hi : i < 8) : ho_ldI G (md G R M I A) (M + 20) (ii i) = some (A 29 i) := md_ldG (p := 19) (j := 29) rfl rfl hi (Nat.lt_trans hi (by decide))
theorem md_st29 {i : Nat} {x : Int32} (hi : i < 8) : ho_stI G (md G R M I A) (M + 20) (ii i) x = some (md G R M I (upA A 29 (upd (A 29) i x))) := md_stG (p := 19) (j := 29) (by decide) rfl rfl hi (Nat.lt_trans hi (by decide))
theorem md_r30 : ho_gR (md G R M I A) M 6 30 = some (M + 21) := md_gRG rfl
theorem md_ld30 {i : Nat} (hi : i < 128) : ho_ldI G (md G R M I A) (M + 21) (ii i) = some (A 30 i) := md_ldG (p := 20) (j := 30) rfl rfl hi (Nat.lt_trans hi (by decide))
theorem md_st30 {i : Nat} {x : Int32} (hi : i < 128) : ho_stI G (md G R M I A) (M + 21) (ii i) x = some (md G R M I (upA A 30 (upd (A 30) i x))) := md_stG (p := 20) (j := 30) (by decide) rfl rfl hi (Nat.lt_trans hi (by decide))
theorem md_r31 : ho_gR (md G R M I A) M 6 31 = some (M + 22) := md_gRG rfl
theorem md_ld31 {i : Nat} (hi : i < 8704) : ho_ldI G (md G R M I A) (M + 22) (ii i) = some (A 31 i) := md_ldG (p := 21) (j := 31) rfl rfl hi (Nat.lt_trans hi (by decide))
theorem md_st31 {i : Nat} {x : Int32} (hi : i < 8704) : ho_stI G (md G R M I A) (M + 22) (ii i) x = some (md G R M I (upA A 31 (upd (A 31) i x))) := md_stG (p := 21) (j := 31) (by decide) rfl rfl hi (Nat.lt_trans hi (by decide))
theorem md_r32 : ho_gR (md G R M I A) M 6 32 = some (M + 23) := md_gRG rfl
theorem md_ld32 {i : Nat} (hi : i < 8) : ho_ldI G (md G R M I A) (M + 23) (ii i) = some (A 32 i) := md_ldG (p := 22) (j := 32) rfl rfl hi (Nat.lt_trans hi (by decide))
theorem md_st32 {i : Nat} {x : Int32} (hi : i < 8) : ho_stI G (md G R M I A) (M + 23) (ii i) x = some (md G R M I (upA A 32 (upd (A 32) i x))) := md_stG (p := 22) (j := 32) (by decide) rfl rfl hi (Nat.lt_trans hi (by decide))
theorem md_r33 : ho_gR (md G R M I A) M 6 33 = some (M + 24) := md_gRG rfl
theorem md_ld33 {i : Nat} (hi : i < 8192) : ho_ldI G (md G R M I A) (M + 24) (ii i) = some (A 33 i) := md_ldG (p := 23) (j := 33) rfl rfl hi (Nat.lt_trans hi (by decide))
theorem md_st33 {i : Nat} {x : Int32} (hi : i < 8192) : ho_stI G (md G R M I A) (M + 24) (ii i) x = some (md G R M I (upA A 33 (upd (A 33) i x))) := md_stG (p := 23) (j := 33) (by decide) rfl rfl hi (Nat.lt_trans hi (by decide))
theorem md_r34 : ho_gR (md G R M I A) M 6 34 = some (M + 25) := md_gRG rfl
theorem md_ld34 {i : Nat} (hi : i < 81920) : ho_ldI G (md G R M I A) (M + 25) (ii i) = some (A 34 i) := md_ldG (p := 24) (j := 34) rfl rfl hi (Nat.lt_trans hi (by decide))
theorem md_st34 {i : Nat} {x : Int32} (hi : i < 81920) : ho_stI G (md G R M I A) (M + 25) (ii i) x = some (md G R M I (upA A 34 (upd (A 34) i x))) := md_stG (p := 24) (j := 34) (by decide) rfl rfl hi (Nat.lt_trans hi (by decide))
theorem md_r35 : ho_gR (md G R M I A) M 6 35 = some (M + 26) := md_gRG rfl
theorem md_ld35 {i : Nat} (hi : i < 800) : ho_ldI G (md G R M I A) (M + 26) (ii i) = some (A 35 i) := md_ldG (p := 25) (j := 35) rfl rfl hi (Nat.lt_trans hi (by decide))
theorem md_st35 {i : Nat} {x : Int32} (hi : i < 800) : ho_stI G (md G R M I A) (M + 26) (ii i) x = some (md G R M I (upA A 35 (upd (A 35) i x))) := md_stG (p := 25) (j := 35) (by decide) rfl rfl hi (Nat.lt_trans hi (by decide))
theorem md_r36 : ho_gR (md G R M I A) M 6 36 = some (M + 27) := md_gRG rfl
theorem md_ld36 {i : Nat} (hi : i < 54400) : ho_ldI G (md G R M I A) (M + 27) (ii i) = some (A 36 i) := md_ldG (p := 26) (j := 36) rfl rfl hi (Nat.lt_trans hi (by decide))
theorem md_st36 {i : Nat} {x : Int32} (hi : i < 54400) : ho_stI G (md G R M I A) (M + 27) (ii i) x = some (md G R M I (upA A 36 (upd (A 36) i x))) := md_stG (p := 26) (j := 36) (by decide) rfl rfl hi (Nat.lt_trans hi (by decide))
theorem md_r37 : ho_gR (md G R M I A) M 6 37 = some (M + 28) := md_gRG rfl
theorem md_ld37 {i : Nat} (hi : i < 68) : ho_ldI G (md G R M I A) (M + 28) (ii i) = some (A 37 i) := md_ldG (p := 27) (j := 37) rfl rfl hi (Nat.lt_trans hi (by decide))
theorem md_st37 {i : Nat} {x : Int32} (hi : i < 68) : ho_stI G (md G R M I A) (M + 28) (ii i) x = some (md G R M I (upA A 37 (upd (A 37) i x))) := md_stG (p := 27) (j := 37) (by decide) rfl rfl hi (Nat.lt_trans hi (by decide))
theorem md_r38 : ho_gR (md G R M I A) M 6 38 = some (M + 29) := md_gRG rfl
theorem md_ld38 {i : Nat} (hi : i < 20) : ho_ldI G (md G R M I A) (M + 29) (ii i) = some (A 38 i) := md_ldG (p := 28) (j := 38) rfl rfl hi (Nat.lt_trans hi (by decide))
theorem md_st38 {i : Nat} {x : Int32} (hi : i < 20) : ho_stI G (md G R M I A) (M + 29) (ii i) x = some (md G R M I (upA A 38 (upd (A 38) i x))) := md_stG (p := 28) (j := 38) (by decide) rfl rfl hi (Nat.lt_trans hi (by decide))
theorem md_r39 : ho_gR (md G R M I A) M 6 39 = some (M + 30) := md_gRG rfl
theorem md_ld39 {i : Nat} (hi : i < 68) : ho_ldI G (md G R M I A) (M + 30) (ii i) = some (A 39 i) := md_ldG (p := 29) (j := 39) rfl rfl hi (Nat.lt_trans hi (by decide))
theorem md_st39 {i : Nat} {x : Int32} (hi : i < 68) : ho_stI G (md G R M I A) (M + 30) (ii i) x = some (md G R M I (upA A 39 (upd (A 39) i x))) := md_stG (p := 29) (j := 39) (by decide) rfl rfl hi (Nat.lt_trans hi (by decide))
theorem md_i6 : ho_gI (md G R M I A) M 6 6 = some (I 6) := md_gIG rfl
theorem md_p6 {x : Int32} : ho_p (md G R M I A) M 6 6 (.int x) = some (md G R M (upI I 6 x) A) := md_pG (by decide) (by simp [mfs, upI])
theorem md_i8 : ho_gI (md G R M I A) M 6 8 = some (I 8) := md_gIG rfl
theorem md_p8 {x : Int32} : ho_p (md G R M I A) M 6 8 (.int x) = some (md G R M (upI I 8 x) A) := md_pG (by decide) (by simp [mfs, upI])
theorem md_i10 : ho_gI (md G R M I A) M 6 10 = some (I 10) := md_gIG rfl
theorem md_p10 {x : Int32} : ho_p (md G R M I A) M 6 10 (.int x) = some (md G R M (upI I 10 x) A) := md_pG (by decide) (by simp [mfs, upI])
theorem md_i12 : ho_gI (md G R M I A) M 6 12 = some (I 12) := md_gIG rfl
theorem md_p12 {x : Int32} : ho_p (md G R M I A) M 6 12 (.int x) = some (md G R M (upI I 12 x) A) := md_pG (by decide) (by simp [mfs, upI])
theorem md_i13 : ho_gI (md G R M I A) M 6 13 = some (I 13) := md_gIG rfl
theorem md_p13 {x : Int32} : ho_p (md G R M I A) M 6 13 (.int x) = some (md G R M (upI I 13 x) A) := md_pG (by decide) (by simp [mfs, upI])
theorem md_i14 : ho_gI (md G R M I A) M 6 14 = some (I 14) := md_gIG rfl
theorem md_p14 {x : Int32} : ho_p (md G R M I A) M 6 14 (.int x) = some (md G R M (upI I 14 x) A) := md_pG (by decide) (by simp [mfs, upI])
theorem md_i15 : ho_gI (md G R M I A) M 6 15 = some (I 15) := md_gIG rfl
theorem md_p15 {x : Int32} : ho_p (md G R M I A) M 6 15 (.int x) = some (md G R M (upI I 15 x) A) := md_pG (by decide) (by simp [mfs, upI])
theorem md_i16 : ho_gI (md G R M I A) M 6 16 = some (I 16) := md_gIG rfl
theorem md_p16 {x : Int32} : ho_p (md G R M I A) M 6 16 (.int x) = some (md G R M (upI I 16 x) A) := md_pG (by decide) (by simp [mfs, upI])
theorem md_i17 : ho_gI (md G R M I A) M 6 17 = some (I 17) := md_gIG rfl
theorem md_p17 {x : Int32} : ho_p (md G R M I A) M 6 17 (.int x) = some (md G R M (upI I 17 x) A) := md_pG (by decide) (by simp [mfs, upI])
theorem md_i18 : ho_gI (md G R M I A) M 6 18 = some (I 18) := md_gIG rfl
theorem md_p18 {x : Int32} : ho_p (md G R M I A) M 6 18 (.int x) = some (md G R M (upI I 18 x) A) := md_pG (by decide) (by simp [mfs, upI])
end MD
