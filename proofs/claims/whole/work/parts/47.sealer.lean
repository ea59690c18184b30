/-! the sealer's block: its object at S, its rows behind it (1 result, 2 code key, 3 row, 4 words) -/
theorem cp_S {G : ho_G} {σ : ho_H} {src dst sp dp n : Nat} {q w : Nat × (Nat → Int32)} (hq : ho_rI G σ src = some q) (hw : ho_aI G σ dst 0 = some w) (h1 : sp + n ≤ q.1) (h2 : dp + n ≤ w.1) (b1 : sp < 2147483648) (b2 : dp < 2147483648) (b3 : n < 2147483648) : ho_cpI G σ src (ii sp) dst (ii dp) (ii n) = some (ho_set σ dst (.inl (gc G 0, w.1, .inl (va_cpy q.2 w.2 sp dp n)))) := by
  unfold ho_cpI
  rw [hq, bd_S, hw, bd_S, if_neg, ii_nat b1, ii_nat b2, ii_nat b3]
  rw [ii_nat b1, ii_nat b2, ii_nat b3]
  rintro (h | h | h | h | h)
  · exact ii_nneg b1 h
  · exact ii_nneg b2 h
  · exact ii_nneg b3 h
  · omega
  · omega
def slf (S : Nat) (L : Int32) : List Value := [.ref (S + 1), .ref (S + 2), .ref (S + 3), .int L, .ref (S + 4)]
def ssz (p : Nat) : Nat := match p with
  | 1 => 8
  | 2 => 8
  | 3 => 32
  | _ => 64
def sle (G : ho_G) (S : Nat) (L : Int32) (B : Nat → Nat → Int32) (k : Nat) : Option va_E := if k = 0 then some (.inr (1, slf S L)) else if k < 5 then some (.inl (gc G 0, ssz k, .inl (B k))) else none
def sl (G : ho_G) (R : ho_H) (S : Nat) (L : Int32) (B : Nat → Nat → Int32) : ho_H := (R.1, R.2.1, fun a => if a < S then R.2.2 a else (sle G S L B (a - S)).or (R.2.2 a))
section SL
variable {G : ho_G} {R : ho_H} {S N : Nat} {L : Int32} {B : Nat → Nat → Int32}
theorem sl_at {k : Nat} {e : va_E} (h : sle G S L B k = some e) : (sl G R S L B).2.2 (S + k) = some e := by
  show (if S + k < S then _ else _) = _
  rw [if_neg (by omega), Nat.add_sub_cancel_left, h]
  rfl
theorem sl_f : ho_f (sl G R S L B) S 1 = some (slf S L) := by
  unfold ho_f
  rw [show (sl G R S L B).2.2 S = some (.inr (1, slf S L)) from sl_at (k := 0) rfl]
  rfl
theorem sl_ext {σ : ho_H} {L' : Int32} {B' : Nat → Nat → Int32} (h1 : σ.1 = R.1) (h2 : σ.2.1 = R.2.1) (h3 : ∀ a, a < S → σ.2.2 a = R.2.2 a) (h4 : ∀ k, σ.2.2 (S + k) = (sle G S L' B' k).or (R.2.2 (S + k))) : σ = sl G R S L' B' := by
  obtain ⟨s1, s2, s3⟩ := σ
  dsimp only at h1 h2 h3 h4
  subst h1; subst h2
  show _ = (R.1, R.2.1, _)
  congr 2
  funext a
  by_cases h : a < S
  · rw [if_pos h, h3 a h]
  · rw [if_neg h]
    have := h4 (a - S)
    rw [show S + (a - S) = a by omega] at this
    exact this
theorem sl_set {p : Nat} (hp : 0 < p) (hp5 : p < 5) {f : Nat → Int32} : ho_set (sl G R S L B) (S + p) (.inl (gc G 0, ssz p, .inl f)) = sl G R S L (upA B p f) := by
  refine sl_ext rfl rfl (fun a ha => ?_) (fun k => ?_)
  · show (if a = S + p then _ else (if a < S then _ else _)) = _
    rw [if_neg (by omega), if_pos ha]
  · show (if S + k = S + p then _ else (if S + k < S then _ else _)) = _
    rw [if_neg (show ¬ S + k < S by omega), Nat.add_sub_cancel_left]
    unfold sle
    by_cases hk : k = p
    · subst hk
      rw [if_pos rfl, if_neg (by omega), if_pos hp5, upA_eq]
      rfl
    · rw [if_neg (by omega), upA_ne hk]
theorem sl_aI {p : Nat} (hp : 0 < p) (hp5 : p < 5) : ho_aI G (sl G R S L B) (S + p) 0 = some (ssz p, B p) := by
  unfold ho_aI
  rw [sl_at (k := p) (e := .inl (gc G 0, ssz p, .inl (B p))) (by unfold sle; rw [if_neg (by omega), if_pos hp5])]
  exact if_pos rfl
theorem sl_rI {p : Nat} (hp : 0 < p) (hp5 : p < 5) : ho_rI G (sl G R S L B) (S + p) = some (ssz p, B p) := by
  unfold ho_rI
  rw [sl_at (k := p) (e := .inl (gc G 0, ssz p, .inl (B p))) (by unfold sle; rw [if_neg (by omega), if_pos hp5])]
  exact if_pos rfl
theorem sl_out {a : Nat} (h : a < S ∨ S + 5 ≤ a) : (sl G R S L B).2.2 a = R.2.2 a := by
  show (if a < S then _ else (sle G S L B (a - S)).or _) = _
  by_cases h1 : a < S
  · rw [if_pos h1]
  · rw [if_neg h1]
    unfold sle
    rw [if_neg (by omega), if_neg (by omega)]
    rfl
theorem sl_rO {a : Nat} (h : a < S ∨ S + 5 ≤ a) : ho_rI G (sl G R S L B) a = ho_rI G R a := by
  unfold ho_rI
  rw [sl_out h]
theorem sl_cv {L' : Int32} {B' : Nat → Nat → Int32} : ho_cv (sl G R S L B) (some (sl G R S L' B')) = some (sl G R S L' B') := by
  unfold ho_cv
  rw [bd_S, if_pos ⟨Nat.le_refl _, Nat.le_refl _⟩]
theorem sl_r0 : ho_gR (sl G R S L B) S 1 0 = some (S + 1) := by unfold ho_gR; rw [sl_f, bd_S]; rfl
theorem sl_r1 : ho_gR (sl G R S L B) S 1 1 = some (S + 2) := by unfold ho_gR; rw [sl_f, bd_S]; rfl
theorem sl_r2 : ho_gR (sl G R S L B) S 1 2 = some (S + 3) := by unfold ho_gR; rw [sl_f, bd_S]; rfl
theorem sl_r4 : ho_gR (sl G R S L B) S 1 4 = some (S + 4) := by unfold ho_gR; rw [sl_f, bd_S]; rfl
theorem sl_i3 : ho_gI (sl G R S L B) S 1 3 = some L := by unfold ho_gI; rw [sl_f, bd_S]; rfl
theorem sl_p3 {x : Int32} : ho_p (sl G R S L B) S 1 3 (.int x) = some (sl G R S x B) := by
  unfold ho_p
  rw [sl_f, bd_S, if_pos (show 3 < (slf S L).length from (by show 3 < 5; decide)), show (slf S L).set 3 (.int x) = slf S x from rfl]
  congr 1
  refine sl_ext rfl rfl (fun a ha => ?_) (fun k => ?_)
  · show (if a = S then _ else (if a < S then _ else _)) = _
    rw [if_neg (by omega), if_pos ha]
  · show (if S + k = S then _ else (if S + k < S then _ else _)) = _
    rw [if_neg (show ¬ S + k < S by omega), Nat.add_sub_cancel_left]
    unfold sle
    by_cases hk : k = 0
    · rw [if_pos (by omega), if_pos hk]; rfl
    · rw [if_neg (by omega), if_neg hk, if_neg hk]
theorem sl_ld1 {i : Nat} (hi : i < 8) : ho_ldI G (sl G R S L B) (S + 1) (ii i) = some (B 1 i) := by
  unfold ho_ldI
  rw [sl_rI (by decide) (by decide), bd_S, ii_ix (show i < ssz 1 from hi) (by omega)]
  rfl
theorem sl_st1 {i : Nat} {x : Int32} (hi : i < 8) : ho_stI G (sl G R S L B) (S + 1) (ii i) x = some (sl G R S L (upA B 1 (upd (B 1) i x))) := by
  unfold ho_stI
  rw [sl_aI (by decide) (by decide), bd_S, ii_ix (show i < ssz 1 from hi) (by omega), mp_S, sl_set (by decide) (by decide)]
theorem sl_ld2 {i : Nat} (hi : i < 8) : ho_ldI G (sl G R S L B) (S + 2) (ii i) = some (B 2 i) := by
  unfold ho_ldI
  rw [sl_rI (by decide) (by decide), bd_S, ii_ix (show i < ssz 2 from hi) (by omega)]
  rfl
theorem sl_st2 {i : Nat} {x : Int32} (hi : i < 8) : ho_stI G (sl G R S L B) (S + 2) (ii i) x = some (sl G R S L (upA B 2 (upd (B 2) i x))) := by
  unfold ho_stI
  rw [sl_aI (by decide) (by decide), bd_S, ii_ix (show i < ssz 2 from hi) (by omega), mp_S, sl_set (by decide) (by decide)]
theorem sl_ld3 {i : Nat} (hi : i < 32) : ho_ldI G (sl G R S L B) (S + 3) (ii i) = some (B 3 i) := by
  unfold ho_ldI
  rw [sl_rI (by decide) (by decide), bd_S, ii_ix (show i < ssz 3 from hi) (by omega)]
  rfl
theorem sl_st3 {i : Nat} {x : Int32} (hi : i < 32) : ho_stI G (sl G R S L B) (S + 3) (ii i) x = some (sl G R S L (upA B 3 (upd (B 3) i x))) := by
  unfold ho_stI
  rw [sl_aI (by decide) (by decide), bd_S, ii_ix (show i < ssz 3 from hi) (by omega), mp_S, sl_set (by decide) (by decide)]
theorem sl_ld4 {i : Nat} (hi : i < 64) : ho_ldI G (sl G R S L B) (S + 4) (ii i) = some (B 4 i) := by
  unfold ho_ldI
  rw [sl_rI (by decide) (by decide), bd_S, ii_ix (show i < ssz 4 from hi) (by omega)]
  rfl
theorem sl_st4 {i : Nat} {x : Int32} (hi : i < 64) : ho_stI G (sl G R S L B) (S + 4) (ii i) x = some (sl G R S L (upA B 4 (upd (B 4) i x))) := by
  unfold ho_stI
  rw [sl_aI (by decide) (by decide), bd_S, ii_ix (show i < ssz 4 from hi) (by omega), mp_S, sl_set (by decide) (by decide)]
theorem Ar_fill_S (hN : 256 < N) : f_Ar_fill G N (sl G R S L B) (S + 3) 0 = some (sl G R S L (upA B 3 (ovr (fun _ => 0) (B 3) 32))) := by
  unfold f_Ar_fill ho_lnI
  rw [sl_rI (by decide) (by decide), mp_S, bd_S]
  show (ho_it (f_Ar_fill_l5 G N (S + 3) 0 (ii 32)) N (sl G R S L B, 0)).bind _ = _
  have e : ho_it (f_Ar_fill_l5 G N (S + 3) 0 (ii 32)) N (sl G R S L B, 0) = some (sl G R S L (upA B 3 (ovr (fun _ => 0) (B 3) 32))) := by
    refine it_for 32 (fun k => (sl G R S L (upA B 3 (ovr (fun _ => 0) (B 3) k)), ii k)) (sl G R S L (upA B 3 (ovr (fun _ => 0) (B 3) 32))) (fun k hk => ?_) ?_ (by omega) (by rw [upA_up0]; rfl)
    · have e0 : (ii 32 ≤ ii k) = False := by rw [ii_le (by decide) (by omega)]; exact eq_false (by omega)
      have a4 : ii k + 1 = ii (k + 1) := ii_add _ 1
      simp only [f_Ar_fill_l5, e0, ↓reduceIte, sl_st3 hk, bd_S, a4]
      rw [upA_upA, upA_eq, ovr_up rfl]
    · simp only [f_Ar_fill_l5]
      rw [if_pos (show ii 32 ≤ ii 32 by decide)]
  rw [e, bd_S]
theorem Sl_clear_S (hN : 256 < N) : f_Sl_clear G N (sl G R S L B) S = some (sl G R S 0 (upA B 3 (ovr (fun _ => 0) (B 3) 32))) := by
  unfold f_Sl_clear
  rw [sl_r2, bd_S, Ar_fill_S hN, sl_cv, bd_S, sl_p3, bd_S]
theorem Sl_addByte_S {n : Nat} {b : Int32} (hn : n < 120) : f_Sl_addByte G N (sl G R S (ii n) B) S b = some (sl G R S (ii (n + 1)) (upA B 3 (upd (B 3) (n / 4) (B 3 (n / 4) ||| ho_sl b (ii (24 - 8 * (n % 4))))))) := by
  have e0 : ((120 : Int32) ≤ ii n) = False := by rw [show (120 : Int32) = ii 120 from rfl, ii_le (by decide) (by omega)]; exact eq_false (by omega)
  have a4 : ii n + 1 = ii (n + 1) := ii_add _ 1
  have a5 : ii n / 4 = ii (n / 4) := ii_div (b := 4) (by omega) (by decide)
  have a6 : ho_rm (ii n) 4 = ii (n % 4) := ii_rm (b := 4) (by omega) (by decide)
  have a7 : 24 - 8 * ii (n % 4) = ii (24 - 8 * (n % 4)) := by rw [show (8 : Int32) = ii 8 from rfl, ii_mul, show (24 : Int32) = ii 24 from rfl, ii_sub (by omega)]
  simp only [f_Sl_addByte, f_Sl_addByte_j47, sl_i3, e0, ↓reduceIte, bd_S, sl_r2, a5, a6, a7, sl_ld3 (show n / 4 < 32 by omega), sl_st3 (show n / 4 < 32 by omega), a4, sl_p3]
theorem Sl_spread_l {k : Nat} (hk : 16 ≤ k) (hk2 : k < 64) : f_Sl_spreadBlock_l18 G N S (sl G R S L B, ii k) = some (.inl (sl G R S L (upA B 4 (upd (B 4) k (((B 4 (k - 16) + B 4 (k - 7)) + s_s0 (B 4 (k - 15))) + s_s1 (B 4 (k - 2))))), ii (k + 1))) := by
  have e0 : ((64 : Int32) ≤ ii k) = False := by rw [show (64 : Int32) = ii 64 from rfl, ii_le (by decide) (by omega)]; exact eq_false (by omega)
  have a1 : ii k - 15 = ii (k - 15) := ii_sub (b := 15) (by omega)
  have a2 : ii k - 2 = ii (k - 2) := ii_sub (b := 2) (by omega)
  have a3 : ii k - 16 = ii (k - 16) := ii_sub (b := 16) (by omega)
  have a5 : ii k - 7 = ii (k - 7) := ii_sub (b := 7) (by omega)
  have a4 : ii k + 1 = ii (k + 1) := ii_add _ 1
  simp only [f_Sl_spreadBlock_l18, e0, ↓reduceIte, sl_r4, bd_S, a1, a2, a3, a4, a5, sl_ld4 (show k - 15 < 64 by omega), sl_ld4 (show k - 2 < 64 by omega), sl_ld4 (show k - 16 < 64 by omega), sl_ld4 (show k - 7 < 64 by omega), sl_st4 hk2]
  rfl
theorem Sl_spread_S {fr : Nat} (hf : fr + 16 ≤ 32) (hN : 256 < N) : f_Sl_spreadBlock G N (sl G R S L B) S (ii fr) = some (sl G R S L (upA B 4 (ovr (s_w fun k => B 3 (fr + k)) (B 4) 64))) := by
  unfold f_Sl_spreadBlock
  rw [sl_r2, bd_S, sl_r4, bd_S, show (0 : Int32) = ii 0 from rfl, show ho_cpI G (sl G R S L B) (S + 3) (ii fr) (S + 4) (ii 0) 16 = _ from cp_S (n := 16) (sl_rI (by decide) (by decide)) (sl_aI (by decide) (by decide)) (show fr + 16 ≤ 32 from hf) (show 0 + 16 ≤ 64 by decide) (by omega) (by decide) (by decide), bd_S]
  rw [show ho_set (sl G R S L B) (S + 4) (.inl (gc G 0, ssz 4, .inl (va_cpy (B 3) (B 4) fr 0 16))) = sl G R S L (upA B 4 (va_cpy (B 3) (B 4) fr 0 16)) from sl_set (by decide) (by decide)]
  have h0 : va_cpy (B 3) (B 4) fr 0 16 = ovr (s_w fun k => B 3 (fr + k)) (B 4) 16 := by
    funext k
    unfold va_cpy ovr
    by_cases h : k < 16
    · rw [if_pos (by omega), if_pos h, s_w_lt h]
      rfl
    · rw [if_neg (by omega), if_neg h]
  have e : ho_it (f_Sl_spreadBlock_l18 G N S) N (sl G R S L (upA B 4 (ovr (s_w fun k => B 3 (fr + k)) (B 4) 16)), 16) = some (sl G R S L (upA B 4 (ovr (s_w fun k => B 3 (fr + k)) (B 4) 64))) := by
    refine it_for 48 (fun k => (sl G R S L (upA B 4 (ovr (s_w fun k => B 3 (fr + k)) (B 4) (16 + k))), ii (16 + k))) (sl G R S L (upA B 4 (ovr (s_w fun k => B 3 (fr + k)) (B 4) 64))) (fun k hk => ?_) ?_ (by omega) rfl
    · rw [Sl_spread_l (by omega) (by omega), upA_upA, upA_eq, ovr_up]
      · rfl
      · rw [ovr_lt (by omega), ovr_lt (by omega), ovr_lt (by omega), ovr_lt (by omega)]
        exact (s_w_ge (by omega)).symm
    · simp only [f_Sl_spreadBlock_l18]
      rw [if_pos (show (64 : Int32) ≤ ii (16 + 48) by decide)]
  rw [h0, e, bd_S]
end SL
