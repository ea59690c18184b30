section CH4
variable {G : ho_G} {R σ : ho_H} {S N : Nat} {L : Int32} {B : Nat → Nat → Int32}
theorem ld_S {a n i : Nat} {f : Nat → Int32} (h : ho_rI G σ a = some (n, f)) (hi : i < n) (hb : i < 2147483648) : ho_ldI G σ a (ii i) = some (f i) := by
  unfold ho_ldI
  rw [h, bd_S, ii_ix hi hb]
  rfl
theorem Of_byteOf_S {a n i : Nat} {f : Nat → Int32} (h : ho_rI G σ a = some (n, f)) (hi : i < 4 * n) (hb : i < 2147483648) : f_Of_byteOf G N σ a (ii i) = some (s_bs f i) := by
  have a5 : ii i / 4 = ii (i / 4) := ii_div (b := 4) hb (by decide)
  have a6 : ho_rm (ii i) 4 = ii (i % 4) := ii_rm (b := 4) hb (by decide)
  have a7 : 24 - 8 * ii (i % 4) = ii (24 - 8 * (i % 4)) := by rw [show (8 : Int32) = ii 8 from rfl, ii_mul, show (24 : Int32) = ii 24 from rfl, ii_sub (by omega)]
  unfold f_Of_byteOf
  rw [a5, ld_S h (by omega) (by omega), bd_S, a6, a7, s_by_ur (by omega)]
  rfl
theorem Of_wordAt_S {a n i : Nat} {f : Nat → Int32} (h : ho_rI G σ a = some (n, f)) (hi : i + 3 < n) (hb : i + 3 < 2147483648) : f_Of_wordAt G N σ a (ii i) = some (s_wd f i) := by
  have a1 : ii i + 1 = ii (i + 1) := ii_add _ 1
  have a2 : ii i + 2 = ii (i + 2) := ii_add _ 2
  have a3 : ii i + 3 = ii (i + 3) := ii_add _ 3
  unfold f_Of_wordAt
  rw [ld_S h (by omega) (by omega), bd_S, a1, ld_S h (by omega) (by omega), bd_S, a2, ld_S h (by omega) (by omega), bd_S, a3, ld_S h (by omega) (by omega), bd_S]
  rfl
theorem Kc_byteAt_S {a w k i : Nat} {fi la : Int32} {f : Nat → Int32} (hK : isK G R S a w fi la f) (hk : 20 * k + i < 1300) : f_Kc_byteAt G N (sl G R S L B) a (ii k) (ii i) = some (s_bs f (20 * k + i)) := by
  have a1 : ii k * 20 + ii i = ii (20 * k + i) := by rw [show (20 : Int32) = ii 20 from rfl, ii_mul, ii_add, Nat.mul_comm]
  unfold f_Kc_byteAt
  rw [hK.w, bd_S, a1, Of_byteOf_S (hK.rd (C := B 2) L B rfl) (by omega) (by omega), bd_S]
theorem isK.f {a w : Nat} {fi la : Int32} {f : Nat → Int32} (h : isK G R S a w fi la f) : ho_f (sl G R S L B) a 2 = some [.ref w, .int fi, .int la] := by
  rw [sl_fO h.2.2.1, h.1]
theorem Kc_isKey_S {a w k m bn fr : Nat} {fi la : Int32} {f bf : Nat → Int32} (hK : isK G R S a w fi la f) (hk : k ≤ 64) (hm : ho_rI G (sl G R S L B) m = some (bn, bf)) (hfr : fr + 20 ≤ bn) (hb : fr < 2147483000) (hN : 256 < N) : ((∀ i, i < 20 → bf (fr + i) = s_bs f (20 * k + i)) → f_Kc_isKey G N (sl G R S L B) a (ii k) m (ii fr) = some 1) ∧ ((¬ ∀ i, i < 20 → bf (fr + i) = s_bs f (20 * k + i)) → f_Kc_isKey G N (sl G R S L B) a (ii k) m (ii fr) = some 0) := by
  have hstep : ∀ i, i < 20 → bf (fr + i) = s_bs f (20 * k + i) → f_Kc_isKey_l3 G N (sl G R S L B) a (ii k) m (ii fr) (ii i) = some (.inl (ii (i + 1))) := by
    intro i hi hp
    have e0 : ((20 : Int32) ≤ ii i) = False := by rw [show (20 : Int32) = ii 20 from rfl, ii_le (by decide) (by omega)]; exact eq_false (by omega)
    have a2 : ii fr + ii i = ii (fr + i) := ii_add _ _
    have a3 : ii i + 1 = ii (i + 1) := ii_add _ 1
    simp only [f_Kc_isKey_l3, e0, ↓reduceIte, a2, ld_S hm (show fr + i < bn by omega) (show fr + i < 2147483648 by omega), bd_S, hK.f, Kc_byteAt_S hK (show 20 * k + i < 1300 by omega), hp, a3]
  have hbad : ∀ i, i < 20 → ¬ bf (fr + i) = s_bs f (20 * k + i) → f_Kc_isKey_l3 G N (sl G R S L B) a (ii k) m (ii fr) (ii i) = some (.inr (.inr 0)) := by
    intro i hi hp
    have e0 : ((20 : Int32) ≤ ii i) = False := by rw [show (20 : Int32) = ii 20 from rfl, ii_le (by decide) (by omega)]; exact eq_false (by omega)
    have a2 : ii fr + ii i = ii (fr + i) := ii_add _ _
    simp only [f_Kc_isKey_l3, e0, ↓reduceIte, a2, ld_S hm (show fr + i < bn by omega) (show fr + i < 2147483648 by omega), bd_S, hK.f, Kc_byteAt_S hK (show 20 * k + i < 1300 by omega), hp]
  have hend : f_Kc_isKey_l3 G N (sl G R S L B) a (ii k) m (ii fr) (ii 20) = some (.inr (.inl ())) := by
    simp only [f_Kc_isKey_l3]
    rw [if_pos (show (20 : Int32) ≤ ii 20 by decide)]
  refine ⟨fun hall => ?_, fun hnot => ?_⟩
  · unfold f_Kc_isKey
    rw [it_all (fun i hi => hstep i hi (hall i hi)) hend (by omega), bd_S]
    rfl
  · unfold f_Kc_isKey
    rw [it_bad (n := 20) hstep hbad (by omega) (Classical.byContradiction fun hx => hnot fun i hi => Classical.byContradiction fun hp => hx ⟨i, hi, hp⟩), bd_S]
    rfl
theorem isK.st {a w i : Nat} {fi la x : Int32} {f : Nat → Int32} (h : isK G R S a w fi la f) (hi : i < 325) : ho_stI G (sl G R S L B) w (ii i) x = some (sl G (wset G R w 325 (upd f i x)) S L B) := by
  unfold ho_stI
  rw [sl_aO h.2.2.2.1, h.2.1, bd_S, ii_ix hi (by omega), mp_S, sl_setO h.2.2.2.1]
  rfl
theorem wset_rO {w n m : Nat} {f : Nat → Int32} (h : m ≠ w) : ho_rI G (wset G R w n f) m = ho_rI G R m := by
  unfold ho_rI
  rw [show (wset G R w n f).2.2 m = R.2.2 m from if_neg h]
theorem Kc_readKey_S {a w k m bn fr : Nat} {fi la : Int32} {f bf : Nat → Int32} (hK : isK G R S a w fi la f) (hk : k ≤ 64) (hmO : m < S ∨ S + 5 ≤ m) (hmw : m ≠ w) (hm : ho_rI G R m = some (bn, bf)) (hfr : fr + 20 ≤ bn) (hb : fr < 2147483000) (hN : 256 < N) : f_Kc_readKey G N (sl G R S L B) a (ii k) m (ii fr) = some (sl G (wset G R w 325 (s_cp f (fun i => s_wd bf (fr + 4 * i)) (5 * k) 5)) S L B) := by
  unfold f_Kc_readKey
  have e : ho_it (f_Kc_readKey_l3 G N a (ii k) m (ii fr)) N (sl G R S L B, 0) = some (sl G (wset G R w 325 (s_cp f (fun i => s_wd bf (fr + 4 * i)) (5 * k) 5)) S L B) := by
    refine it_for 5 (fun i => (sl G (wset G R w 325 (s_cp f (fun i => s_wd bf (fr + 4 * i)) (5 * k) i)) S L B, ii i)) _ (fun i hi => ?_) ?_ (by omega) (by rw [s_cp_0, wset_self hK.2.1]; rfl)
    · have e0 : ((5 : Int32) ≤ ii i) = False := by rw [show (5 : Int32) = ii 5 from rfl, ii_le (by decide) (by omega)]; exact eq_false (by omega)
      have a1 : ii fr + 4 * ii i = ii (fr + 4 * i) := by rw [show (4 : Int32) = ii 4 from rfl, ii_mul, ii_add]
      have a2 : ii k * 5 + ii i = ii (5 * k + i) := by rw [show (5 : Int32) = ii 5 from rfl, ii_mul, ii_add, Nat.mul_comm]
      have a3 : ii i + 1 = ii (i + 1) := ii_add _ 1
      have hK' : isK G (wset G R w 325 (s_cp f (fun i => s_wd bf (fr + 4 * i)) (5 * k) i)) S a w fi la (s_cp f (fun i => s_wd bf (fr + 4 * i)) (5 * k) i) := hK.ws
      have hm' : ho_rI G (sl G (wset G R w 325 (s_cp f (fun i => s_wd bf (fr + 4 * i)) (5 * k) i)) S L B) m = some (bn, bf) := by rw [sl_rO hmO, wset_rO hmw, hm]
      simp only [f_Kc_readKey_l3, e0, ↓reduceIte, hK'.w, bd_S, a1, Of_wordAt_S hm' (show fr + 4 * i + 3 < bn by omega) (show fr + 4 * i + 3 < 2147483648 by omega), a2, hK'.st (show 5 * k + i < 325 by omega), a3, wset_wset]
      rw [s_cp_up rfl]
    · simp only [f_Kc_readKey_l3]
      rw [if_pos (show (5 : Int32) ≤ ii 5 by decide)]
  rw [e, bd_S]
end CH4
