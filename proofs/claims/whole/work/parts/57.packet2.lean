section PK2
variable {G : ho_G} {R σ : ho_H} {S N : Nat} {L : Int32} {B : Nat → Nat → Int32}
theorem wset_aO {w n m kd : Nat} {f : Nat → Int32} (h : m ≠ w) : ho_aI G (wset G R w n f) m kd = ho_aI G R m kd := by
  unfold ho_aI
  rw [show (wset G R w n f).2.2 m = R.2.2 m from if_neg h]
theorem isK.wO {a w m bn : Nat} {fi la : Int32} {f g : Nat → Int32} (h : isK G R S a w fi la f) (h1 : a ≠ m) (h2 : w ≠ m) : isK G (wset G R m bn g) S a w fi la f := ⟨by rw [wset_f h1]; exact h.1, by rw [wset_aO h2]; exact h.2.1, h.2.2⟩
theorem Kc_writeKey_S {a w k m bn fr : Nat} {fi la : Int32} {f bf : Nat → Int32} (hK : isK G R S a w fi la f) (hk : k ≤ 64) (hmO : m < S ∨ S + 5 ≤ m) (hma : a ≠ m) (hmw : w ≠ m) (hm : ho_aI G R m 0 = some (bn, bf)) (hfr : fr + 20 ≤ bn) (hb : fr < 2147483000) (hN : 256 < N) : f_Kc_writeKey G N (sl G R S L B) a (ii k) m (ii fr) = some (sl G (wset G R m bn (s_cp bf (fun i => s_bs f (20 * k + i)) fr 20)) S L B) := by
  unfold f_Kc_writeKey
  have e : ho_it (f_Kc_writeKey_l3 G N a (ii k) m (ii fr)) N (sl G R S L B, 0) = some (sl G (wset G R m bn (s_cp bf (fun i => s_bs f (20 * k + i)) fr 20)) S L B) := by
    refine it_for 20 (fun i => (sl G (wset G R m bn (s_cp bf (fun i => s_bs f (20 * k + i)) fr i)) S L B, ii i)) _ (fun i hi => ?_) ?_ (by omega) (by rw [s_cp_0, wset_self hm]; rfl)
    · have e0 : ((20 : Int32) ≤ ii i) = False := by rw [show (20 : Int32) = ii 20 from rfl, ii_le (by decide) (by omega)]; exact eq_false (by omega)
      have a1 : ii fr + ii i = ii (fr + i) := ii_add _ _
      have a3 : ii i + 1 = ii (i + 1) := ii_add _ 1
      have hK' : isK G (wset G R m bn (s_cp bf (fun i => s_bs f (20 * k + i)) fr i)) S a w fi la f := hK.wO hma hmw
      have hst : ho_stI G (sl G (wset G R m bn (s_cp bf (fun i => s_bs f (20 * k + i)) fr i)) S L B) m (ii (fr + i)) (s_bs f (20 * k + i)) = some (sl G (wset G R m bn (s_cp bf (fun i => s_bs f (20 * k + i)) fr (i + 1))) S L B) := by
        unfold ho_stI
        rw [sl_aO hmO, wset_aI, bd_S, ii_ix (by omega) (by omega), mp_S, sl_setO hmO]
        show some (sl G (wset G (wset G R m bn _) m bn _) S L B) = _
        rw [wset_wset, s_cp_up rfl]
      simp only [f_Kc_writeKey_l3, e0, ↓reduceIte, hK'.f, bd_S, Kc_byteAt_S hK' (show 20 * k + i < 1300 by omega), a1, hst, a3]
    · simp only [f_Kc_writeKey_l3]
      rw [if_pos (show (20 : Int32) ≤ ii 20 by decide)]
  rw [e, bd_S]
theorem Pk_hasCode_S {p m bn n : Nat} {bf : Nat → Int32} (hP : isP G R S p m bn bf) (hn5 : bf 5 = ii n) (hn : n ≤ 32) (hbn : 16 + n ≤ bn) (hN : 256 < N) : ((∀ i, i < 10 → bf (6 + n + i) = s_bs (B 1) i) → f_Pk_hasCode G N (sl G R S L B) p (S + 1) = some 1) ∧ ((¬ ∀ i, i < 10 → bf (6 + n + i) = s_bs (B 1) i) → f_Pk_hasCode G N (sl G R S L B) p (S + 1) = some 0) := by
  have hr : ho_rI G (sl G R S L B) (S + 1) = some (8, B 1) := sl_rI (by decide) (by decide)
  have hstep : ∀ i, i < 10 → bf (6 + n + i) = s_bs (B 1) i → f_Pk_hasCode_l2 G N (sl G R S L B) p (S + 1) (ii i) = some (.inl (ii (i + 1))) := by
    intro i hi hp
    have e0 : ((10 : Int32) ≤ ii i) = False := by rw [show (10 : Int32) = ii 10 from rfl, ii_le (by decide) (by omega)]; exact eq_false (by omega)
    have a2 : ii (6 + n) + ii i = ii (6 + n + i) := ii_add _ _
    have a3 : ii i + 1 = ii (i + 1) := ii_add _ 1
    simp only [f_Pk_hasCode_l2, e0, ↓reduceIte, hP.b, hP.f, bd_S, Pk_codeAt_S hP (show 6 ≤ bn by omega) hn5, a2, ld_S hP.rI (show 6 + n + i < bn by omega) (show 6 + n + i < 2147483648 by omega), Of_byteOf_S hr (show i < 4 * 8 by omega) (show i < 2147483648 by omega), hp, a3]
  have hbad : ∀ i, i < 10 → ¬ bf (6 + n + i) = s_bs (B 1) i → f_Pk_hasCode_l2 G N (sl G R S L B) p (S + 1) (ii i) = some (.inr (.inr 0)) := by
    intro i hi hp
    have e0 : ((10 : Int32) ≤ ii i) = False := by rw [show (10 : Int32) = ii 10 from rfl, ii_le (by decide) (by omega)]; exact eq_false (by omega)
    have a2 : ii (6 + n) + ii i = ii (6 + n + i) := ii_add _ _
    simp only [f_Pk_hasCode_l2, e0, ↓reduceIte, hP.b, hP.f, bd_S, Pk_codeAt_S hP (show 6 ≤ bn by omega) hn5, a2, ld_S hP.rI (show 6 + n + i < bn by omega) (show 6 + n + i < 2147483648 by omega), Of_byteOf_S hr (show i < 4 * 8 by omega) (show i < 2147483648 by omega), hp]
  have hend : f_Pk_hasCode_l2 G N (sl G R S L B) p (S + 1) (ii 10) = some (.inr (.inl ())) := by
    simp only [f_Pk_hasCode_l2]
    rw [if_pos (show (10 : Int32) ≤ ii 10 by decide)]
  refine ⟨fun hall => ?_, fun hnot => ?_⟩
  · unfold f_Pk_hasCode
    rw [it_all (fun i hi => hstep i hi (hall i hi)) hend (by omega), bd_S]
    rfl
  · unfold f_Pk_hasCode
    rw [it_bad (n := 10) hstep hbad (by omega) (Classical.byContradiction fun hx => hnot fun i hi => Classical.byContradiction fun hp => hx ⟨i, hi, hp⟩), bd_S]
    rfl
end PK2
