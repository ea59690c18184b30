/-- a packet's cells: the object at p, its bytes at m -/
def isP (G : ho_G) (R : ho_H) (S p m bn : Nat) (bf : Nat → Int32) : Prop := ho_f R p 3 = some [.ref m] ∧ ho_aI G R m 0 = some (bn, bf) ∧ (p < S ∨ S + 5 ≤ p) ∧ (m < S ∨ S + 5 ≤ m) ∧ p ≠ m ∧ gB G ≤ m
section PK
variable {G : ho_G} {R σ : ho_H} {S N : Nat} {L : Int32} {B : Nat → Nat → Int32}
theorem isP.f {p m bn : Nat} {bf : Nat → Int32} (h : isP G R S p m bn bf) : ho_f (sl G R S L B) p 3 = some [.ref m] := by
  rw [sl_fO h.2.2.1, h.1]
theorem isP.b {p m bn : Nat} {bf : Nat → Int32} (h : isP G R S p m bn bf) : ho_gR (sl G R S L B) p 3 0 = some m := by
  unfold ho_gR
  rw [h.f]
  rfl
theorem isP.rI {p m bn : Nat} {bf : Nat → Int32} (h : isP G R S p m bn bf) : ho_rI G (sl G R S L B) m = some (bn, bf) := by
  rw [sl_rO h.2.2.2.1]
  unfold ho_rI
  rw [ho_aI_E h.2.1]
  exact if_pos rfl
theorem isP.rd {p m bn : Nat} {bf C : Nat → Int32} (h : isP G R S p m bn bf) : srd G R S C m bn bf := fun _ _ _ => h.rI
theorem Pk_size_S {p m bn : Nat} {bf : Nat → Int32} (h : isP G R S p m bn bf) (hb : 6 ≤ bn) : f_Pk_size G N (sl G R S L B) p = some (bf 5) := by
  unfold f_Pk_size
  rw [h.b, bd_S, show (5 : Int32) = ii 5 from rfl, ld_S h.rI (by omega) (by decide), bd_S]
theorem Pk_kind_S {p m bn : Nat} {bf : Nat → Int32} (h : isP G R S p m bn bf) (hb : 6 ≤ bn) : f_Pk_kind G N (sl G R S L B) p = some (bf 4) := by
  unfold f_Pk_kind
  rw [h.b, bd_S, show (4 : Int32) = ii 4 from rfl, ld_S h.rI (by omega) (by decide), bd_S]
theorem Pk_interval_S {p m bn : Nat} {bf : Nat → Int32} (h : isP G R S p m bn bf) (hb : 6 ≤ bn) : f_Pk_interval G N (sl G R S L B) p = some (s_wd bf 0) := by
  unfold f_Pk_interval
  rw [h.b, bd_S, show (0 : Int32) = ii 0 from rfl, Of_wordAt_S h.rI (by omega) (by decide), bd_S]
theorem Pk_codeAt_S {p m bn n : Nat} {bf : Nat → Int32} (h : isP G R S p m bn bf) (hb : 6 ≤ bn) (hn : bf 5 = ii n) : f_Pk_codeAt G N (sl G R S L B) p = some (ii (6 + n)) := by
  unfold f_Pk_codeAt
  rw [h.f, bd_S, Pk_size_S h hb, bd_S, hn, show (6 : Int32) = ii 6 from rfl, ii_add]
theorem Pk_shownAt_S {p m bn n : Nat} {bf : Nat → Int32} (h : isP G R S p m bn bf) (hb : 6 ≤ bn) (hn : bf 5 = ii n) : f_Pk_shownAt G N (sl G R S L B) p = some (ii (16 + n)) := by
  unfold f_Pk_shownAt
  rw [h.f, bd_S, Pk_codeAt_S h hb hn, bd_S, show (10 : Int32) = ii 10 from rfl, ii_add, show 6 + n + 10 = 16 + n by omega]
theorem Kc_sealPacket_S {a w k p m bn n : Nat} {fi la : Int32} {f bf : Nat → Int32} (hK : isK G R S a w fi la f) (hP : isP G R S p m bn bf) (hk : k ≤ 64) (hn5 : bf 5 = ii n) (hn : n ≤ 32) (hbn : 6 + n ≤ bn) (hl : lowR G R) (hg : gtab G) (hS : gB G ≤ S) (hN : 256 < N) : ∃ L' B', f_Kc_sealPacket G N (sl G R S L B) a (ii k) p S = some (sl G R S L' B') ∧ ∀ i, i < 32 → s_bs (B' 1) i = s_cd (s_bs fun i => f (5 * k + i)) bf (6 + n) i := by
  obtain ⟨l3, f3, e3, v3⟩ := hg 3 tb3 rfl
  have a1 : ii k * 5 = ii (5 * k) := by rw [show (5 : Int32) = ii 5 from rfl, ii_mul, Nat.mul_comm]
  obtain ⟨L1, B1, h1, h2, h3⟩ := Sl_seal_S (L := L) (B := B) (N := N) (kw := 5) (n := 3) (fr := 5 * k) (hK.rd (C := B 2)) (srd_tab hl hS l3 e3) (by decide) (by omega) (by omega) (by decide) (by decide) (stab_of hl hg hS) hN
  have hcp : ∀ (L : Int32) (B : Nat → Nat → Int32), ho_cpI G (sl G R S L B) (S + 1) 0 (S + 2) 0 8 = some (sl G R S L (upA B 2 (va_cpy (B 1) (B 2) 0 0 8))) := by
    intro L B
    have := cp_S (G := G) (σ := sl G R S L B) (src := S + 1) (dst := S + 2) (sp := 0) (dp := 0) (n := 8) (sl_rI (by decide) (by decide)) (sl_aI (by decide) (by decide)) (show 0 + 8 ≤ 8 by decide) (show 0 + 8 ≤ 8 by decide) (by decide) (by decide) (by decide)
    rw [show ho_set (sl G R S L B) (S + 2) (.inl (gc G 0, (ssz 2, B 2).1, .inl (va_cpy (ssz 1, B 1).2 (ssz 2, B 2).2 0 0 8))) = sl G R S L (upA B 2 (va_cpy (B 1) (B 2) 0 0 8)) from sl_set (by decide) (by decide)] at this
    exact this
  obtain ⟨L2, B2, g1, g2, g3⟩ := Sl_seal_S (L := L1) (B := upA B1 2 (va_cpy (B1 1) (B1 2) 0 0 8)) (N := N) (a := S + 2) (kn := 8) (kf := va_cpy (B1 1) (B1 2) 0 0 8) (kw := 8) (n := 6 + n) (fr := 0) (fun L B hB => by rw [sl_rI (by decide) (by decide), hB, upA_eq]; rfl) (hP.rd) (by decide) (by decide) (by decide) (by omega) hbn (stab_of hl hg hS) hN
  refine ⟨L2, B2, ?_, fun i hi => ?_⟩
  · unfold f_Kc_sealPacket
    rw [hK.w, bd_S, ln_tab hl hS l3 e3, bd_S, sl_f, bd_S, a1, show ii tb3.length = ii 3 from rfl, show f_Sl_seal G N (sl G R S L B) S w (ii (5 * k)) 5 (gA G 3) (ii 3) = _ from h1, sl_cv, bd_S, sl_r0, bd_S, sl_r1, bd_S, hcp, bd_S, sl_r1, bd_S, hP.b, bd_S, hP.f, bd_S, Pk_codeAt_S hP (by omega) hn5, bd_S, sl_f, bd_S, show f_Sl_seal G N (sl G R S L1 (upA B1 2 (va_cpy (B1 1) (B1 2) 0 0 8))) S (S + 2) 0 8 m (ii (6 + n)) = _ from g1, sl_cv, bd_S]
  · refine s_bs_congr ((g2 _ (by omega)).trans (s_sl_congr (fun q hq => ?_) (fun _ _ => rfl) _ (by omega)))
    refine s_bs_congr ?_
    show va_cpy (B1 1) (B1 2) 0 0 8 (0 + q / 4) = _
    unfold va_cpy
    rw [if_pos (by omega), Nat.zero_add, Nat.sub_zero, Nat.zero_add, h2 _ (by omega)]
    exact s_sl_congr (fun _ _ => rfl) (fun z hz => v3 z hz) _ (by omega)
end PK
