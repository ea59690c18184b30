section CH5
variable {G : ho_G} {R σ : ho_H} {S N : Nat} {L : Int32} {B : Nat → Nat → Int32}
theorem sl_cv2 {R1 R2 : ho_H} {L1 L2 : Int32} {B1 B2 : Nat → Nat → Int32} (h1 : R1.1 ≤ R2.1) (h2 : R1.2.1 ≤ R2.2.1) : ho_cv (sl G R1 S L1 B1) (some (sl G R2 S L2 B2)) = some (sl G R2 S L2 B2) := by
  unfold ho_cv
  rw [bd_S, if_pos ⟨h1, h2⟩]
theorem kset_kset {a w : Nat} {fi la fi' la' : Int32} : kset (kset R a w fi la) a w fi' la' = kset R a w fi' la' := by
  unfold kset ho_set
  congr 2
  funext q
  by_cases h : q = a
  · rw [if_pos h, if_pos h]
  · rw [if_neg h, if_neg h]
    exact if_neg h
theorem Kc_forget_S {a w : Nat} {fi la : Int32} {f : Nat → Int32} (hK : isK G R S a w fi la f) : f_Kc_forget G N (sl G R S L B) a = some (sl G (kset R a w (-1) (-1)) S L B) := by
  unfold f_Kc_forget
  rw [hK.p1, bd_S, (hK.ks (fi' := -1) (la' := la)).p2, bd_S, kset_kset]
theorem Kc_learnRoot_S {a w m bn fr : Nat} {fi la : Int32} {f bf : Nat → Int32} (hK : isK G R S a w fi la f) (hmO : m < S ∨ S + 5 ≤ m) (hmw : m ≠ w) (hm : ho_rI G R m = some (bn, bf)) (hfr : fr + 20 ≤ bn) (hb : fr < 2147483000) (hN : 256 < N) : f_Kc_learnRoot G N (sl G R S L B) a m (ii fr) = some (sl G (kset (wset G R w 325 (s_cp f (fun i => s_wd bf (fr + 4 * i)) 0 5)) a w 0 0) S L B) := by
  unfold f_Kc_learnRoot
  rw [hK.f, bd_S, show (0 : Int32) = ii 0 from rfl, Kc_readKey_S hK (by decide) hmO hmw hm hfr hb hN, sl_cv2 (R1 := R) (R2 := wset G R w 325 _) (Nat.le_refl _) (Nat.le_refl _), bd_S, hK.ws.p1, bd_S, (hK.ws.ks).p2, bd_S, kset_kset, Nat.mul_zero]
theorem Kc_isKnown_S {a w : Nat} {fi la : Int32} {f : Nat → Int32} (hK : isK G R S a w fi la f) : f_Kc_isKnown G N (sl G R S L B) a = some (if la = -1 then 0 else 1) := by
  unfold f_Kc_isKnown f_Kc_isKnown_j13
  rw [hK.la, bd_S]
  by_cases h : la = -1
  · rw [if_pos h, if_pos h]; rfl
  · rw [if_neg h, if_neg h]; rfl
end CH5
