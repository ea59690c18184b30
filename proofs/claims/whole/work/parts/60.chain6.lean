section CH6
variable {G : ho_G} {R σ : ho_H} {S N : Nat} {L : Int32} {B : Nat → Nat → Int32}
theorem Kc_learnFrom_S {a w a' w' k : Nat} {fi la fi' la' : Int32} {f f' : Nat → Int32} (hK : isK G R S a w fi la f) (hK' : isK G R S a' w' fi' la' f') (hk : k ≤ 64) : f_Kc_learnFrom G N (sl G R S L B) a a' (ii k) = some (sl G (kset (wset G R w 325 (va_cpy f' f (5 * k) (5 * k) 5)) a w (ii k) (ii k)) S L B) := by
  have a1 : ii k * 5 = ii (5 * k) := by rw [show (5 : Int32) = ii 5 from rfl, ii_mul, Nat.mul_comm]
  have hcp : ho_cpI G (sl G R S L B) w' (ii (5 * k)) w (ii (5 * k)) 5 = some (sl G (wset G R w 325 (va_cpy f' f (5 * k) (5 * k) 5)) S L B) := by
    have := cp_S (G := G) (σ := sl G R S L B) (src := w') (dst := w) (sp := 5 * k) (dp := 5 * k) (n := 5) (hK'.rd (C := B 2) L B rfl) ((sl_aO hK.2.2.2.1).trans hK.2.1) (show 5 * k + 5 ≤ 325 by omega) (show 5 * k + 5 ≤ 325 by omega) (by omega) (by omega) (by decide)
    rw [sl_setO hK.2.2.2.1] at this
    exact this
  unfold f_Kc_learnFrom
  rw [hK'.w, bd_S, hK.w, bd_S, a1, hcp, bd_S, hK.ws.p1, bd_S, (hK.ws.ks).p2, bd_S, kset_kset]
/-- five words at 320 -/
def top5 (f : Nat → Int32) (x0 x1 x2 x3 x4 : Int32) : Nat → Int32 := upd (upd (upd (upd (upd f 320 x0) 321 x1) 322 x2) 323 x3) 324 x4
theorem Kc_putTopKey_S {a w : Nat} {fi la : Int32} {f : Nat → Int32} {x0 x1 x2 x3 x4 : Int32} (hK : isK G R S a w fi la f) : f_Kc_putTopKey G N (sl G R S L B) a x0 x1 x2 x3 x4 = some (sl G (wset G R w 325 (top5 f x0 x1 x2 x3 x4)) S L B) := by
  unfold f_Kc_putTopKey
  rw [hK.w, bd_S, show (320 : Int32) = ii 320 from rfl, hK.st (by decide), bd_S, hK.ws.w, bd_S, show ii 320 + 1 = ii 321 from rfl, hK.ws.st (by decide), bd_S, wset_wset, hK.ws.w, bd_S, show ii 320 + 2 = ii 322 from rfl, hK.ws.st (by decide), bd_S, wset_wset, hK.ws.w, bd_S, show ii 320 + 3 = ii 323 from rfl, hK.ws.st (by decide), bd_S, wset_wset, hK.ws.w, bd_S, show ii 320 + 4 = ii 324 from rfl, hK.ws.st (by decide), bd_S, wset_wset]
  rfl
end CH6
