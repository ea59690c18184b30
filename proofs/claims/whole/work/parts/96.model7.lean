/-! the model is made -/
def upE (X : Nat → va_E) (p : Nat) (e : va_E) : Nat → va_E := fun q => if q = p then e else X q
/-- the model in the making: its object at M, p arrays behind it -/
def hb (σ : ho_H) (M : Nat) (fs : List Value) (p : Nat) (X : Nat → va_E) (s : Nat) : ho_H := (M + 1 + p, s, fun a => if a = M then some (.inr (6, fs)) else if M < a ∧ a ≤ M + p then some (X (a - M - 1)) else σ.2.2 a)
theorem upE_upE {X : Nat → va_E} {p : Nat} {e e' : va_E} : upE (upE X p e) p e' = upE X p e' := by
  funext q
  unfold upE
  by_cases h : q = p
  · rw [if_pos h, if_pos h]
  · rw [if_neg h, if_neg h, if_neg h]
section MI
variable {G : ho_G} {σ : ho_H} {N M p s n i j : Nat} {fs : List Value} {X : Nat → va_E} {e : va_E} {x : Int32} {f : Nat → Int32} {v : Value}
theorem hb_new : new (hb σ M fs p X s) n e = hb σ M fs (p + 1) (upE X p e) (s + n) := by
  show ((M + 1 + p + 1, s + n, fun a => if a = M + 1 + p then some e else (hb σ M fs p X s).2.2 a) : ho_H) = (M + 1 + (p + 1), s + n, fun a => if a = M then some (.inr (6, fs)) else if M < a ∧ a ≤ M + (p + 1) then some (upE X p e (a - M - 1)) else σ.2.2 a)
  have h : (fun a => if a = M + 1 + p then some e else (hb σ M fs p X s).2.2 a) = fun a => if a = M then some (.inr (6, fs)) else if M < a ∧ a ≤ M + (p + 1) then some (upE X p e (a - M - 1)) else σ.2.2 a := by
    funext a
    show (if a = M + 1 + p then some e else if a = M then some (.inr (6, fs)) else if M < a ∧ a ≤ M + p then some (X (a - M - 1)) else σ.2.2 a) = _
    by_cases h1 : a = M + 1 + p
    · rw [if_pos h1, if_neg (by omega), if_pos (by omega)]
      unfold upE
      rw [if_pos (by omega)]
    · rw [if_neg h1]
      by_cases h2 : a = M
      · rw [if_pos h2, if_pos h2]
      · rw [if_neg h2, if_neg h2]
        by_cases h3 : M < a ∧ a ≤ M + p
        · rw [if_pos h3, if_pos (by omega)]
          unfold upE
          rw [if_neg (by omega)]
        · rw [if_neg h3, if_neg (by omega)]
  rw [h]
  rfl
theorem hb_nw (h1 : M + 1 + p + 1 ≤ gC G) (h2 : s + n ≤ gS G) (h3 : n ≤ 60000000) : ho_nwI G (hb σ M fs p X s) (ii n) = some (hb σ M fs (p + 1) (upE X p (.inl (gc G 0, n, .inl fun _ => 0))) (s + n), M + 1 + p) := by
  rw [nwI_S h1 h2 h3, hb_new]
  rfl
theorem hb_nwZ (h1 : M + 1 + p + 1 ≤ gC G) (h2 : s + n ≤ gS G) (h3 : n ≤ 60000000) : ho_nwZ G (hb σ M fs p X s) (ii n) = some (hb σ M fs (p + 1) (upE X p (.inl (gc G 1, n, .inl fun _ => 0))) (s + n), M + 1 + p) := by
  unfold ho_nwZ
  rw [n_S h3, bd_S, al_S h1 h2, hb_new]
  rfl
theorem hb_at : (hb σ M fs p X s).2.2 M = some (.inr (6, fs)) := if_pos rfl
theorem hb_ar (hi : i < p) : (hb σ M fs p X s).2.2 (M + 1 + i) = some (X i) := by
  show (if M + 1 + i = M then _ else if M < M + 1 + i ∧ M + 1 + i ≤ M + p then some (X (M + 1 + i - M - 1)) else _) = _
  rw [if_neg (by omega), if_pos (by omega), show M + 1 + i - M - 1 = i by omega]
theorem hb_p (hj : j < fs.length) : ho_p (hb σ M fs p X s) M 6 j v = some (hb σ M (fs.set j v) p X s) := by
  rw [c_p hb_at hj]
  refine congrArg some ?_
  show ((M + 1 + p, s, fun a => if a = M then some (.inr (6, fs.set j v)) else (hb σ M fs p X s).2.2 a) : ho_H) = (M + 1 + p, s, fun a => if a = M then some (.inr (6, fs.set j v)) else if M < a ∧ a ≤ M + p then some (X (a - M - 1)) else σ.2.2 a)
  congr 2
  funext a
  by_cases h : a = M
  · rw [if_pos h, if_pos h]
  · rw [if_neg h, if_neg h]
    show (if a = M then _ else _) = _
    rw [if_neg h]
theorem hb_st (hi : i < n) (hn : n ≤ 64) : ho_stI G (hb σ M fs (p + 1) (upE X p (.inl (gc G 0, n, .inl f))) s) (M + 1 + p) (ii i) x = some (hb σ M fs (p + 1) (upE X p (.inl (gc G 0, n, .inl (upd f i x)))) s) := by
  have c : (hb σ M fs (p + 1) (upE X p (.inl (gc G 0, n, .inl f))) s).2.2 (M + 1 + p) = some (.inl (gc G 0, n, .inl f)) := by
    rw [hb_ar (by omega)]
    unfold upE
    rw [if_pos rfl]
  rw [c_st c hi (by omega)]
  refine congrArg some ?_
  show ((M + 1 + (p + 1), s, fun a => if a = M + 1 + p then some (.inl (gc G 0, n, .inl (upd f i x))) else (hb σ M fs (p + 1) (upE X p (.inl (gc G 0, n, .inl f))) s).2.2 a) : ho_H) = (M + 1 + (p + 1), s, fun a => if a = M then some (.inr (6, fs)) else if M < a ∧ a ≤ M + (p + 1) then some (upE X p (.inl (gc G 0, n, .inl (upd f i x))) (a - M - 1)) else σ.2.2 a)
  congr 2
  funext a
  by_cases h1 : a = M + 1 + p
  · rw [if_pos h1, if_neg (by omega), if_pos (by omega)]
    unfold upE
    rw [if_pos (by omega)]
  · rw [if_neg h1]
    show (if a = M then _ else if M < a ∧ a ≤ M + (p + 1) then some (upE X p _ (a - M - 1)) else _) = _
    by_cases h2 : a = M
    · rw [if_pos h2, if_pos h2]
    · rw [if_neg h2, if_neg h2]
      by_cases h3 : M < a ∧ a ≤ M + (p + 1)
      · rw [if_pos h3, if_pos h3]
        unfold upE
        rw [if_neg (by omega), if_neg (by omega)]
      · rw [if_neg h3, if_neg h3]
def mt0 : Nat → Int32 := (upd (upd (upd (upd (upd (upd (upd (upd (upd (upd (upd (upd (upd (upd (upd (upd (upd (upd (upd (upd (upd (upd (upd (upd (upd (upd (upd (upd (upd (upd (upd (upd (upd (upd (upd (upd (upd (upd (upd (upd (upd (upd (upd (upd (upd (upd (upd (upd (upd (upd (upd (upd (upd (upd (upd (upd (upd (upd (upd (upd (upd (upd (upd (upd (fun _ => 0) 0 1116352408) 1 1899447441) 2 (-1245643825)) 3 (-373957723)) 4 961987163) 5 1508970993) 6 (-1841331548)) 7 (-1424204075)) 8 (-670586216)) 9 310598401) 10 607225278) 11 1426881987) 12 1925078388) 13 (-2132889090)) 14 (-1680079193)) 15 (-1046744716)) 16 (-459576895)) 17 (-272742522)) 18 264347078) 19 604807628) 20 770255983) 21 1249150122) 22 1555081692) 23 1996064986) 24 (-1740746414)) 25 (-1473132947)) 26 (-1341970488)) 27 (-1084653625)) 28 (-958395405)) 29 (-710438585)) 30 113926993) 31 338241895) 32 666307205) 33 773529912) 34 1294757372) 35 1396182291) 36 1695183700) 37 1986661051) 38 (-2117940946)) 39 (-1838011259)) 40 (-1564481375)) 41 (-1474664885)) 42 (-1035236496)) 43 (-949202525)) 44 (-778901479)) 45 (-694614492)) 46 (-200395387)) 47 275423344) 48 430227734) 49 506948616) 50 659060556) 51 883997877) 52 958139571) 53 1322822218) 54 1537002063) 55 1747873779) 56 1955562222) 57 2024104815) 58 (-2067236844)) 59 (-1933114872)) 60 (-1866530822)) 61 (-1538233109)) 62 (-1090935817)) 63 (-965641998))
def mt1 : Nat → Int32 := (upd (upd (upd (upd (upd (upd (upd (upd (fun _ => 0) 0 1779033703) 1 (-1150833019)) 2 1013904242) 3 (-1521486534)) 4 1359893119) 5 (-1694144372)) 6 528734635) 7 1541459225)
theorem mt0_S : ∀ k, k < 64 → mt0 k = tb1.getD k 0 := by decide +kernel
theorem mt1_S : ∀ k, k < 8 → mt1 k = tb0.getD k 0 := by decide +kernel
def ms0 : List Value := [.null, .null, .null, .null, .null, .null, .int 0, .null, .int 0, .null, .int 0, .null, .int 0, .int 0, .int 0, .int 0, .int 0, .int 0, .int 0, .null, .null, .null, .null, .null, .null, .null, .null, .null, .null, .null, .null, .null, .null, .null, .null, .null, .null, .null, .null, .null]
theorem mb0 {k : ho_H → Option ho_H} : ((ho_stI G (hb σ M fs (p + 1) (upE X p (.inl (gc G 0, 64, .inl fun _ => 0))) s) (M + 1 + p) 0 1116352408).bind fun τ0 => (ho_stI G τ0 (M + 1 + p) 1 1899447441).bind fun τ1 => (ho_stI G τ1 (M + 1 + p) 2 (-1245643825)).bind fun τ2 => (ho_stI G τ2 (M + 1 + p) 3 (-373957723)).bind fun τ3 => (ho_stI G τ3 (M + 1 + p) 4 961987163).bind fun τ4 => (ho_stI G τ4 (M + 1 + p) 5 1508970993).bind fun τ5 => (ho_stI G τ5 (M + 1 + p) 6 (-1841331548)).bind fun τ6 => (ho_stI G τ6 (M + 1 + p) 7 (-1424204075)).bind fun τ7 => (ho_stI G τ7 (M + 1 + p) 8 (-670586216)).bind fun τ8 => (ho_stI G τ8 (M + 1 + p) 9 310598401).bind fun τ9 => (ho_stI G τ9 (M + 1 + p) 10 607225278).bind fun τ10 => (ho_stI G τ10 (M + 1 + p) 11 1426881987).bind fun τ11 => (ho_stI G τ11 (M + 1 + p) 12 1925078388).bind fun τ12 => (ho_stI G τ12 (M + 1 + p) 13 (-2132889090)).bind fun τ13 => (ho_stI G τ13 (M + 1 + p) 14 (-1680079193)).bind fun τ14 => (ho_stI G τ14 (M + 1 + p) 15 (-1046744716)).bind fun τ15 => (ho_stI G τ15 (M + 1 + p) 16 (-459576895)).bind fun τ16 => (ho_stI G τ16 (M + 1 + p) 17 (-272742522)).bind fun τ17 => (ho_stI G τ17 (M + 1 + p) 18 264347078).bind fun τ18 => (ho_stI G τ18 (M + 1 + p) 19 604807628).bind fun τ19 => (ho_stI G τ19 (M + 1 + p) 20 770255983).bind fun τ20 => (ho_stI G τ20 (M + 1 + p) 21 1249150122).bind fun τ21 => (ho_stI G τ21 (M + 1 + p) 22 1555081692).bind fun τ22 => (ho_stI G τ22 (M + 1 + p) 23 1996064986).bind fun τ23 => (ho_stI G τ23 (M + 1 + p) 24 (-1740746414)).bind fun τ24 => (ho_stI G τ24 (M + 1 + p) 25 (-1473132947)).bind fun τ25 => (ho_stI G τ25 (M + 1 + p) 26 (-1341970488)).bind fun τ26 => (ho_stI G τ26 (M + 1 + p) 27 (-1084653625)).bind fun τ27 => (ho_stI G τ27 (M + 1 + p) 28 (-958395405)).bind fun τ28 => (ho_stI G τ28 (M + 1 + p) 29 (-710438585)).bind fun τ29 => (ho_stI G τ29 (M + 1 + p) 30 113926993).bind fun τ30 => (ho_stI G τ30 (M + 1 + p) 31 338241895).bind fun τ31 => (ho_stI G τ31 (M + 1 + p) 32 666307205).bind fun τ32 => (ho_stI G τ32 (M + 1 + p) 33 773529912).bind fun τ33 => (ho_stI G τ33 (M + 1 + p) 34 1294757372).bind fun τ34 => (ho_stI G τ34 (M + 1 + p) 35 1396182291).bind fun τ35 => (ho_stI G τ35 (M + 1 + p) 36 1695183700).bind fun τ36 => (ho_stI G τ36 (M + 1 + p) 37 1986661051).bind fun τ37 => (ho_stI G τ37 (M + 1 + p) 38 (-2117940946)).bind fun τ38 => (ho_stI G τ38 (M + 1 + p) 39 (-1838011259)).bind fun τ39 => (ho_stI G τ39 (M + 1 + p) 40 (-1564481375)).bind fun τ40 => (ho_stI G τ40 (M + 1 + p) 41 (-1474664885)).bind fun τ41 => (ho_stI G τ41 (M + 1 + p) 42 (-1035236496)).bind fun τ42 => (ho_stI G τ42 (M + 1 + p) 43 (-949202525)).bind fun τ43 => (ho_stI G τ43 (M + 1 + p) 44 (-778901479)).bind fun τ44 => (ho_stI G τ44 (M + 1 + p) 45 (-694614492)).bind fun τ45 => (ho_stI G τ45 (M + 1 + p) 46 (-200395387)).bind fun τ46 => (ho_stI G τ46 (M + 1 + p) 47 275423344).bind fun τ47 => (ho_stI G τ47 (M + 1 + p) 48 430227734).bind fun τ48 => (ho_stI G τ48 (M + 1 + p) 49 506948616).bind fun τ49 => (ho_stI G τ49 (M + 1 + p) 50 659060556).bind fun τ50 => (ho_stI G τ50 (M + 1 + p) 51 883997877).bind fun τ51 => (ho_stI G τ51 (M + 1 + p) 52 958139571).bind fun τ52 => (ho_stI G τ52 (M + 1 + p) 53 1322822218).bind fun τ53 => (ho_stI G τ53 (M + 1 + p) 54 1537002063).bind fun τ54 => (ho_stI G τ54 (M + 1 + p) 55 1747873779).bind fun τ55 => (ho_stI G τ55 (M + 1 + p) 56 1955562222).bind fun τ56 => (ho_stI G τ56 (M + 1 + p) 57 2024104815).bind fun τ57 => (ho_stI G τ57 (M + 1 + p) 58 (-2067236844)).bind fun τ58 => (ho_stI G τ58 (M + 1 + p) 59 (-1933114872)).bind fun τ59 => (ho_stI G τ59 (M + 1 + p) 60 (-1866530822)).bind fun τ60 => (ho_stI G τ60 (M + 1 + p) 61 (-1538233109)).bind fun τ61 => (ho_stI G τ61 (M + 1 + p) 62 (-1090935817)).bind fun τ62 => (ho_stI G τ62 (M + 1 + p) 63 (-965641998)).bind fun τ63 => k τ63) = k (hb σ M fs (p + 1) (upE X p (.inl (gc G 0, 64, .inl mt0))) s) := by
  rw [show ho_stI G _ (M + 1 + p) 0 1116352408 = _ from hb_st (i := 0) (n := 64) (by decide) (by decide), bd_S]
  rw [show ho_stI G _ (M + 1 + p) 1 1899447441 = _ from hb_st (i := 1) (n := 64) (by decide) (by decide), bd_S]
  rw [show ho_stI G _ (M + 1 + p) 2 (-1245643825) = _ from hb_st (i := 2) (n := 64) (by decide) (by decide), bd_S]
  rw [show ho_stI G _ (M + 1 + p) 3 (-373957723) = _ from hb_st (i := 3) (n := 64) (by decide) (by decide), bd_S]
  rw [show ho_stI G _ (M + 1 + p) 4 961987163 = _ from hb_st (i := 4) (n := 64) (by decide) (by decide), bd_S]
  rw [show ho_stI G _ (M + 1 + p) 5 1508970993 = _ from hb_st (i := 5) (n := 64) (by decide) (by decide), bd_S]
  rw [show ho_stI G _ (M + 1 + p) 6 (-1841331548) = _ from hb_st (i := 6) (n := 64) (by decide) (by decide), bd_S]
  rw [show ho_stI G _ (M + 1 + p) 7 (-1424204075) = _ from hb_st (i := 7) (n := 64) (by decide) (by decide), bd_S]
  rw [show ho_stI G _ (M + 1 + p) 8 (-670586216) = _ from hb_st (i := 8) (n := 64) (by decide) (by decide), bd_S]
  rw [show ho_stI G _ (M + 1 + p) 9 310598401 = _ from hb_st (i := 9) (n := 64) (by decide) (by decide), bd_S]
  rw [show ho_stI G _ (M + 1 + p) 10 607225278 = _ from hb_st (i := 10) (n := 64) (by decide) (by decide), bd_S]
  rw [show ho_stI G _ (M + 1 + p) 11 1426881987 = _ from hb_st (i := 11) (n := 64) (by decide) (by decide), bd_S]
  rw [show ho_stI G _ (M + 1 + p) 12 1925078388 = _ from hb_st (i := 12) (n := 64) (by decide) (by decide), bd_S]
  rw [show ho_stI G _ (M + 1 + p) 13 (-2132889090) = _ from hb_st (i := 13) (n := 64) (by decide) (by decide), bd_S]
  rw [show ho_stI G _ (M + 1 + p) 14 (-1680079193) = _ from hb_st (i := 14) (n := 64) (by decide) (by decide), bd_S]
  rw [show ho_stI G _ (M + 1 + p) 15 (-1046744716) = _ from hb_st (i := 15) (n := 64) (by decide) (by decide), bd_S]
  rw [show ho_stI G _ (M + 1 + p) 16 (-459576895) = _ from hb_st (i := 16) (n := 64) (by decide) (by decide), bd_S]
  rw [show ho_stI G _ (M + 1 + p) 17 (-272742522) = _ from hb_st (i := 17) (n := 64) (by decide) (by decide), bd_S]
  rw [show ho_stI G _ (M + 1 + p) 18 264347078 = _ from hb_st (i := 18) (n := 64) (by decide) (by decide), bd_S]
  rw [show ho_stI G _ (M + 1 + p) 19 604807628 = _ from hb_st (i := 19) (n := 64) (by decide) (by decide), bd_S]
  rw [show ho_stI G _ (M + 1 + p) 20 770255983 = _ from hb_st (i := 20) (n := 64) (by decide) (by decide), bd_S]
  rw [show ho_stI G _ (M + 1 + p) 21 1249150122 = _ from hb_st (i := 21) (n := 64) (by decide) (by decide), bd_S]
  rw [show ho_stI G _ (M + 1 + p) 22 1555081692 = _ from hb_st (i := 22) (n := 64) (by decide) (by decide), bd_S]
  rw [show ho_stI G _ (M + 1 + p) 23 1996064986 = _ from hb_st (i := 23) (n := 64) (by decide) (by decide), bd_S]
  rw [show ho_stI G _ (M + 1 + p) 24 (-1740746414) = _ from hb_st (i := 24) (n := 64) (by decide) (by decide), bd_S]
  rw [show ho_stI G _ (M + 1 + p) 25 (-1473132947) = _ from hb_st (i := 25) (n := 64) (by decide) (by decide), bd_S]
  rw [show ho_stI G _ (M + 1 + p) 26 (-1341970488) = _ from hb_st (i := 26) (n := 64) (by decide) (by decide), bd_S]
  rw [show ho_stI G _ (M + 1 + p) 27 (-1084653625) = _ from hb_st (i := 27) (n := 64) (by decide) (by decide), bd_S]
  rw [show ho_stI G _ (M + 1 + p) 28 (-958395405) = _ from hb_st (i := 28) (n := 64) (by decide) (by decide), bd_S]
  rw [show ho_stI G _ (M + 1 + p) 29 (-710438585) = _ from hb_st (i := 29) (n := 64) (by decide) (by decide), bd_S]
  rw [show ho_stI G _ (M + 1 + p) 30 113926993 = _ from hb_st (i := 30) (n := 64) (by decide) (by decide), bd_S]
  rw [show ho_stI G _ (M + 1 + p) 31 338241895 = _ from hb_st (i := 31) (n := 64) (by decide) (by decide), bd_S]
  rw [show ho_stI G _ (M + 1 + p) 32 666307205 = _ from hb_st (i := 32) (n := 64) (by decide) (by decide), bd_S]
  rw [show ho_stI G _ (M + 1 + p) 33 773529912 = _ from hb_st (i := 33) (n := 64) (by decide) (by decide), bd_S]
  rw [show ho_stI G _ (M + 1 + p) 34 1294757372 = _ from hb_st (i := 34) (n := 64) (by decide) (by decide), bd_S]
  rw [show ho_stI G _ (M + 1 + p) 35 1396182291 = _ from hb_st (i := 35) (n := 64) (by decide) (by decide), bd_S]
  rw [show ho_stI G _ (M + 1 + p) 36 1695183700 = _ from hb_st (i := 36) (n := 64) (by decide) (by decide), bd_S]
  rw [show ho_stI G _ (M + 1 + p) 37 1986661051 = _ from hb_st (i := 37) (n := 64) (by decide) (by decide), bd_S]
  rw [show ho_stI G _ (M + 1 + p) 38 (-2117940946) = _ from hb_st (i := 38) (n := 64) (by decide) (by decide), bd_S]
  rw [show ho_stI G _ (M + 1 + p) 39 (-1838011259) = _ from hb_st (i := 39) (n := 64) (by decide) (by decide), bd_S]
  rw [show ho_stI G _ (M + 1 + p) 40 (-1564481375) = _ from hb_st (i := 40) (n := 64) (by decide) (by decide), bd_S]
  rw [show ho_stI G _ (M + 1 + p) 41 (-1474664885) = _ from hb_st (i := 41) (n := 64) (by decide) (by decide), bd_S]
  rw [show ho_stI G _ (M + 1 + p) 42 (-1035236496) = _ from hb_st (i := 42) (n := 64) (by decide) (by decide), bd_S]
  rw [show ho_stI G _ (M + 1 + p) 43 (-949202525) = _ from hb_st (i := 43) (n := 64) (by decide) (by decide), bd_S]
  rw [show ho_stI G _ (M + 1 + p) 44 (-778901479) = _ from hb_st (i := 44) (n := 64) (by decide) (by decide), bd_S]
  rw [show ho_stI G _ (M + 1 + p) 45 (-694614492) = _ from hb_st (i := 45) (n := 64) (by decide) (by decide), bd_S]
  rw [show ho_stI G _ (M + 1 + p) 46 (-200395387) = _ from hb_st (i := 46) (n := 64) (by decide) (by decide), bd_S]
  rw [show ho_stI G _ (M + 1 + p) 47 275423344 = _ from hb_st (i := 47) (n := 64) (by decide) (by decide), bd_S]
  rw [show ho_stI G _ (M + 1 + p) 48 430227734 = _ from hb_st (i := 48) (n := 64) (by decide) (by decide), bd_S]
  rw [show ho_stI G _ (M + 1 + p) 49 506948616 = _ from hb_st (i := 49) (n := 64) (by decide) (by decide), bd_S]
  rw [show ho_stI G _ (M + 1 + p) 50 659060556 = _ from hb_st (i := 50) (n := 64) (by decide) (by decide), bd_S]
  rw [show ho_stI G _ (M + 1 + p) 51 883997877 = _ from hb_st (i := 51) (n := 64) (by decide) (by decide), bd_S]
  rw [show ho_stI G _ (M + 1 + p) 52 958139571 = _ from hb_st (i := 52) (n := 64) (by decide) (by decide), bd_S]
  rw [show ho_stI G _ (M + 1 + p) 53 1322822218 = _ from hb_st (i := 53) (n := 64) (by decide) (by decide), bd_S]
  rw [show ho_stI G _ (M + 1 + p) 54 1537002063 = _ from hb_st (i := 54) (n := 64) (by decide) (by decide), bd_S]
  rw [show ho_stI G _ (M + 1 + p) 55 1747873779 = _ from hb_st (i := 55) (n := 64) (by decide) (by decide), bd_S]
  rw [show ho_stI G _ (M + 1 + p) 56 1955562222 = _ from hb_st (i := 56) (n := 64) (by decide) (by decide), bd_S]
  rw [show ho_stI G _ (M + 1 + p) 57 2024104815 = _ from hb_st (i := 57) (n := 64) (by decide) (by decide), bd_S]
  rw [show ho_stI G _ (M + 1 + p) 58 (-2067236844) = _ from hb_st (i := 58) (n := 64) (by decide) (by decide), bd_S]
  rw [show ho_stI G _ (M + 1 + p) 59 (-1933114872) = _ from hb_st (i := 59) (n := 64) (by decide) (by decide), bd_S]
  rw [show ho_stI G _ (M + 1 + p) 60 (-1866530822) = _ from hb_st (i := 60) (n := 64) (by decide) (by decide), bd_S]
  rw [show ho_stI G _ (M + 1 + p) 61 (-1538233109) = _ from hb_st (i := 61) (n := 64) (by decide) (by decide), bd_S]
  rw [show ho_stI G _ (M + 1 + p) 62 (-1090935817) = _ from hb_st (i := 62) (n := 64) (by decide) (by decide), bd_S]
  rw [show ho_stI G _ (M + 1 + p) 63 (-965641998) = _ from hb_st (i := 63) (n := 64) (by decide) (by decide), bd_S]
  rfl
theorem mb1 {k : ho_H → Option ho_H} : ((ho_stI G (hb σ M fs (p + 1) (upE X p (.inl (gc G 0, 8, .inl fun _ => 0))) s) (M + 1 + p) 0 1779033703).bind fun τ0 => (ho_stI G τ0 (M + 1 + p) 1 (-1150833019)).bind fun τ1 => (ho_stI G τ1 (M + 1 + p) 2 1013904242).bind fun τ2 => (ho_stI G τ2 (M + 1 + p) 3 (-1521486534)).bind fun τ3 => (ho_stI G τ3 (M + 1 + p) 4 1359893119).bind fun τ4 => (ho_stI G τ4 (M + 1 + p) 5 (-1694144372)).bind fun τ5 => (ho_stI G τ5 (M + 1 + p) 6 528734635).bind fun τ6 => (ho_stI G τ6 (M + 1 + p) 7 1541459225).bind fun τ7 => k τ7) = k (hb σ M fs (p + 1) (upE X p (.inl (gc G 0, 8, .inl mt1))) s) := by
  rw [show ho_stI G _ (M + 1 + p) 0 1779033703 = _ from hb_st (i := 0) (n := 8) (by decide) (by decide), bd_S]
  rw [show ho_stI G _ (M + 1 + p) 1 (-1150833019) = _ from hb_st (i := 1) (n := 8) (by decide) (by decide), bd_S]
  rw [show ho_stI G _ (M + 1 + p) 2 1013904242 = _ from hb_st (i := 2) (n := 8) (by decide) (by decide), bd_S]
  rw [show ho_stI G _ (M + 1 + p) 3 (-1521486534) = _ from hb_st (i := 3) (n := 8) (by decide) (by decide), bd_S]
  rw [show ho_stI G _ (M + 1 + p) 4 1359893119 = _ from hb_st (i := 4) (n := 8) (by decide) (by decide), bd_S]
  rw [show ho_stI G _ (M + 1 + p) 5 (-1694144372) = _ from hb_st (i := 5) (n := 8) (by decide) (by decide), bd_S]
  rw [show ho_stI G _ (M + 1 + p) 6 528734635 = _ from hb_st (i := 6) (n := 8) (by decide) (by decide), bd_S]
  rw [show ho_stI G _ (M + 1 + p) 7 1541459225 = _ from hb_st (i := 7) (n := 8) (by decide) (by decide), bd_S]
  rfl
/-- what its arrays hold -/
def mA0 (j : Nat) : Nat → Int32 := if j = 0 then mt0 else if j = 1 then mt1 else fun _ => 0
def mI0 (a b c : Int32) (j : Nat) : Int32 := if j = 13 then a else if j = 14 then b else if j = 15 then c else 0
theorem md_of_hb {I : Nat → Int32} {A : Nat → Nat → Int32} (h1 : fs = mfs M I) (h2 : ∀ q j, mfl[q]? = some j → X q = .inl (gc G (mkd j), msz j, .inl (A j))) : hb σ M fs 30 X s = md G (hb σ M fs 30 X s) M I A := by
  refine md_ext rfl rfl (fun a _ => rfl) (fun k => ?_)
  cases k with
  | zero =>
    rw [h1]
    exact hb_at
  | succ q =>
    cases hq : mfl[q]? with
    | none =>
      have e : mde G M I A (q + 1) = none := by
        show (mfl[q]?).map _ = none
        rw [hq]
        rfl
      rw [e]
      rfl
    | some j =>
      have e : mde G M I A (q + 1) = some (.inl (gc G (mkd j), msz j, .inl (A j))) := by
        show (mfl[q]?).map _ = _
        rw [hq]
        rfl
      have hq30 : q < 30 := by
        have := (List.getElem?_eq_some_iff.mp hq).1
        exact this
      rw [e, show M + (q + 1) = M + 1 + q by omega, hb_ar hq30, h2 q j hq]
      rfl
theorem fin_fs {a b c : Int32} : (((((((((((((((((((((((((((((((((ms0.set 0 (.ref (M + 1 + 0))).set 1 (.ref (M + 1 + 1))).set 2 (.ref (M + 1 + 2))).set 3 (.ref (M + 1 + 3))).set 4 (.ref (M + 1 + 4))).set 5 (.ref (M + 1 + 5))).set 7 (.ref (M + 1 + 6))).set 9 (.ref (M + 1 + 7))).set 11 (.ref (M + 1 + 8))).set 19 (.ref (M + 1 + 9))).set 20 (.ref (M + 1 + 10))).set 21 (.ref (M + 1 + 11))).set 22 (.ref (M + 1 + 12))).set 23 (.ref (M + 1 + 13))).set 24 (.ref (M + 1 + 14))).set 25 (.ref (M + 1 + 15))).set 26 (.ref (M + 1 + 16))).set 27 (.ref (M + 1 + 17))).set 28 (.ref (M + 1 + 18))).set 29 (.ref (M + 1 + 19))).set 30 (.ref (M + 1 + 20))).set 31 (.ref (M + 1 + 21))).set 32 (.ref (M + 1 + 22))).set 33 (.ref (M + 1 + 23))).set 34 (.ref (M + 1 + 24))).set 35 (.ref (M + 1 + 25))).set 36 (.ref (M + 1 + 26))).set 37 (.ref (M + 1 + 27))).set 38 (.ref (M + 1 + 28))).set 39 (.ref (M + 1 + 29))).set 13 (.int a)).set 14 (.int b)).set 15 (.int c)) = mfs M (mI0 a b c) := by
  simp [ms0, mfs, mI0, List.set, Nat.add_assoc]
theorem fin_X : ∀ q j, mfl[q]? = some j → (upE (upE (upE (upE (upE (upE (upE (upE (upE (upE (upE (upE (upE (upE (upE (upE (upE (upE (upE (upE (upE (upE (upE (upE (upE (upE (upE (upE (upE (upE X 0 (.inl (gc G 0, 64, .inl mt0))) 1 (.inl (gc G 0, 8, .inl mt1))) 2 (.inl (gc G 0, 64, .inl fun _ => 0))) 3 (.inl (gc G 0, 8, .inl fun _ => 0))) 4 (.inl (gc G 0, 8, .inl fun _ => 0))) 5 (.inl (gc G 0, 256, .inl fun _ => 0))) 6 (.inl (gc G 0, 64, .inl fun _ => 0))) 7 (.inl (gc G 0, 64, .inl fun _ => 0))) 8 (.inl (gc G 0, 32, .inl fun _ => 0))) 9 (.inl (gc G 0, 8, .inl fun _ => 0))) 10 (.inl (gc G 0, 10400, .inl fun _ => 0))) 11 (.inl (gc G 0, 200, .inl fun _ => 0))) 12 (.inl (gc G 0, 13600, .inl fun _ => 0))) 13 (.inl (gc G 0, 8, .inl fun _ => 0))) 14 (.inl (gc G 1, 64, .inl fun _ => 0))) 15 (.inl (gc G 0, 64, .inl fun _ => 0))) 16 (.inl (gc G 0, 64, .inl fun _ => 0))) 17 (.inl (gc G 0, 1280, .inl fun _ => 0))) 18 (.inl (gc G 0, 64, .inl fun _ => 0))) 19 (.inl (gc G 0, 8, .inl fun _ => 0))) 20 (.inl (gc G 0, 128, .inl fun _ => 0))) 21 (.inl (gc G 0, 8704, .inl fun _ => 0))) 22 (.inl (gc G 0, 8, .inl fun _ => 0))) 23 (.inl (gc G 0, 8192, .inl fun _ => 0))) 24 (.inl (gc G 0, 81920, .inl fun _ => 0))) 25 (.inl (gc G 0, 800, .inl fun _ => 0))) 26 (.inl (gc G 0, 54400, .inl fun _ => 0))) 27 (.inl (gc G 0, 68, .inl fun _ => 0))) 28 (.inl (gc G 0, 20, .inl fun _ => 0))) 29 (.inl (gc G 0, 68, .inl fun _ => 0))) q = .inl (gc G (mkd j), msz j, .inl (mA0 j)) := by
  intro q j h
  match q, h with
  | 0, h => cases h; rfl
  | 1, h => cases h; rfl
  | 2, h => cases h; rfl
  | 3, h => cases h; rfl
  | 4, h => cases h; rfl
  | 5, h => cases h; rfl
  | 6, h => cases h; rfl
  | 7, h => cases h; rfl
  | 8, h => cases h; rfl
  | 9, h => cases h; rfl
  | 10, h => cases h; rfl
  | 11, h => cases h; rfl
  | 12, h => cases h; rfl
  | 13, h => cases h; rfl
  | 14, h => cases h; rfl
  | 15, h => cases h; rfl
  | 16, h => cases h; rfl
  | 17, h => cases h; rfl
  | 18, h => cases h; rfl
  | 19, h => cases h; rfl
  | 20, h => cases h; rfl
  | 21, h => cases h; rfl
  | 22, h => cases h; rfl
  | 23, h => cases h; rfl
  | 24, h => cases h; rfl
  | 25, h => cases h; rfl
  | 26, h => cases h; rfl
  | 27, h => cases h; rfl
  | 28, h => cases h; rfl
  | 29, h => cases h; rfl
  | q + 30, h => rw [List.getElem?_eq_none (by show 30 ≤ q + 30; omega)] at h; cases h
theorem Md_init_S {x1 x2 x3 : Int32} {v1 v2 v3 : Nat} (m1 : ∀ σ, f_Md_modulo G N σ x1 8 = some (ii v1)) (m2 : ∀ σ, f_Md_modulo G N σ x2 1000 = some (ii v2)) (m3 : ∀ σ, f_Md_modulo G N σ x3 10001 = some (ii v3)) (hs : s ≤ 30000) (hC : M + 32 ≤ gC G) (hS : gS G = 7293000) : ∃ σ', f_Md_init G N (hb σ M ms0 0 X s) M x1 x2 x3 = some σ' ∧ σ'.1 = M + 31 ∧ (s ≤ σ'.2.1 ∧ σ'.2.1 ≤ 300000) ∧ σ' = md G σ' M (mI0 (1 + ii v1) (1 + ii v2) (ii v3)) mA0 ∧ ∀ a, (a < M ∨ M + 31 ≤ a) → σ'.2.2 a = σ.2.2 a := by
  refine ⟨hb σ M (((((((((((((((((((((((((((((((((ms0.set 0 (.ref (M + 1 + 0))).set 1 (.ref (M + 1 + 1))).set 2 (.ref (M + 1 + 2))).set 3 (.ref (M + 1 + 3))).set 4 (.ref (M + 1 + 4))).set 5 (.ref (M + 1 + 5))).set 7 (.ref (M + 1 + 6))).set 9 (.ref (M + 1 + 7))).set 11 (.ref (M + 1 + 8))).set 19 (.ref (M + 1 + 9))).set 20 (.ref (M + 1 + 10))).set 21 (.ref (M + 1 + 11))).set 22 (.ref (M + 1 + 12))).set 23 (.ref (M + 1 + 13))).set 24 (.ref (M + 1 + 14))).set 25 (.ref (M + 1 + 15))).set 26 (.ref (M + 1 + 16))).set 27 (.ref (M + 1 + 17))).set 28 (.ref (M + 1 + 18))).set 29 (.ref (M + 1 + 19))).set 30 (.ref (M + 1 + 20))).set 31 (.ref (M + 1 + 21))).set 32 (.ref (M + 1 + 22))).set 33 (.ref (M + 1 + 23))).set 34 (.ref (M + 1 + 24))).set 35 (.ref (M + 1 + 25))).set 36 (.ref (M + 1 + 26))).set 37 (.ref (M + 1 + 27))).set 38 (.ref (M + 1 + 28))).set 39 (.ref (M + 1 + 29))).set 13 (.int (1 + ii v1))).set 14 (.int (1 + ii v2))).set 15 (.int (ii v3))) 30 (upE (upE (upE (upE (upE (upE (upE (upE (upE (upE (upE (upE (upE (upE (upE (upE (upE (upE (upE (upE (upE (upE (upE (upE (upE (upE (upE (upE (upE (upE X 0 (.inl (gc G 0, 64, .inl mt0))) 1 (.inl (gc G 0, 8, .inl mt1))) 2 (.inl (gc G 0, 64, .inl fun _ => 0))) 3 (.inl (gc G 0, 8, .inl fun _ => 0))) 4 (.inl (gc G 0, 8, .inl fun _ => 0))) 5 (.inl (gc G 0, 256, .inl fun _ => 0))) 6 (.inl (gc G 0, 64, .inl fun _ => 0))) 7 (.inl (gc G 0, 64, .inl fun _ => 0))) 8 (.inl (gc G 0, 32, .inl fun _ => 0))) 9 (.inl (gc G 0, 8, .inl fun _ => 0))) 10 (.inl (gc G 0, 10400, .inl fun _ => 0))) 11 (.inl (gc G 0, 200, .inl fun _ => 0))) 12 (.inl (gc G 0, 13600, .inl fun _ => 0))) 13 (.inl (gc G 0, 8, .inl fun _ => 0))) 14 (.inl (gc G 1, 64, .inl fun _ => 0))) 15 (.inl (gc G 0, 64, .inl fun _ => 0))) 16 (.inl (gc G 0, 64, .inl fun _ => 0))) 17 (.inl (gc G 0, 1280, .inl fun _ => 0))) 18 (.inl (gc G 0, 64, .inl fun _ => 0))) 19 (.inl (gc G 0, 8, .inl fun _ => 0))) 20 (.inl (gc G 0, 128, .inl fun _ => 0))) 21 (.inl (gc G 0, 8704, .inl fun _ => 0))) 22 (.inl (gc G 0, 8, .inl fun _ => 0))) 23 (.inl (gc G 0, 8192, .inl fun _ => 0))) 24 (.inl (gc G 0, 81920, .inl fun _ => 0))) 25 (.inl (gc G 0, 800, .inl fun _ => 0))) 26 (.inl (gc G 0, 54400, .inl fun _ => 0))) 27 (.inl (gc G 0, 68, .inl fun _ => 0))) 28 (.inl (gc G 0, 20, .inl fun _ => 0))) 29 (.inl (gc G 0, 68, .inl fun _ => 0))) ((((((((((((((((((((((((((((((s + 64) + 8) + 64) + 8) + 8) + 256) + 64) + 64) + 32) + 8) + 10400) + 200) + 13600) + 8) + 64) + 64) + 64) + 1280) + 64) + 8) + 128) + 8704) + 8) + 8192) + 81920) + 800) + 54400) + 68) + 20) + 68), ?_, by show M + 1 + 30 = _; omega, by show s ≤ ((((((((((((((((((((((((((((((s + 64) + 8) + 64) + 8) + 8) + 256) + 64) + 64) + 32) + 8) + 10400) + 200) + 13600) + 8) + 64) + 64) + 64) + 1280) + 64) + 8) + 128) + 8704) + 8) + 8192) + 81920) + 800) + 54400) + 68) + 20) + 68) ∧ ((((((((((((((((((((((((((((((s + 64) + 8) + 64) + 8) + 8) + 256) + 64) + 64) + 32) + 8) + 10400) + 200) + 13600) + 8) + 64) + 64) + 64) + 1280) + 64) + 8) + 128) + 8704) + 8) + 8192) + 81920) + 800) + 54400) + 68) + 20) + 68) ≤ 300000; omega, md_of_hb fin_fs fin_X, fun a ha => ?_⟩
  · unfold f_Md_init
    rw [show ho_nwI G _ 64 = _ from hb_nw (n := 64) (by omega) (by omega) (by decide), bd2_S]
    rw [mb0]
    rw [hb_p (show 0 < 40 by decide), bd_S]
    rw [show ho_nwI G _ 8 = _ from hb_nw (n := 8) (by omega) (by omega) (by decide), bd2_S]
    rw [mb1]
    rw [hb_p (by simp only [List.length_set]; decide), bd_S]
    rw [show ho_nwI G _ 64 = _ from hb_nw (n := 64) (by omega) (by omega) (by decide), bd2_S]
    rw [hb_p (by simp only [List.length_set]; decide), bd_S]
    rw [show ho_nwI G _ 8 = _ from hb_nw (n := 8) (by omega) (by omega) (by decide), bd2_S]
    rw [hb_p (by simp only [List.length_set]; decide), bd_S]
    rw [show ho_nwI G _ 8 = _ from hb_nw (n := 8) (by omega) (by omega) (by decide), bd2_S]
    rw [hb_p (by simp only [List.length_set]; decide), bd_S]
    rw [show ho_nwI G _ 256 = _ from hb_nw (n := 256) (by omega) (by omega) (by decide), bd2_S]
    rw [hb_p (by simp only [List.length_set]; decide), bd_S]
    rw [show ho_nwI G _ 64 = _ from hb_nw (n := 64) (by omega) (by omega) (by decide), bd2_S]
    rw [hb_p (by simp only [List.length_set]; decide), bd_S]
    rw [show ho_nwI G _ 64 = _ from hb_nw (n := 64) (by omega) (by omega) (by decide), bd2_S]
    rw [hb_p (by simp only [List.length_set]; decide), bd_S]
    rw [show ho_nwI G _ 32 = _ from hb_nw (n := 32) (by omega) (by omega) (by decide), bd2_S]
    rw [hb_p (by simp only [List.length_set]; decide), bd_S]
    rw [show ho_nwI G _ 8 = _ from hb_nw (n := 8) (by omega) (by omega) (by decide), bd2_S]
    rw [hb_p (by simp only [List.length_set]; decide), bd_S]
    rw [show ho_nwI G _ 10400 = _ from hb_nw (n := 10400) (by omega) (by omega) (by decide), bd2_S]
    rw [hb_p (by simp only [List.length_set]; decide), bd_S]
    rw [show ho_nwI G _ 200 = _ from hb_nw (n := 200) (by omega) (by omega) (by decide), bd2_S]
    rw [hb_p (by simp only [List.length_set]; decide), bd_S]
    rw [show ho_nwI G _ 13600 = _ from hb_nw (n := 13600) (by omega) (by omega) (by decide), bd2_S]
    rw [hb_p (by simp only [List.length_set]; decide), bd_S]
    rw [show ho_nwI G _ 8 = _ from hb_nw (n := 8) (by omega) (by omega) (by decide), bd2_S]
    rw [hb_p (by simp only [List.length_set]; decide), bd_S]
    rw [show ho_nwZ G _ 64 = _ from hb_nwZ (n := 64) (by omega) (by omega) (by decide), bd2_S]
    rw [hb_p (by simp only [List.length_set]; decide), bd_S]
    rw [show ho_nwI G _ 64 = _ from hb_nw (n := 64) (by omega) (by omega) (by decide), bd2_S]
    rw [hb_p (by simp only [List.length_set]; decide), bd_S]
    rw [show ho_nwI G _ 64 = _ from hb_nw (n := 64) (by omega) (by omega) (by decide), bd2_S]
    rw [hb_p (by simp only [List.length_set]; decide), bd_S]
    rw [show ho_nwI G _ 1280 = _ from hb_nw (n := 1280) (by omega) (by omega) (by decide), bd2_S]
    rw [hb_p (by simp only [List.length_set]; decide), bd_S]
    rw [show ho_nwI G _ 64 = _ from hb_nw (n := 64) (by omega) (by omega) (by decide), bd2_S]
    rw [hb_p (by simp only [List.length_set]; decide), bd_S]
    rw [show ho_nwI G _ 8 = _ from hb_nw (n := 8) (by omega) (by omega) (by decide), bd2_S]
    rw [hb_p (by simp only [List.length_set]; decide), bd_S]
    rw [show ho_nwI G _ 128 = _ from hb_nw (n := 128) (by omega) (by omega) (by decide), bd2_S]
    rw [hb_p (by simp only [List.length_set]; decide), bd_S]
    rw [show ho_nwI G _ 8704 = _ from hb_nw (n := 8704) (by omega) (by omega) (by decide), bd2_S]
    rw [hb_p (by simp only [List.length_set]; decide), bd_S]
    rw [show ho_nwI G _ 8 = _ from hb_nw (n := 8) (by omega) (by omega) (by decide), bd2_S]
    rw [hb_p (by simp only [List.length_set]; decide), bd_S]
    rw [show ho_nwI G _ 8192 = _ from hb_nw (n := 8192) (by omega) (by omega) (by decide), bd2_S]
    rw [hb_p (by simp only [List.length_set]; decide), bd_S]
    rw [show ho_nwI G _ 81920 = _ from hb_nw (n := 81920) (by omega) (by omega) (by decide), bd2_S]
    rw [hb_p (by simp only [List.length_set]; decide), bd_S]
    rw [show ho_nwI G _ 800 = _ from hb_nw (n := 800) (by omega) (by omega) (by decide), bd2_S]
    rw [hb_p (by simp only [List.length_set]; decide), bd_S]
    rw [show ho_nwI G _ 54400 = _ from hb_nw (n := 54400) (by omega) (by omega) (by decide), bd2_S]
    rw [hb_p (by simp only [List.length_set]; decide), bd_S]
    rw [show ho_nwI G _ 68 = _ from hb_nw (n := 68) (by omega) (by omega) (by decide), bd2_S]
    rw [hb_p (by simp only [List.length_set]; decide), bd_S]
    rw [show ho_nwI G _ 20 = _ from hb_nw (n := 20) (by omega) (by omega) (by decide), bd2_S]
    rw [hb_p (by simp only [List.length_set]; decide), bd_S]
    rw [show ho_nwI G _ 68 = _ from hb_nw (n := 68) (by omega) (by omega) (by decide), bd2_S]
    rw [hb_p (by simp only [List.length_set]; decide), bd_S]
    rw [m1, bd_S, hb_p (by simp only [List.length_set]; decide), bd_S, m2, bd_S, hb_p (by simp only [List.length_set]; decide), bd_S, m3, bd_S, hb_p (by simp only [List.length_set]; decide), bd_S]
  · show (if a = M then _ else if M < a ∧ a ≤ M + 30 then _ else σ.2.2 a) = _
    rw [if_neg (by omega), if_neg (by omega)]
end MI
