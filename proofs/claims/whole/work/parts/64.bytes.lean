/-! bytes -/
def isb (x : Int32) : Prop := ∀ j, 8 ≤ j → x.toBitVec.getLsbD j = false
theorem ii_bv (n : Nat) : (ii n).toBitVec = BitVec.ofNat 32 n := rfl
theorem isb_nat {x : Int32} (h : isb x) : ∃ n, n < 256 ∧ x = ii n := by
  refine ⟨x.toBitVec.toNat, ?_, ?_⟩
  · refine Nat.lt_pow_two_of_testBit (n := 8) _ fun i hi => ?_
    exact h i hi
  · apply i_ext
    rw [ii_bv, BitVec.ofNat_toNat, BitVec.setWidth_eq]
theorem isb_ii {n : Nat} (h : n < 256) : isb (ii n) := fun j hj => by
  rw [ii_bv, BitVec.getLsbD_ofNat]
  rw [Nat.testBit_lt_two_pow (Nat.lt_of_lt_of_le h (show 2 ^ 8 ≤ 2 ^ j from Nat.pow_le_pow_right (by decide) hj))]
  simp
theorem isb_xor {x y : Int32} (h1 : isb x) (h2 : isb y) : isb (x ^^^ y) := fun j hj => by
  rw [Int32.toBitVec_xor, BitVec.getLsbD_xor, h1 j hj, h2 j hj]
  rfl
theorem isb_and {x : Int32} : isb (x &&& 255) := fun j hj => by
  rw [Int32.toBitVec_and, BitVec.getLsbD_and, show (255 : Int32).toBitVec = 255#32 from rfl, m255, decide_eq_false (by omega)]
  simp
theorem isb_by {x : Int32} {q : Nat} : isb (s_by x q) := isb_and
theorem isb_bs {f : Nat → Int32} {k : Nat} : isb (s_bs f k) := isb_by
theorem bt_w (a b c d : BitVec 32) (ha : ∀ j, 8 ≤ j → a.getLsbD j = false) (hb : ∀ j, 8 ≤ j → b.getLsbD j = false) (hc : ∀ j, 8 ≤ j → c.getLsbD j = false) (hd : ∀ j, 8 ≤ j → d.getLsbD j = false) (n : Nat) (x : BitVec 32) (h : (n = 24 ∧ x = a) ∨ (n = 16 ∧ x = b) ∨ (n = 8 ∧ x = c) ∨ (n = 0 ∧ x = d)) : (((((a <<< 24) ||| (b <<< 16)) ||| (c <<< 8)) ||| d).ushiftRight n) &&& 255#32 = x := by
  apply BitVec.eq_of_getLsbD_eq
  intro j hj
  simp only [BitVec.ushiftRight_eq, BitVec.getLsbD_or, BitVec.getLsbD_shiftLeft, BitVec.getLsbD_and, BitVec.getLsbD_ushiftRight, m255]
  by_cases h8 : j < 8
  · rcases h with ⟨rfl, rfl⟩ | ⟨rfl, rfl⟩ | ⟨rfl, rfl⟩ | ⟨rfl, rfl⟩
    · rw [hb (24 + j - 16) (by omega), hc (24 + j - 8) (by omega), hd (24 + j) (by omega)]
      simp [h8, show 24 + j < 32 by omega, show ¬ 24 + j < 24 by omega, show 24 + j - 24 = j by omega]
    · rw [hc (16 + j - 8) (by omega), hd (16 + j) (by omega)]
      simp [h8, show 16 + j < 32 by omega, show 16 + j < 24 by omega, show ¬ 16 + j < 16 by omega, show 16 + j - 16 = j by omega]
    · rw [hd (8 + j) (by omega)]
      simp [h8, show 8 + j < 32 by omega, show 8 + j < 24 by omega, show 8 + j < 16 by omega, show ¬ 8 + j < 8 by omega, show 8 + j - 8 = j by omega]
    · simp [h8, show j < 24 by omega, show j < 16 by omega]
  · have e : x.getLsbD j = false := by
      rcases h with ⟨rfl, rfl⟩ | ⟨rfl, rfl⟩ | ⟨rfl, rfl⟩ | ⟨rfl, rfl⟩
      · exact ha j (by omega)
      · exact hb j (by omega)
      · exact hc j (by omega)
      · exact hd j (by omega)
    rw [e]
    simp [h8]
/-- the bytes of a word that was put together out of bytes -/
theorem wd_by {f : Nat → Int32} {i q : Nat} (hq : q < 4) (h : ∀ k, k < 4 → isb (f (i + k))) : s_by (s_wd f i) q = f (i + q) := by
  apply i_ext
  rw [s_by_bt hq]
  unfold s_wd
  rw [Int32.toBitVec_or, Int32.toBitVec_or, Int32.toBitVec_or, bt_sl (y := 24) (n := 24) rfl (by decide), bt_sl (y := 16) (n := 16) rfl (by decide), bt_sl (y := 8) (n := 8) rfl (by decide), bt_byte _ _ (by omega)]
  refine bt_w _ _ _ _ (h 0 (by decide)) (h 1 (by decide)) (h 2 (by decide)) (h 3 (by decide)) _ _ ?_
  have hq' : q = 0 ∨ q = 1 ∨ q = 2 ∨ q = 3 := by omega
  rcases hq' with rfl | rfl | rfl | rfl
  · exact Or.inl ⟨rfl, rfl⟩
  · exact Or.inr (Or.inl ⟨rfl, rfl⟩)
  · exact Or.inr (Or.inr (Or.inl ⟨rfl, rfl⟩))
  · exact Or.inr (Or.inr (Or.inr ⟨rfl, rfl⟩))
/-- words out of bytes, and their bytes again -/
theorem bs_wd {f : Nat → Int32} {fr k : Nat} (h : ∀ k, k < 20 → isb (f (fr + k))) (hk : k < 20) : s_bs (fun i => s_wd f (fr + 4 * i)) k = f (fr + k) := by
  unfold s_bs
  rw [wd_by (Nat.mod_lt _ (by decide)) (fun z hz => by
    have := h (4 * (k / 4) + z) (by omega)
    rw [← Nat.add_assoc] at this
    exact this), show fr + 4 * (k / 4) + k % 4 = fr + k by omega]
/-- five words are the same if their twenty bytes are -/
theorem wd_eq {a b : Nat → Int32} : (∀ i, i < 5 → a i = b i) ↔ ∀ k, k < 20 → s_bs a k = s_bs b k := by
  refine ⟨fun h k hk => s_bs_congr (h _ (by omega)), fun h i hi => ?_⟩
  rw [← s_wd_bs (w := a) (j := i), ← s_wd_bs (w := b) (j := i)]
  exact s_wd_congr (h _ (by omega)) (h _ (by omega)) (h _ (by omega)) (h _ (by omega))
