/-! words and bytes -/
theorem bt_sl {x : Int32} {n : Nat} {y : Int32} (hy : y = ii n) (hn : n < 32) : (ho_sl x y).toBitVec = x.toBitVec <<< n := by
  subst hy
  unfold ho_sl
  rw [Int32.toBitVec_shiftLeft]
  have h : ∀ n : Fin 32, ((ii n.val &&& 31).toBitVec.smod 32).toNat = n.val := by decide
  have h := h ⟨n, hn⟩
  dsimp only at h
  show x.toBitVec <<< ((ii n &&& 31).toBitVec.smod 32) = _
  rw [BitVec.shiftLeft_eq', h]
theorem bt_sr {x : Int32} {n : Nat} {y : Int32} (hy : y = ii n) (hn : n < 32) : (ho_sr x y).toBitVec = x.toBitVec.sshiftRight n := by
  subst hy
  unfold ho_sr
  rw [Int32.toBitVec_shiftRight]
  have h : ∀ n : Fin 32, ((ii n.val &&& 31).toBitVec.smod 32).toNat = n.val := by decide
  have h := h ⟨n, hn⟩
  dsimp only at h
  show x.toBitVec.sshiftRight' ((ii n &&& 31).toBitVec.smod 32) = _
  rw [BitVec.sshiftRight', h]
theorem bt_ur {x : Int32} {n : Nat} {y : Int32} (hy : y = ii n) (hn : n < 32) : (ho_ur x y).toBitVec = x.toBitVec >>> n := by
  subst hy
  unfold ho_ur
  have h : ∀ n : Fin 32, ((ii n.val).toUInt32 &&& Int32.toUInt32 31) = UInt32.ofNat n.val := by decide
  have h := h ⟨n, hn⟩
  dsimp only at h
  rw [h]
  show (x.toUInt32 >>> UInt32.ofNat n).toBitVec = _
  rw [UInt32.toBitVec_shiftRight]
  have h2 : ∀ n : Fin 32, ((UInt32.ofNat n.val).toBitVec % 32).toNat = n.val := by decide
  have h2 := h2 ⟨n, hn⟩
  dsimp only at h2
  show x.toBitVec >>> ((UInt32.ofNat n).toBitVec % 32) = _
  rw [BitVec.ushiftRight_eq', h2]
theorem m255 (j : Nat) : (255#32).getLsbD j = decide (j < 8) := by
  by_cases h : j < 32
  · have e : ∀ j, j < 32 → (255#32).getLsbD j = decide (j < 8) := by decide
    exact e j h
  · rw [BitVec.getLsbD_of_ge _ _ (by omega)]
    exact (decide_eq_false (by omega)).symm
theorem bt_join (w : BitVec 32) : ((((w.sshiftRight 24 &&& 255#32) <<< 24) ||| ((w.sshiftRight 16 &&& 255#32) <<< 16)) ||| ((w.sshiftRight 8 &&& 255#32) <<< 8)) ||| (w.sshiftRight 0 &&& 255#32) = w := by
  apply BitVec.eq_of_getLsbD_eq
  intro i hi
  simp only [BitVec.getLsbD_or, BitVec.getLsbD_shiftLeft, BitVec.getLsbD_and, BitVec.getLsbD_sshiftRight, m255]
  by_cases h1 : i < 8
  · simp [h1, hi, show i < 24 by omega, show i < 16 by omega, show ¬ 32 ≤ i by omega]
  · by_cases h2 : i < 16
    · simp [h1, h2, hi, show i < 24 by omega, show i - 8 < 8 by omega, show i - 8 < 32 by omega, show 8 + (i - 8) = i by omega, show ¬ 32 ≤ i - 8 by omega]
    · by_cases h3 : i < 24
      · simp [h1, h2, h3, hi, show ¬ i - 8 < 8 by omega, show i - 16 < 8 by omega, show i - 16 < 32 by omega, show 16 + (i - 16) = i by omega, show ¬ 32 ≤ i - 16 by omega]
      · simp [h1, h2, h3, hi, show ¬ i - 8 < 8 by omega, show ¬ i - 16 < 8 by omega, show i - 24 < 8 by omega, show i - 24 < 32 by omega, show 24 + (i - 24) = i by omega, show ¬ 32 ≤ i - 24 by omega]
theorem bt_jx (w p : BitVec 32) (c : BitVec 32) (hc : c.ushiftRight 8 = 0#32) (hp : p = (((c <<< 24) ||| (c <<< 16)) ||| (c <<< 8)) ||| c) : (((((w.sshiftRight 24 &&& 255#32) ^^^ c) <<< 24) ||| (((w.sshiftRight 16 &&& 255#32) ^^^ c) <<< 16)) ||| (((w.sshiftRight 8 &&& 255#32) ^^^ c) <<< 8)) ||| ((w.sshiftRight 0 &&& 255#32) ^^^ c) = w ^^^ p := by
  subst hp
  have hc2 : ∀ j, 8 ≤ j → c.getLsbD j = false := by
    intro j hj
    have := congrArg (fun z => z.getLsbD (j - 8)) hc
    simp only [BitVec.ushiftRight_eq, BitVec.getLsbD_ushiftRight, show 8 + (j - 8) = j by omega] at this
    rw [this]
    simp
  apply BitVec.eq_of_getLsbD_eq
  intro i hi
  simp only [BitVec.getLsbD_or, BitVec.getLsbD_xor, BitVec.getLsbD_shiftLeft, BitVec.getLsbD_and, BitVec.getLsbD_sshiftRight, m255]
  by_cases h1 : i < 8
  · simp [h1, hi, show i < 24 by omega, show i < 16 by omega, show ¬ 32 ≤ i by omega]
  · by_cases h2 : i < 16
    · rw [hc2 i (by omega)]
      simp [h1, h2, hi, show i < 24 by omega, show i - 8 < 8 by omega, show i - 8 < 32 by omega, show 8 + (i - 8) = i by omega, show ¬ 32 ≤ i - 8 by omega]
    · by_cases h3 : i < 24
      · rw [hc2 i (by omega), hc2 (i - 8) (by omega)]
        simp [h1, h2, h3, hi, show ¬ i - 8 < 8 by omega, show i - 16 < 8 by omega, show i - 16 < 32 by omega, show 16 + (i - 16) = i by omega, show ¬ 32 ≤ i - 16 by omega]
      · rw [hc2 i (by omega), hc2 (i - 8) (by omega), hc2 (i - 16) (by omega)]
        simp [h1, h2, h3, hi, show ¬ i - 8 < 8 by omega, show ¬ i - 16 < 8 by omega, show i - 24 < 8 by omega, show i - 24 < 32 by omega, show 24 + (i - 24) = i by omega, show ¬ 32 ≤ i - 24 by omega]
theorem bt_byte (w : BitVec 32) (n : Nat) (hn : n ≤ 24) : w.sshiftRight n &&& 255#32 = w.ushiftRight n &&& 255#32 := by
  apply BitVec.eq_of_getLsbD_eq
  intro i hi
  simp only [BitVec.getLsbD_and, BitVec.getLsbD_sshiftRight, BitVec.ushiftRight_eq, BitVec.getLsbD_ushiftRight, m255]
  by_cases h1 : i < 8
  · simp [h1, show n + i < 32 by omega, show ¬ 32 ≤ i by omega]
  · simp [h1]
theorem i_ext {a b : Int32} (h : a.toBitVec = b.toBitVec) : a = b := Int32.toBitVec_inj.mp h
theorem s_by_bt {w : Int32} {q : Nat} (hq : q < 4) : (s_by w q).toBitVec = w.toBitVec.sshiftRight (24 - 8 * q) &&& 255#32 := by
  unfold s_by
  rw [Int32.toBitVec_and, bt_sr rfl (by omega)]
  rfl
/-- the class's byte is the model's -/
theorem s_by_ur {w : Int32} {q : Nat} (hq : q < 4) : (ho_ur w (ii (24 - 8 * q))) &&& 255 = s_by w q := by
  apply i_ext
  rw [s_by_bt hq, Int32.toBitVec_and, bt_ur rfl (by omega), bt_byte _ _ (by omega)]
  rfl
/-- a word out of its bytes -/
theorem s_wd_bs {w : Nat → Int32} {j : Nat} : s_wd (s_bs w) (4 * j) = w j := by
  apply i_ext
  unfold s_wd s_bs
  rw [show 4 * j / 4 = j by omega, show 4 * j % 4 = 0 by omega, show (4 * j + 1) / 4 = j by omega, show (4 * j + 1) % 4 = 1 by omega, show (4 * j + 2) / 4 = j by omega, show (4 * j + 2) % 4 = 2 by omega, show (4 * j + 3) / 4 = j by omega, show (4 * j + 3) % 4 = 3 by omega]
  rw [Int32.toBitVec_or, Int32.toBitVec_or, Int32.toBitVec_or, bt_sl (y := 24) (n := 24) rfl (by decide), bt_sl (y := 16) (n := 16) rfl (by decide), bt_sl (y := 8) (n := 8) rfl (by decide), s_by_bt (by decide), s_by_bt (by decide), s_by_bt (by decide), s_by_bt (by decide)]
  exact bt_join _
theorem s_wd_x {w : Int32} {c p : Int32} (hc : c.toBitVec.ushiftRight 8 = 0#32) (hp : p.toBitVec = (((c.toBitVec <<< 24) ||| (c.toBitVec <<< 16)) ||| (c.toBitVec <<< 8)) ||| c.toBitVec) : (((ho_sl (s_by w 0 ^^^ c) 24) ||| (ho_sl (s_by w 1 ^^^ c) 16)) ||| (ho_sl (s_by w 2 ^^^ c) 8)) ||| (s_by w 3 ^^^ c) = w ^^^ p := by
  apply i_ext
  rw [Int32.toBitVec_or, Int32.toBitVec_or, Int32.toBitVec_or, bt_sl (y := 24) (n := 24) rfl (by decide), bt_sl (y := 16) (n := 16) rfl (by decide), bt_sl (y := 8) (n := 8) rfl (by decide), Int32.toBitVec_xor, Int32.toBitVec_xor, Int32.toBitVec_xor, Int32.toBitVec_xor, Int32.toBitVec_xor, s_by_bt (by decide), s_by_bt (by decide), s_by_bt (by decide), s_by_bt (by decide)]
  exact bt_jx _ _ _ hc hp
theorem s_by_0 (q : Nat) (hq : q < 4) : s_by 0 q = 0 := by
  match q, hq with
  | 0, _ => decide
  | 1, _ => decide
  | 2, _ => decide
  | 3, _ => decide
  | n + 4, h => exact absurd h (by omega)
/-- the padded key's words -/
theorem s_wd_ky {key : Nat → Int32} {kw j : Nat} {c p : Int32} (hc : c.toBitVec.ushiftRight 8 = 0#32) (hp : p.toBitVec = (((c.toBitVec <<< 24) ||| (c.toBitVec <<< 16)) ||| (c.toBitVec <<< 8)) ||| c.toBitVec) : s_wd (fun k => (if k < 4 * kw then s_bs key k else 0) ^^^ c) (4 * j) = (if j < kw then key j else 0) ^^^ p := by
  have e : ∀ q, q < 4 → (if 4 * j + q < 4 * kw then s_bs key (4 * j + q) else 0) = s_by (if j < kw then key j else 0) q := by
    intro q hq
    by_cases h : j < kw
    · rw [if_pos h, if_pos (by omega)]
      unfold s_bs
      rw [show (4 * j + q) / 4 = j by omega, show (4 * j + q) % 4 = q by omega]
    · rw [if_neg h, if_neg (by omega), s_by_0 q hq]
  rw [← s_wd_x (w := if j < kw then key j else 0) hc hp, ← e 0 (by decide), ← e 1 (by decide), ← e 2 (by decide), ← e 3 (by decide)]
  rfl
