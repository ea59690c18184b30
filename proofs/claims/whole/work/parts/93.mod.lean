/-! floorMod, and the model's modulo -/
theorem neg_bits {x : Int32} : x < 0 ↔ x.toBitVec.msb = true := by
  rw [Int32.lt_iff_toInt_lt, show (0 : Int32).toInt = 0 from rfl, BitVec.msb_eq_toInt, decide_eq_true_iff]
  exact Iff.rfl
theorem xor_sign {x : Int32} {m : Nat} (hm : m < 2147483648) : (x ^^^ ii m < 0) ↔ x < 0 := by
  have h0 : (ii m).toBitVec.msb = false := by
    cases e : (ii m).toBitVec.msb with
    | false => rfl
    | true => exact absurd (neg_bits.mpr e) (ii_nneg hm)
  rw [neg_bits, neg_bits, Int32.toBitVec_xor, BitVec.msb_xor, h0]
  simp
theorem ii_of {x : Int32} {a : Nat} (ha : a < 2147483648) (h : x.toInt = a) : x = ii a := by
  apply Int32.toInt_inj.mp
  rw [ii_toInt ha, h]
theorem rm_neg {x : Int32} {m a : Nat} (h1 : 1 ≤ m) (h2 : m ≤ 20000) (hx : x.toInt = -(a : Int)) (ha : a ≤ 2147483648) : (ho_rm x (ii m)).toInt = -((a % m : Nat) : Int) := by
  have q1 : a / m ≤ a := Nat.div_le_self _ _
  have q2 : m * (a / m) + a % m = a := Nat.div_add_mod a m
  have q3 : a % m < m := Nat.mod_lt _ (by omega)
  have e1 : (x / ii m).toInt = -((a / m : Nat) : Int) := by
    rw [Int32.toInt_div, hx, ii_toInt (by omega), Int.neg_tdiv, show Int.tdiv (a : Int) (m : Int) = ((a / m : Nat) : Int) from rfl]
    generalize a / m = Q at q1
    rw [Int.bmod_eq_of_le (by omega) (by omega)]
  have e2 : (x / ii m * ii m).toInt = -((m * (a / m) : Nat) : Int) := by
    rw [Int32.toInt_mul, e1, ii_toInt (by omega), Int.neg_mul, show ((a / m : Nat) : Int) * (m : Int) = ((m * (a / m) : Nat) : Int) by rw [Int.mul_comm]; exact (Int.natCast_mul _ _).symm]
    generalize m * (a / m) = P at q2
    rw [Int.bmod_eq_of_le (by omega) (by omega)]
  unfold ho_rm
  rw [Int32.toInt_sub, e2, hx]
  generalize m * (a / m) = P at q2
  generalize a % m = S at q2 q3
  rw [Int.bmod_eq_of_le (by omega) (by omega)]
  omega
section MO2
variable {G : ho_G} {N : Nat}
theorem fm_S {x : Int32} {m : Nat} (h1 : 1 ≤ m) (h2 : m ≤ 20000) : ∃ v, v < m ∧ (∀ σ, f_Mt_floorMod G N σ x (ii m) = some (ii v)) ∧ ∀ σ, f_Md_modulo G N σ x (ii m) = some (ii v) := by
  have nz : ho_nz (ii m) = some () := ho_nz_S (by rw [show (0 : Int32) = ii 0 from rfl, ii_inj (by omega) (by decide)]; omega)
  by_cases hx : x < 0
  · have hx' := hx
    rw [Int32.lt_iff_toInt_lt, show (0 : Int32).toInt = 0 from rfl] at hx'
    have hlo := Int32.le_toInt x
    obtain ⟨a, ha⟩ : ∃ a : Nat, x.toInt = -(a : Int) := ⟨x.toInt.natAbs, by omega⟩
    have ha2 : a ≤ 2147483648 := by omega
    have e1 := rm_neg h1 h2 ha ha2
    have q3 : a % m < m := Nat.mod_lt _ (by omega)
    have nx : ¬ (0 : Int32) ≤ x ^^^ ii m := Int32.not_le.mpr ((xor_sign (by omega)).mpr hx)
    have es : ho_rm x (ii m) + ii m = ii (m - a % m) := by
      refine ii_of (by omega) ?_
      rw [Int32.toInt_add, e1, ii_toInt (by omega)]
      generalize a % m = S at q3
      rw [Int.bmod_eq_of_le (by omega) (by omega)]
      omega
    by_cases h0 : a % m = 0
    · have er : ho_rm x (ii m) = 0 := by
        have := ii_of (x := ho_rm x (ii m)) (a := 0) (by decide) (by rw [e1, h0]; rfl)
        exact this
      refine ⟨0, by omega, fun σ => ?_, fun σ => ?_⟩
      · unfold f_Mt_floorMod f_Mt_floorMod_j18
        rw [nz, bd_S, if_neg nx, if_pos er, er]
        rfl
      · unfold f_Md_modulo
        rw [nz, bd_S, bd_S, es, h0, Nat.sub_zero, ii_rm (by omega) (by omega), Nat.mod_self]
    · refine ⟨m - a % m, by omega, fun σ => ?_, fun σ => ?_⟩
      · unfold f_Mt_floorMod
        rw [nz, bd_S, if_neg nx, if_neg, es]
        intro hr
        have := congrArg Int32.toInt hr
        rw [e1, show (0 : Int32).toInt = 0 from rfl] at this
        omega
      · unfold f_Md_modulo
        rw [nz, bd_S, bd_S, es, ii_rm (by omega) (by omega), Nat.mod_eq_of_lt (by omega)]
  · obtain ⟨e, hn⟩ := ge0 hx
    generalize x.toNatClampNeg = a at e hn
    subst e
    have px : (0 : Int32) ≤ ii a ^^^ ii m := Int32.not_lt.mp fun h => hx ((xor_sign (by omega)).mp h)
    have q3 : a % m < m := Nat.mod_lt _ (by omega)
    refine ⟨a % m, q3, fun σ => ?_, fun σ => ?_⟩
    · unfold f_Mt_floorMod f_Mt_floorMod_j18
      rw [nz, bd_S, if_pos px, ii_rm hn (by omega)]
    · unfold f_Md_modulo
      rw [nz, bd_S, bd_S, ii_rm hn (by omega), ii_add, ii_rm (by omega) (by omega), Nat.add_mod_right, Nat.mod_mod]
end MO2
