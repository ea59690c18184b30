def f_Ck_intervalAt (G : ho_G) (N : Nat) (σ : ho_H) (a0 : Nat) (x1 : Int32) : Option (Int32) :=
  (ho_gI σ a0 0 1).bind fun v1 =>
  (ho_nz v1).bind fun _ =>
  some ((x1 / v1) + 1)
def f_Ck_canHaveShown_j32 (G : ho_G) (N : Nat) (σ : ho_H) (y0 : Int32) : Option (Int32) :=
  (ho_bz y0).bind fun _ => some y0
def f_Ck_canHaveShown (G : ho_G) (N : Nat) (σ : ho_H) (a0 : Nat) (x1 : Int32) (x2 : Int32) : Option (Int32) :=
  (ho_gI σ a0 0 3).bind fun v1 =>
  (ho_gI σ a0 0 2).bind fun v2 =>
  (ho_gI σ a0 0 0).bind fun v3 =>
  (ho_gI σ a0 0 1).bind fun v4 =>
  if ((v1 + x2) + v2) < (((x1 + v3) - 1) * v4) then
  f_Ck_canHaveShown_j32 G N σ 0
  else
  f_Ck_canHaveShown_j32 G N σ 1
def f_Of_byteOf (G : ho_G) (N : Nat) (σ : ho_H) (a0 : Nat) (x1 : Int32) : Option (Int32) :=
  (ho_ldI G σ a0 (x1 / 4)).bind fun v1 =>
  some ((ho_ur v1 (24 - (8 * (ho_rm x1 4)))) &&& 255)
def f_Of_wordAt (G : ho_G) (N : Nat) (σ : ho_H) (a0 : Nat) (x1 : Int32) : Option (Int32) :=
  (ho_ldI G σ a0 x1).bind fun v1 =>
  (ho_ldI G σ a0 (x1 + 1)).bind fun v2 =>
  (ho_ldI G σ a0 (x1 + 2)).bind fun v3 =>
  (ho_ldI G σ a0 (x1 + 3)).bind fun v4 =>
  some ((((ho_sl v1 24) ||| (ho_sl v2 16)) ||| (ho_sl v3 8)) ||| v4)
def f_Of_chainOf (G : ho_G) (N : Nat) (σ : ho_H) (x0 : Int32) : Option (Int32) :=
  some ((x0 - 1) / 64)
def f_Of_numberInChain (G : ho_G) (N : Nat) (σ : ho_H) (x0 : Int32) : Option (Int32) :=
  some ((ho_rm (x0 - 1) 64) + 1)
def f_Mt_floorMod_j18 (G : ho_G) (N : Nat) (σ : ho_H) (x2 : Int32) : Option (Int32) :=
  some x2
def f_Mt_floorMod (G : ho_G) (N : Nat) (σ : ho_H) (x0 : Int32) (x1 : Int32) : Option (Int32) :=
  (ho_nz x1).bind fun _ =>
  if 0 ≤ (x0 ^^^ x1) then
  f_Mt_floorMod_j18 G N σ (ho_rm x0 x1)
  else
  if (ho_rm x0 x1) = 0 then
  f_Mt_floorMod_j18 G N σ (ho_rm x0 x1)
  else
  some ((ho_rm x0 x1) + x1)
def f_Ar_fill_l5 (G : ho_G) (N : Nat) (a0 : Nat) (x1 : Int32) (x3 : Int32) : ho_H × Int32 → Option ((ho_H × Int32) ⊕ (ho_H)) := fun (σ, x2) =>
  if x3 ≤ x2 then
  some (.inr σ)
  else
  (ho_stI G σ a0 x2 x1).bind fun σ2 =>
  some (.inl (σ2, x2 + 1))
def f_Ar_fill (G : ho_G) (N : Nat) (σ : ho_H) (a0 : Nat) (x1 : Int32) : Option (ho_H) :=
  (ho_lnI G σ a0).bind fun v1 =>
  (ho_it (f_Ar_fill_l5 G N a0 x1 v1) N (σ, 0)).bind fun σ3 =>
  some σ3
def f_Sl_clear (G : ho_G) (N : Nat) (σ : ho_H) (a0 : Nat) : Option (ho_H) :=
  (ho_gR σ a0 1 2).bind fun b1 =>
  (ho_cv σ (f_Ar_fill G N σ b1 0)).bind fun σ2 =>
  (ho_p σ2 a0 1 3 (.int 0)).bind fun σ3 =>
  some σ3
def f_Sl_addByte_j47 (G : ho_G) (N : Nat) (σ : ho_H)  : Option (ho_H) :=
  some σ
def f_Sl_addByte (G : ho_G) (N : Nat) (σ : ho_H) (a0 : Nat) (x1 : Int32) : Option (ho_H) :=
  (ho_gI σ a0 1 3).bind fun v1 =>
  if 120 ≤ v1 then
  f_Sl_addByte_j47 G N σ 
  else
  (ho_gR σ a0 1 2).bind fun b2 =>
  (ho_gI σ a0 1 3).bind fun v3 =>
  (ho_ldI G σ b2 (v3 / 4)).bind fun v4 =>
  (ho_gI σ a0 1 3).bind fun v5 =>
  (ho_stI G σ b2 (v3 / 4) (v4 ||| (ho_sl x1 (24 - (8 * (ho_rm v5 4)))))).bind fun σ6 =>
  (ho_gI σ6 a0 1 3).bind fun v7 =>
  (ho_p σ6 a0 1 3 (.int (v7 + 1))).bind fun σ8 =>
  f_Sl_addByte_j47 G N σ8 
def f_Sl_spreadBlock_l18 (G : ho_G) (N : Nat) (a0 : Nat) : ho_H × Int32 → Option ((ho_H × Int32) ⊕ (ho_H)) := fun (σ, x2) =>
  if 64 ≤ x2 then
  some (.inr σ)
  else
  (ho_gR σ a0 1 4).bind fun b4 =>
  (ho_ldI G σ b4 (x2 - 15)).bind fun v5 =>
  (ho_gR σ a0 1 4).bind fun b6 =>
  (ho_ldI G σ b6 (x2 - 2)).bind fun v7 =>
  (some ((((ho_ur v5 7) ||| (ho_sl v5 25)) ^^^ ((ho_ur v5 18) ||| (ho_sl v5 14))) ^^^ (ho_ur v5 3))).bind fun v8 =>
  (some ((((ho_ur v7 17) ||| (ho_sl v7 15)) ^^^ ((ho_ur v7 19) ||| (ho_sl v7 13))) ^^^ (ho_ur v7 10))).bind fun v9 =>
  (ho_gR σ a0 1 4).bind fun b10 =>
  (ho_gR σ a0 1 4).bind fun b11 =>
  (ho_ldI G σ b11 (x2 - 16)).bind fun v12 =>
  (ho_gR σ a0 1 4).bind fun b13 =>
  (ho_ldI G σ b13 (x2 - 7)).bind fun v14 =>
  (ho_stI G σ b10 x2 (((v12 + v14) + v8) + v9)).bind fun σ15 =>
  some (.inl (σ15, x2 + 1))
def f_Sl_spreadBlock (G : ho_G) (N : Nat) (σ : ho_H) (a0 : Nat) (x1 : Int32) : Option (ho_H) :=
  (ho_gR σ a0 1 2).bind fun b1 =>
  (ho_gR σ a0 1 4).bind fun b2 =>
  (ho_cpI G σ b1 x1 b2 0 16).bind fun σ3 =>
  (ho_it (f_Sl_spreadBlock_l18 G N a0) N (σ3, 16)).bind fun σ16 =>
  some σ16
def f_Sl_mixBlock_l66 (G : ho_G) (N : Nat) (σ : ho_H) (a0 : Nat) : Int32 × Int32 × Int32 × Int32 × Int32 × Int32 × Int32 × Int32 × Int32 → Option ((Int32 × Int32 × Int32 × Int32 × Int32 × Int32 × Int32 × Int32 × Int32) ⊕ (Int32 × Int32 × Int32 × Int32 × Int32 × Int32 × Int32 × Int32)) := fun (x1, x2, x3, x4, x5, x6, x7, x8, x9) =>
  if 64 ≤ x9 then
  some (.inr (x1, x2, x3, x4, x5, x6, x7, x8))
  else
  (ho_ldI G σ (gA G 1) x9).bind fun v17 =>
  (ho_gR σ a0 1 4).bind fun b18 =>
  (ho_ldI G σ b18 x9).bind fun v19 =>
  (some ((((x8 + ((((ho_ur x5 6) ||| (ho_sl x5 26)) ^^^ ((ho_ur x5 11) ||| (ho_sl x5 21))) ^^^ ((ho_ur x5 25) ||| (ho_sl x5 7)))) + ((x5 &&& x6) ||| ((x5 ^^^ (-1)) &&& x7))) + v17) + v19)).bind fun v20 =>
  (some (((((ho_ur x1 2) ||| (ho_sl x1 30)) ^^^ ((ho_ur x1 13) ||| (ho_sl x1 19))) ^^^ ((ho_ur x1 22) ||| (ho_sl x1 10))) + (((x1 &&& x2) ^^^ (x1 &&& x3)) ^^^ (x2 &&& x3)))).bind fun v21 =>
  some (.inl (v20 + v21, x1, x2, x3, x4 + v20, x5, x6, x7, x9 + 1))
def f_Sl_mixBlock (G : ho_G) (N : Nat) (σ : ho_H) (a0 : Nat) : Option (ho_H) :=
  (ho_gR σ a0 1 0).bind fun b1 =>
  (ho_ldI G σ b1 0).bind fun v2 =>
  (ho_gR σ a0 1 0).bind fun b3 =>
  (ho_ldI G σ b3 1).bind fun v4 =>
  (ho_gR σ a0 1 0).bind fun b5 =>
  (ho_ldI G σ b5 2).bind fun v6 =>
  (ho_gR σ a0 1 0).bind fun b7 =>
  (ho_ldI G σ b7 3).bind fun v8 =>
  (ho_gR σ a0 1 0).bind fun b9 =>
  (ho_ldI G σ b9 4).bind fun v10 =>
  (ho_gR σ a0 1 0).bind fun b11 =>
  (ho_ldI G σ b11 5).bind fun v12 =>
  (ho_gR σ a0 1 0).bind fun b13 =>
  (ho_ldI G σ b13 6).bind fun v14 =>
  (ho_gR σ a0 1 0).bind fun b15 =>
  (ho_ldI G σ b15 7).bind fun v16 =>
  (ho_it (f_Sl_mixBlock_l66 G N σ a0) N (v2, v4, v6, v8, v10, v12, v14, v16, 0)).bind fun (x22, x23, x24, x25, x26, x27, x28, x29) =>
  (ho_gR σ a0 1 0).bind fun b30 =>
  (ho_ldI G σ b30 0).bind fun v31 =>
  (ho_stI G σ b30 0 (v31 + x22)).bind fun σ32 =>
  (ho_gR σ32 a0 1 0).bind fun b33 =>
  (ho_ldI G σ32 b33 1).bind fun v34 =>
  (ho_stI G σ32 b33 1 (v34 + x23)).bind fun σ35 =>
  (ho_gR σ35 a0 1 0).bind fun b36 =>
  (ho_ldI G σ35 b36 2).bind fun v37 =>
  (ho_stI G σ35 b36 2 (v37 + x24)).bind fun σ38 =>
  (ho_gR σ38 a0 1 0).bind fun b39 =>
  (ho_ldI G σ38 b39 3).bind fun v40 =>
  (ho_stI G σ38 b39 3 (v40 + x25)).bind fun σ41 =>
  (ho_gR σ41 a0 1 0).bind fun b42 =>
  (ho_ldI G σ41 b42 4).bind fun v43 =>
  (ho_stI G σ41 b42 4 (v43 + x26)).bind fun σ44 =>
  (ho_gR σ44 a0 1 0).bind fun b45 =>
  (ho_ldI G σ44 b45 5).bind fun v46 =>
  (ho_stI G σ44 b45 5 (v46 + x27)).bind fun σ47 =>
  (ho_gR σ47 a0 1 0).bind fun b48 =>
  (ho_ldI G σ47 b48 6).bind fun v49 =>
  (ho_stI G σ47 b48 6 (v49 + x28)).bind fun σ50 =>
  (ho_gR σ50 a0 1 0).bind fun b51 =>
  (ho_ldI G σ50 b51 7).bind fun v52 =>
  (ho_stI G σ50 b51 7 (v52 + x29)).bind fun σ53 =>
  some σ53
def f_Sl_startWithKey_j36_in7 (G : ho_G) (N : Nat) (σ : ho_H) (a0 : Nat) (a1 : Nat) (x2 : Int32) (x3 : Int32) (x4 : Int32) (x5 : Int32) (y0 : Int32) (y1 : Int32) (c2 : Nat) : Option ((ho_H × Int32) ⊕ (ho_H)) :=
  (ho_stI G σ c2 y1 (y0 ^^^ x4)).bind fun σ4 =>
  some (.inl (σ4, x5 + 1))
def f_Sl_startWithKey_l7 (G : ho_G) (N : Nat) (a0 : Nat) (a1 : Nat) (x2 : Int32) (x3 : Int32) (x4 : Int32) : ho_H × Int32 → Option ((ho_H × Int32) ⊕ (ho_H)) := fun (σ, x5) =>
  if 16 ≤ x5 then
  some (.inr σ)
  else
  (ho_gR σ a0 1 2).bind fun b3 =>
  if x3 ≤ x5 then
  f_Sl_startWithKey_j36_in7 G N σ a0 a1 x2 x3 x4 x5 0 x5 b3
  else
  (ho_ldI G σ a1 (x2 + x5)).bind fun v5 =>
  f_Sl_startWithKey_j36_in7 G N σ a0 a1 x2 x3 x4 x5 v5 x5 b3
def f_Sl_startWithKey (G : ho_G) (N : Nat) (σ : ho_H) (a0 : Nat) (a1 : Nat) (x2 : Int32) (x3 : Int32) (x4 : Int32) : Option (ho_H) :=
  (ho_f σ a0 1).bind fun _ =>
  (ho_cv σ (f_Sl_clear G N σ a0)).bind fun σ2 =>
  (ho_it (f_Sl_startWithKey_l7 G N a0 a1 x2 x3 x4) N (σ2, 0)).bind fun σ6 =>
  (ho_p σ6 a0 1 3 (.int 64)).bind fun σ7 =>
  some σ7
def f_Sl_finish_l59 (G : ho_G) (N : Nat) (a0 : Nat) (x2 : Int32) : ho_H × Int32 → Option ((ho_H × Int32) ⊕ (ho_H)) := fun (σ, x3) =>
  if x2 ≤ x3 then
  some (.inr σ)
  else
  (ho_f σ a0 1).bind fun _ =>
  (ho_cv σ (f_Sl_spreadBlock G N σ a0 (x3 * 16))).bind fun σ10 =>
  (ho_f σ10 a0 1).bind fun _ =>
  (ho_cv σ10 (f_Sl_mixBlock G N σ10 a0)).bind fun σ12 =>
  some (.inl (σ12, x3 + 1))
def f_Sl_finish (G : ho_G) (N : Nat) (σ : ho_H) (a0 : Nat) : Option (ho_H) :=
  (ho_gI σ a0 1 3).bind fun v1 =>
  (ho_f σ a0 1).bind fun _ =>
  (ho_cv σ (f_Sl_addByte G N σ a0 128)).bind fun σ3 =>
  (ho_gI σ3 a0 1 3).bind fun v4 =>
  (ho_gR σ3 a0 1 2).bind fun b5 =>
  (ho_stI G σ3 b5 ((((((v4 + 8) + 64) - 1) / 64) * 16) - 1) (8 * v1)).bind fun σ6 =>
  (ho_gR σ6 a0 1 0).bind fun b7 =>
  (ho_cpI G σ6 (gA G 0) 0 b7 0 8).bind fun σ8 =>
  (ho_it (f_Sl_finish_l59 G N a0 ((((v4 + 8) + 64) - 1) / 64)) N (σ8, 0)).bind fun σ13 =>
  some σ13
def f_Sl_seal_l12 (G : ho_G) (N : Nat) (a0 : Nat) (a1 : Nat) (x2 : Int32) (x3 : Int32) (a4 : Nat) (x5 : Int32) : ho_H × Int32 → Option ((ho_H × Int32) ⊕ (ho_H)) := fun (σ, x6) =>
  if x5 ≤ x6 then
  some (.inr σ)
  else
  (ho_ldI G σ a4 x6).bind fun v3 =>
  (ho_f σ a0 1).bind fun _ =>
  (ho_cv σ (f_Sl_addByte G N σ a0 v3)).bind fun σ5 =>
  some (.inl (σ5, x6 + 1))
def f_Sl_seal (G : ho_G) (N : Nat) (σ : ho_H) (a0 : Nat) (a1 : Nat) (x2 : Int32) (x3 : Int32) (a4 : Nat) (x5 : Int32) : Option (ho_H) :=
  (ho_f σ a0 1).bind fun _ =>
  (ho_cv σ (f_Sl_startWithKey G N σ a0 a1 x2 x3 909522486)).bind fun σ2 =>
  (ho_it (f_Sl_seal_l12 G N a0 a1 x2 x3 a4 x5) N (σ2, 0)).bind fun σ6 =>
  (ho_f σ6 a0 1).bind fun _ =>
  (ho_cv σ6 (f_Sl_finish G N σ6 a0)).bind fun σ8 =>
  (ho_f σ8 a0 1).bind fun _ =>
  (ho_cv σ8 (f_Sl_startWithKey G N σ8 a0 a1 x2 x3 1549556828)).bind fun σ10 =>
  (ho_gR σ10 a0 1 0).bind fun b11 =>
  (ho_gR σ10 a0 1 2).bind fun b12 =>
  (ho_cpI G σ10 b11 0 b12 16 8).bind fun σ13 =>
  (ho_gI σ13 a0 1 3).bind fun v14 =>
  (ho_p σ13 a0 1 3 (.int (v14 + 32))).bind fun σ15 =>
  (ho_f σ15 a0 1).bind fun _ =>
  (ho_cv σ15 (f_Sl_finish G N σ15 a0)).bind fun σ17 =>
  some σ17
