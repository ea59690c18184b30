def f_Md_modulo (G : ho_G) (N : Nat) (σ : ho_H) (x0 : Int32) (x1 : Int32) : Option (Int32) :=
  (ho_nz x1).bind fun _ =>
  (ho_nz x1).bind fun _ =>
  some (ho_rm ((ho_rm x0 x1) + x1) x1)
def f_Md_thrown (G : ho_G) (N : Nat) (σ : ho_H) (a0 : Nat) : Option (Int32) :=
  (ho_gI σ a0 6 12).bind fun v1 =>
  some v1
def f_Md_fail (G : ho_G) (N : Nat) (σ : ho_H) (a0 : Nat) (x1 : Int32) : Option (ho_H × Int32) :=
  (ho_p σ a0 6 12 (.int x1)).bind fun σ1 =>
  some (σ1, 0)
def f_Md_byteOf (G : ho_G) (N : Nat) (σ : ho_H) (x0 : Int32) (x1 : Int32) : Option (Int32) :=
  some ((ho_sr x0 (24 - (8 * x1))) &&& 255)
def f_Md_turned (G : ho_G) (N : Nat) (σ : ho_H) (x0 : Int32) (x1 : Int32) : Option (Int32) :=
  some ((ho_ur x0 x1) ||| (ho_sl x0 (32 - x1)))
def f_Md_within_j15 (G : ho_G) (N : Nat) (σ : ho_H) (y0 : Int32) : Option (Int32) :=
  (ho_bz y0).bind fun _ => some y0
def f_Md_within_j14 (G : ho_G) (N : Nat) (σ : ho_H)  : Option (Int32) :=
  f_Md_within_j15 G N σ 0
def f_Md_within (G : ho_G) (N : Nat) (σ : ho_H) (x0 : Int32) (x1 : Int32) (x2 : Int32) : Option (Int32) :=
  if x0 < x1 then
  f_Md_within_j14 G N σ 
  else
  if x2 < x0 then
  f_Md_within_j14 G N σ 
  else
  f_Md_within_j15 G N σ 1
def f_Md_interval (G : ho_G) (N : Nat) (σ : ho_H) (a0 : Nat) : Option (Int32) :=
  (ho_gI σ a0 6 16).bind fun v1 =>
  (ho_gI σ a0 6 14).bind fun v2 =>
  (ho_nz v2).bind fun _ =>
  some ((v1 / v2) + 1)
def f_Md_chainOf (G : ho_G) (N : Nat) (σ : ho_H) (x0 : Int32) : Option (Int32) :=
  some ((x0 - 1) / 64)
def f_Md_keyAt (G : ho_G) (N : Nat) (σ : ho_H) (a0 : Nat) (x1 : Int32) (x2 : Int32) (x3 : Int32) : Option (Int32) :=
  (ho_gR σ a0 6 20).bind fun b1 =>
  (ho_ldI G σ b1 (((1300 * x1) + (20 * x2)) + x3)).bind fun v2 =>
  some v2
def f_Md_block_j156_in2 (G : ho_G) (N : Nat) (σ : ho_H) (a0 : Nat) (x1 : Int32) (x2 : Int32) : Option ((ho_H × Int32) ⊕ (ho_H)) :=
  some (.inl (σ, x2 + 1))
def f_Md_block_l2 (G : ho_G) (N : Nat) (a0 : Nat) (x1 : Int32) : ho_H × Int32 → Option ((ho_H × Int32) ⊕ (ho_H)) := fun (σ, x2) =>
  if 64 ≤ x2 then
  some (.inr σ)
  else
  if 16 ≤ x2 then
  (ho_gR σ a0 6 2).bind fun b1 =>
  (ho_ldI G σ b1 (x2 - 15)).bind fun v2 =>
  (ho_gR σ a0 6 2).bind fun b3 =>
  (ho_ldI G σ b3 (x2 - 2)).bind fun v4 =>
  (ho_gR σ a0 6 2).bind fun b5 =>
  (ho_gR σ a0 6 2).bind fun b6 =>
  (ho_ldI G σ b6 (x2 - 16)).bind fun v7 =>
  (ho_gR σ a0 6 2).bind fun b8 =>
  (ho_ldI G σ b8 (x2 - 7)).bind fun v9 =>
  (f_Md_turned G N σ v2 7).bind fun v10 =>
  (f_Md_turned G N σ v2 18).bind fun v11 =>
  (f_Md_turned G N σ v4 17).bind fun v12 =>
  (f_Md_turned G N σ v4 19).bind fun v13 =>
  (ho_stI G σ b5 x2 (((v7 + v9) + ((v10 ^^^ v11) ^^^ (ho_ur v2 3))) + ((v12 ^^^ v13) ^^^ (ho_ur v4 10)))).bind fun σ14 =>
  f_Md_block_j156_in2 G N σ14 a0 x1 x2
  else
  (ho_gR σ a0 6 2).bind fun b15 =>
  (ho_gR σ a0 6 5).bind fun b16 =>
  (ho_ldI G σ b16 (x1 + (4 * x2))).bind fun v17 =>
  (ho_gR σ a0 6 5).bind fun b18 =>
  (ho_ldI G σ b18 ((x1 + (4 * x2)) + 1)).bind fun v19 =>
  (ho_gR σ a0 6 5).bind fun b20 =>
  (ho_ldI G σ b20 ((x1 + (4 * x2)) + 2)).bind fun v21 =>
  (ho_gR σ a0 6 5).bind fun b22 =>
  (ho_ldI G σ b22 ((x1 + (4 * x2)) + 3)).bind fun v23 =>
  (ho_stI G σ b15 x2 ((((ho_sl v17 24) ||| (ho_sl v19 16)) ||| (ho_sl v21 8)) ||| v23)).bind fun σ24 =>
  f_Md_block_j156_in2 G N σ24 a0 x1 x2
def f_Md_block_l164 (G : ho_G) (N : Nat) (a0 : Nat) : ho_H × Int32 → Option ((ho_H × Int32) ⊕ (ho_H)) := fun (σ, x2) =>
  if 8 ≤ x2 then
  some (.inr σ)
  else
  (ho_gR σ a0 6 4).bind fun b26 =>
  (ho_gR σ a0 6 3).bind fun b27 =>
  (ho_ldI G σ b27 x2).bind fun v28 =>
  (ho_stI G σ b26 x2 v28).bind fun σ29 =>
  some (.inl (σ29, x2 + 1))
def f_Md_block_l338_in190 (G : ho_G) (N : Nat) (a0 : Nat) (x2 : Int32) (x5 : Int32) (x6 : Int32) : ho_H × Int32 → Option ((ho_H × Int32) ⊕ (ho_H)) := fun (σ, x7) =>
  if x7 ≤ 0 then
  some (.inr σ)
  else
  (ho_gR σ a0 6 4).bind fun b61 =>
  (ho_gR σ a0 6 4).bind fun b62 =>
  (ho_ldI G σ b62 (x7 - 1)).bind fun v63 =>
  (ho_stI G σ b61 x7 v63).bind fun σ64 =>
  some (.inl (σ64, x7 + (-1)))
def f_Md_block_l190 (G : ho_G) (N : Nat) (a0 : Nat) : ho_H × Int32 → Option ((ho_H × Int32) ⊕ (ho_H)) := fun (σ, x2) =>
  if 64 ≤ x2 then
  some (.inr σ)
  else
  (ho_gR σ a0 6 4).bind fun b31 =>
  (ho_ldI G σ b31 0).bind fun v32 =>
  (ho_gR σ a0 6 4).bind fun b33 =>
  (ho_ldI G σ b33 4).bind fun v34 =>
  (ho_gR σ a0 6 4).bind fun b35 =>
  (ho_ldI G σ b35 7).bind fun v36 =>
  (f_Md_turned G N σ v34 6).bind fun v37 =>
  (f_Md_turned G N σ v34 11).bind fun v38 =>
  (f_Md_turned G N σ v34 25).bind fun v39 =>
  (ho_gR σ a0 6 4).bind fun b40 =>
  (ho_ldI G σ b40 5).bind fun v41 =>
  (ho_gR σ a0 6 4).bind fun b42 =>
  (ho_ldI G σ b42 6).bind fun v43 =>
  (ho_gR σ a0 6 0).bind fun b44 =>
  (ho_ldI G σ b44 x2).bind fun v45 =>
  (ho_gR σ a0 6 2).bind fun b46 =>
  (ho_ldI G σ b46 x2).bind fun v47 =>
  (some ((((v36 + ((v37 ^^^ v38) ^^^ v39)) + ((v34 &&& v41) ||| ((v34 ^^^ (-1)) &&& v43))) + v45) + v47)).bind fun v48 =>
  (f_Md_turned G N σ v32 2).bind fun v49 =>
  (f_Md_turned G N σ v32 13).bind fun v50 =>
  (f_Md_turned G N σ v32 22).bind fun v51 =>
  (ho_gR σ a0 6 4).bind fun b52 =>
  (ho_ldI G σ b52 1).bind fun v53 =>
  (ho_gR σ a0 6 4).bind fun b54 =>
  (ho_ldI G σ b54 2).bind fun v55 =>
  (ho_gR σ a0 6 4).bind fun b56 =>
  (ho_ldI G σ b56 1).bind fun v57 =>
  (ho_gR σ a0 6 4).bind fun b58 =>
  (ho_ldI G σ b58 2).bind fun v59 =>
  (some (((v49 ^^^ v50) ^^^ v51) + (((v32 &&& v53) ^^^ (v32 &&& v55)) ^^^ (v57 &&& v59)))).bind fun v60 =>
  (ho_it (f_Md_block_l338_in190 G N a0 x2 v48 v60) N (σ, 7)).bind fun σ65 =>
  (ho_gR σ65 a0 6 4).bind fun b66 =>
  (ho_ldI G σ65 b66 4).bind fun v67 =>
  (ho_stI G σ65 b66 4 (v67 + v48)).bind fun σ68 =>
  (ho_gR σ68 a0 6 4).bind fun b69 =>
  (ho_stI G σ68 b69 0 (v48 + v60)).bind fun σ70 =>
  some (.inl (σ70, x2 + 1))
def f_Md_block_l395 (G : ho_G) (N : Nat) (a0 : Nat) : ho_H × Int32 → Option ((ho_H × Int32) ⊕ (ho_H)) := fun (σ, x2) =>
  if 8 ≤ x2 then
  some (.inr σ)
  else
  (ho_gR σ a0 6 3).bind fun b74 =>
  (ho_ldI G σ b74 x2).bind fun v75 =>
  (ho_gR σ a0 6 4).bind fun b76 =>
  (ho_ldI G σ b76 x2).bind fun v77 =>
  (ho_stI G σ b74 x2 (v75 + v77)).bind fun σ78 =>
  some (.inl (σ78, x2 + 1))
def f_Md_block (G : ho_G) (N : Nat) (σ : ho_H) (a0 : Nat) (x1 : Int32) : Option (ho_H) :=
  (ho_it (f_Md_block_l2 G N a0 x1) N (σ, 0)).bind fun σ25 =>
  (ho_it (f_Md_block_l164 G N a0) N (σ25, 0)).bind fun σ30 =>
  (ho_it (f_Md_block_l190 G N a0) N (σ30, 0)).bind fun σ73 =>
  (ho_it (f_Md_block_l395 G N a0) N (σ73, 0)).bind fun σ79 =>
  some σ79
def f_Md_digestRow_l2 (G : ho_G) (N : Nat) (a0 : Nat) : ho_H × Int32 → Option ((ho_H × Int32) ⊕ (ho_H)) := fun (σ, x1) =>
  if 8 ≤ x1 then
  some (.inr σ)
  else
  (ho_gR σ a0 6 3).bind fun b1 =>
  (ho_gR σ a0 6 1).bind fun b2 =>
  (ho_ldI G σ b2 x1).bind fun v3 =>
  (ho_stI G σ b1 x1 v3).bind fun σ4 =>
  some (.inl (σ4, x1 + 1))
def f_Md_digestRow_l53 (G : ho_G) (N : Nat) (a0 : Nat) (x1 : Int32) : ho_H × Int32 → Option ((ho_H × Int32) ⊕ (ho_H × Int32)) := fun (σ, x2) =>
  if (ho_rm x2 64) = 56 then
  some (.inr (σ, x2))
  else
  (ho_gR σ a0 6 5).bind fun b11 =>
  (ho_stI G σ b11 x2 0).bind fun σ12 =>
  some (.inl (σ12, x2 + 1))
def f_Md_digestRow_j112_in77 (G : ho_G) (N : Nat) (σ : ho_H) (a0 : Nat) (x1 : Int32) (x2 : Int32) (x3 : Int32) (y0 : Int32) (y1 : Int32) (c2 : Nat) : Option ((ho_H × Int32) ⊕ (ho_H)) :=
  (ho_stI G σ c2 y1 y0).bind fun σ16 =>
  some (.inl (σ16, x3 + 1))
def f_Md_digestRow_l77 (G : ho_G) (N : Nat) (a0 : Nat) (x1 : Int32) (x2 : Int32) : ho_H × Int32 → Option ((ho_H × Int32) ⊕ (ho_H)) := fun (σ, x3) =>
  if 8 ≤ x3 then
  some (.inr σ)
  else
  (ho_gR σ a0 6 5).bind fun b15 =>
  if 4 ≤ x3 then
  f_Md_digestRow_j112_in77 G N σ a0 x1 x2 x3 ((ho_sr x1 (8 * (7 - x3))) &&& 255) (x2 + x3) b15
  else
  f_Md_digestRow_j112_in77 G N σ a0 x1 x2 x3 0 (x2 + x3) b15
def f_Md_digestRow_l121 (G : ho_G) (N : Nat) (a0 : Nat) (x2 : Int32) : ho_H × Int32 → Option ((ho_H × Int32) ⊕ (ho_H)) := fun (σ, x3) =>
  if (x2 + 8) ≤ x3 then
  some (.inr σ)
  else
  (ho_f σ a0 6).bind fun _ =>
  (ho_cv σ (f_Md_block G N σ a0 x3)).bind fun σ19 =>
  some (.inl (σ19, x3 + 64))
def f_Md_digestRow (G : ho_G) (N : Nat) (σ : ho_H) (a0 : Nat) : Option (ho_H) :=
  (ho_it (f_Md_digestRow_l2 G N a0) N (σ, 0)).bind fun σ5 =>
  (ho_gI σ5 a0 6 6).bind fun v6 =>
  (ho_gR σ5 a0 6 5).bind fun b7 =>
  (ho_gI σ5 a0 6 6).bind fun v8 =>
  (ho_stI G σ5 b7 v8 128).bind fun σ9 =>
  (ho_gI σ9 a0 6 6).bind fun v10 =>
  (ho_it (f_Md_digestRow_l53 G N a0 (8 * v6)) N (σ9, v10 + 1)).bind fun (σ13, x14) =>
  (ho_it (f_Md_digestRow_l77 G N a0 (8 * v6) x14) N (σ13, 0)).bind fun σ17 =>
  (ho_it (f_Md_digestRow_l121 G N a0 x14) N (σ17, 0)).bind fun σ20 =>
  some σ20
def f_Md_makeSeal_j31_in2 (G : ho_G) (N : Nat) (σ : ho_H) (a0 : Nat) (x1 : Int32) (y0 : Int32) (y1 : Int32) (c2 : Nat) : Option ((ho_H × Int32) ⊕ (ho_H)) :=
  (ho_stI G σ c2 y1 (y0 ^^^ 54)).bind fun σ3 =>
  some (.inl (σ3, x1 + 1))
def f_Md_makeSeal_l2 (G : ho_G) (N : Nat) (a0 : Nat) : ho_H × Int32 → Option ((ho_H × Int32) ⊕ (ho_H)) := fun (σ, x1) =>
  if 64 ≤ x1 then
  some (.inr σ)
  else
  (ho_gR σ a0 6 5).bind fun b1 =>
  (ho_gI σ a0 6 8).bind fun v2 =>
  if v2 ≤ x1 then
  f_Md_makeSeal_j31_in2 G N σ a0 x1 0 x1 b1
  else
  (ho_gR σ a0 6 7).bind fun b4 =>
  (ho_ldI G σ b4 x1).bind fun v5 =>
  f_Md_makeSeal_j31_in2 G N σ a0 x1 v5 x1 b1
def f_Md_makeSeal_l43 (G : ho_G) (N : Nat) (a0 : Nat) : ho_H × Int32 → Option ((ho_H × Int32) ⊕ (ho_H)) := fun (σ, x1) =>
  (ho_gI σ a0 6 10).bind fun v7 =>
  if v7 ≤ x1 then
  some (.inr σ)
  else
  (ho_gR σ a0 6 5).bind fun b8 =>
  (ho_gR σ a0 6 9).bind fun b9 =>
  (ho_ldI G σ b9 x1).bind fun v10 =>
  (ho_stI G σ b8 (64 + x1) v10).bind fun σ11 =>
  some (.inl (σ11, x1 + 1))
def f_Md_makeSeal_l89 (G : ho_G) (N : Nat) (a0 : Nat) : ho_H × Int32 → Option ((ho_H × Int32) ⊕ (ho_H)) := fun (σ, x1) =>
  if 32 ≤ x1 then
  some (.inr σ)
  else
  (ho_gR σ a0 6 11).bind fun b17 =>
  (ho_gR σ a0 6 3).bind fun b18 =>
  (ho_ldI G σ b18 (x1 / 4)).bind fun v19 =>
  (f_Md_byteOf G N σ v19 (ho_rm x1 4)).bind fun v20 =>
  (ho_stI G σ b17 x1 v20).bind fun σ21 =>
  some (.inl (σ21, x1 + 1))
def f_Md_makeSeal_j152_in123 (G : ho_G) (N : Nat) (σ : ho_H) (a0 : Nat) (x1 : Int32) (y0 : Int32) (y1 : Int32) (c2 : Nat) : Option ((ho_H × Int32) ⊕ (ho_H)) :=
  (ho_stI G σ c2 y1 (y0 ^^^ 92)).bind fun σ25 =>
  some (.inl (σ25, x1 + 1))
def f_Md_makeSeal_l123 (G : ho_G) (N : Nat) (a0 : Nat) : ho_H × Int32 → Option ((ho_H × Int32) ⊕ (ho_H)) := fun (σ, x1) =>
  if 64 ≤ x1 then
  some (.inr σ)
  else
  (ho_gR σ a0 6 5).bind fun b23 =>
  (ho_gI σ a0 6 8).bind fun v24 =>
  if v24 ≤ x1 then
  f_Md_makeSeal_j152_in123 G N σ a0 x1 0 x1 b23
  else
  (ho_gR σ a0 6 7).bind fun b26 =>
  (ho_ldI G σ b26 x1).bind fun v27 =>
  f_Md_makeSeal_j152_in123 G N σ a0 x1 v27 x1 b23
def f_Md_makeSeal_l164 (G : ho_G) (N : Nat) (a0 : Nat) : ho_H × Int32 → Option ((ho_H × Int32) ⊕ (ho_H)) := fun (σ, x1) =>
  if 32 ≤ x1 then
  some (.inr σ)
  else
  (ho_gR σ a0 6 5).bind fun b29 =>
  (ho_gR σ a0 6 11).bind fun b30 =>
  (ho_ldI G σ b30 x1).bind fun v31 =>
  (ho_stI G σ b29 (64 + x1) v31).bind fun σ32 =>
  some (.inl (σ32, x1 + 1))
def f_Md_makeSeal_l203 (G : ho_G) (N : Nat) (a0 : Nat) : ho_H × Int32 → Option ((ho_H × Int32) ⊕ (ho_H)) := fun (σ, x1) =>
  if 32 ≤ x1 then
  some (.inr σ)
  else
  (ho_gR σ a0 6 11).bind fun b37 =>
  (ho_gR σ a0 6 3).bind fun b38 =>
  (ho_ldI G σ b38 (x1 / 4)).bind fun v39 =>
  (f_Md_byteOf G N σ v39 (ho_rm x1 4)).bind fun v40 =>
  (ho_stI G σ b37 x1 v40).bind fun σ41 =>
  some (.inl (σ41, x1 + 1))
def f_Md_makeSeal (G : ho_G) (N : Nat) (σ : ho_H) (a0 : Nat) : Option (ho_H) :=
  (ho_it (f_Md_makeSeal_l2 G N a0) N (σ, 0)).bind fun σ6 =>
  (ho_it (f_Md_makeSeal_l43 G N a0) N (σ6, 0)).bind fun σ12 =>
  (ho_gI σ12 a0 6 10).bind fun v13 =>
  (ho_p σ12 a0 6 6 (.int (64 + v13))).bind fun σ14 =>
  (ho_f σ14 a0 6).bind fun _ =>
  (ho_cv σ14 (f_Md_digestRow G N σ14 a0)).bind fun σ16 =>
  (ho_it (f_Md_makeSeal_l89 G N a0) N (σ16, 0)).bind fun σ22 =>
  (ho_it (f_Md_makeSeal_l123 G N a0) N (σ22, 0)).bind fun σ28 =>
  (ho_it (f_Md_makeSeal_l164 G N a0) N (σ28, 0)).bind fun σ33 =>
  (ho_p σ33 a0 6 6 (.int 96)).bind fun σ34 =>
  (ho_f σ34 a0 6).bind fun _ =>
  (ho_cv σ34 (f_Md_digestRow G N σ34 a0)).bind fun σ36 =>
  (ho_it (f_Md_makeSeal_l203 G N a0) N (σ36, 0)).bind fun σ42 =>
  some σ42
def f_Md_down_l2 (G : ho_G) (N : Nat) (a0 : Nat) : ho_H × Int32 → Option ((ho_H × Int32) ⊕ (ho_H)) := fun (σ, x1) =>
  if 20 ≤ x1 then
  some (.inr σ)
  else
  (ho_gR σ a0 6 7).bind fun b1 =>
  (ho_gR σ a0 6 38).bind fun b2 =>
  (ho_ldI G σ b2 x1).bind fun v3 =>
  (ho_stI G σ b1 x1 v3).bind fun σ4 =>
  some (.inl (σ4, x1 + 1))
def f_Md_down_l83 (G : ho_G) (N : Nat) (a0 : Nat) : ho_H × Int32 → Option ((ho_H × Int32) ⊕ (ho_H)) := fun (σ, x1) =>
  if 20 ≤ x1 then
  some (.inr σ)
  else
  (ho_gR σ a0 6 38).bind fun b20 =>
  (ho_gR σ a0 6 11).bind fun b21 =>
  (ho_ldI G σ b21 x1).bind fun v22 =>
  (ho_stI G σ b20 x1 v22).bind fun σ23 =>
  some (.inl (σ23, x1 + 1))
def f_Md_down (G : ho_G) (N : Nat) (σ : ho_H) (a0 : Nat) : Option (ho_H) :=
  (ho_it (f_Md_down_l2 G N a0) N (σ, 0)).bind fun σ5 =>
  (ho_p σ5 a0 6 8 (.int 20)).bind fun σ6 =>
  (ho_gR σ6 a0 6 9).bind fun b7 =>
  (ho_stI G σ6 b7 0 99).bind fun σ8 =>
  (ho_gR σ8 a0 6 9).bind fun b9 =>
  (ho_stI G σ8 b9 1 104).bind fun σ10 =>
  (ho_gR σ10 a0 6 9).bind fun b11 =>
  (ho_stI G σ10 b11 2 97).bind fun σ12 =>
  (ho_gR σ12 a0 6 9).bind fun b13 =>
  (ho_stI G σ12 b13 3 105).bind fun σ14 =>
  (ho_gR σ14 a0 6 9).bind fun b15 =>
  (ho_stI G σ14 b15 4 110).bind fun σ16 =>
  (ho_p σ16 a0 6 10 (.int 5)).bind fun σ17 =>
  (ho_f σ17 a0 6).bind fun _ =>
  (ho_cv σ17 (f_Md_makeSeal G N σ17 a0)).bind fun σ19 =>
  (ho_it (f_Md_down_l83 G N a0) N (σ19, 0)).bind fun σ24 =>
  some σ24
def f_Md_codeOfCopy_l2 (G : ho_G) (N : Nat) (a0 : Nat) (x1 : Int32) : ho_H × Int32 → Option ((ho_H × Int32) ⊕ (ho_H)) := fun (σ, x2) =>
  if 20 ≤ x2 then
  some (.inr σ)
  else
  (ho_gR σ a0 6 7).bind fun b1 =>
  (ho_gR σ a0 6 38).bind fun b2 =>
  (ho_ldI G σ b2 x2).bind fun v3 =>
  (ho_stI G σ b1 x2 v3).bind fun σ4 =>
  some (.inl (σ4, x2 + 1))
def f_Md_codeOfCopy_l67 (G : ho_G) (N : Nat) (a0 : Nat) (x1 : Int32) : ho_H × Int32 → Option ((ho_H × Int32) ⊕ (ho_H)) := fun (σ, x2) =>
  if 32 ≤ x2 then
  some (.inr σ)
  else
  (ho_gR σ a0 6 7).bind fun b16 =>
  (ho_gR σ a0 6 11).bind fun b17 =>
  (ho_ldI G σ b17 x2).bind fun v18 =>
  (ho_stI G σ b16 x2 v18).bind fun σ19 =>
  some (.inl (σ19, x2 + 1))
def f_Md_codeOfCopy_l99 (G : ho_G) (N : Nat) (a0 : Nat) (x1 : Int32) : ho_H × Int32 → Option ((ho_H × Int32) ⊕ (ho_H)) := fun (σ, x2) =>
  if x1 ≤ x2 then
  some (.inr σ)
  else
  (ho_gR σ a0 6 9).bind fun b22 =>
  (ho_gR σ a0 6 37).bind fun b23 =>
  (ho_ldI G σ b23 x2).bind fun v24 =>
  (ho_stI G σ b22 x2 v24).bind fun σ25 =>
  some (.inl (σ25, x2 + 1))
def f_Md_codeOfCopy (G : ho_G) (N : Nat) (σ : ho_H) (a0 : Nat) (x1 : Int32) : Option (ho_H) :=
  (ho_it (f_Md_codeOfCopy_l2 G N a0 x1) N (σ, 0)).bind fun σ5 =>
  (ho_p σ5 a0 6 8 (.int 20)).bind fun σ6 =>
  (ho_gR σ6 a0 6 9).bind fun b7 =>
  (ho_stI G σ6 b7 0 109).bind fun σ8 =>
  (ho_gR σ8 a0 6 9).bind fun b9 =>
  (ho_stI G σ8 b9 1 97).bind fun σ10 =>
  (ho_gR σ10 a0 6 9).bind fun b11 =>
  (ho_stI G σ10 b11 2 99).bind fun σ12 =>
  (ho_p σ12 a0 6 10 (.int 3)).bind fun σ13 =>
  (ho_f σ13 a0 6).bind fun _ =>
  (ho_cv σ13 (f_Md_makeSeal G N σ13 a0)).bind fun σ15 =>
  (ho_it (f_Md_codeOfCopy_l67 G N a0 x1) N (σ15, 0)).bind fun σ20 =>
  (ho_p σ20 a0 6 8 (.int 32)).bind fun σ21 =>
  (ho_it (f_Md_codeOfCopy_l99 G N a0 x1) N (σ21, 0)).bind fun σ26 =>
  (ho_p σ26 a0 6 10 (.int x1)).bind fun σ27 =>
  (ho_f σ27 a0 6).bind fun _ =>
  (ho_cv σ27 (f_Md_makeSeal G N σ27 a0)).bind fun σ29 =>
  some σ29
