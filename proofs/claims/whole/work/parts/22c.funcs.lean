def f_Md_intervalOfCopy (G : ho_G) (N : Nat) (σ : ho_H) (a0 : Nat) : Option (Int32) :=
  (ho_gR σ a0 6 37).bind fun b1 =>
  (ho_ldI G σ b1 0).bind fun v2 =>
  (ho_gR σ a0 6 37).bind fun b3 =>
  (ho_ldI G σ b3 1).bind fun v4 =>
  (ho_gR σ a0 6 37).bind fun b5 =>
  (ho_ldI G σ b5 2).bind fun v6 =>
  (ho_gR σ a0 6 37).bind fun b7 =>
  (ho_ldI G σ b7 3).bind fun v8 =>
  some ((((ho_sl v2 24) ||| (ho_sl v4 16)) ||| (ho_sl v6 8)) ||| v8)
def f_Md_isBroken_j76 (G : ho_G) (N : Nat) (σ : ho_H) (y0 : Int32) : Option (Int32) :=
  (ho_bz y0).bind fun _ => some y0
def f_Md_isBroken_j71 (G : ho_G) (N : Nat) (σ : ho_H)  : Option (Int32) :=
  f_Md_isBroken_j76 G N σ 1
def f_Md_isBroken_j60 (G : ho_G) (N : Nat) (σ : ho_H) (x2 : Int32) : Option (Int32) :=
  (f_Md_within G N σ x2 1 512).bind fun v11 =>
  if ¬ v11 = 0 then
  f_Md_isBroken_j76 G N σ 0
  else
  f_Md_isBroken_j71 G N σ 
def f_Md_isBroken (G : ho_G) (N : Nat) (σ : ho_H) (a0 : Nat) (x1 : Int32) : Option (Int32) :=
  (ho_f σ a0 6).bind fun _ =>
  (f_Md_intervalOfCopy G N σ a0).bind fun v2 =>
  (ho_gR σ a0 6 37).bind fun b3 =>
  (ho_ldI G σ b3 5).bind fun v4 =>
  if ¬ x1 = (36 + v4) then
  f_Md_isBroken_j71 G N σ 
  else
  (ho_gR σ a0 6 37).bind fun b5 =>
  (ho_ldI G σ b5 4).bind fun v6 =>
  if 1 < v6 then
  f_Md_isBroken_j71 G N σ 
  else
  (ho_gR σ a0 6 37).bind fun b7 =>
  (ho_ldI G σ b7 5).bind fun v8 =>
  if 32 < v8 then
  f_Md_isBroken_j71 G N σ 
  else
  (ho_gR σ a0 6 37).bind fun b9 =>
  (ho_ldI G σ b9 4).bind fun v10 =>
  if ¬ v10 = 1 then
  f_Md_isBroken_j60 G N σ v2
  else
  (ho_gR σ a0 6 37).bind fun b12 =>
  (ho_ldI G σ b12 5).bind fun v13 =>
  if ¬ v13 = 20 then
  f_Md_isBroken_j71 G N σ 
  else
  f_Md_isBroken_j60 G N σ v2
def f_Md_loadLatest_l2 (G : ho_G) (N : Nat) (a0 : Nat) (x1 : Int32) : ho_H × Int32 → Option ((ho_H × Int32) ⊕ (ho_H)) := fun (σ, x2) =>
  if 20 ≤ x2 then
  some (.inr σ)
  else
  (ho_gR σ a0 6 38).bind fun b1 =>
  (ho_gR σ a0 6 27).bind fun b2 =>
  (ho_ldI G σ b2 ((20 * x1) + x2)).bind fun v3 =>
  (ho_stI G σ b1 x2 v3).bind fun σ4 =>
  some (.inl (σ4, x2 + 1))
def f_Md_loadLatest (G : ho_G) (N : Nat) (σ : ho_H) (a0 : Nat) (x1 : Int32) : Option (ho_H) :=
  (ho_it (f_Md_loadLatest_l2 G N a0 x1) N (σ, 0)).bind fun σ5 =>
  some σ5
def f_Md_lookAtKey_j32 (G : ho_G) (N : Nat) (σ : ho_H)  : Option (ho_H × Int32) :=
  some (σ, 0)
def f_Md_lookAtKey_l249 (G : ho_G) (N : Nat) (a0 : Nat) (x4 : Int32) (x5 : Int32) (x6 : Int32) : ho_H × Int32 → Option ((ho_H × Int32) ⊕ (ho_H)) := fun (σ, x7) =>
  if x4 ≤ x7 then
  some (.inr σ)
  else
  (ho_f σ a0 6).bind fun _ =>
  (ho_cv σ (f_Md_down G N σ a0)).bind fun σ17 =>
  some (.inl (σ17, x7 + 1))
def f_Md_lookAtKey_j306_in269 (G : ho_G) (N : Nat) (σ : ho_H) (a0 : Nat) (x5 : Int32) (x7 : Int32) (y0 : Int32) : Option ((Int32 × Int32) ⊕ (Int32)) :=
  some (.inl (y0, x7 + 1))
def f_Md_lookAtKey_j305_in269 (G : ho_G) (N : Nat) (σ : ho_H) (a0 : Nat) (x5 : Int32) (x7 : Int32) : Option ((Int32 × Int32) ⊕ (Int32)) :=
  f_Md_lookAtKey_j306_in269 G N σ a0 x5 x7 0
def f_Md_lookAtKey_l269 (G : ho_G) (N : Nat) (σ : ho_H) (a0 : Nat) (x5 : Int32) : Int32 × Int32 → Option ((Int32 × Int32) ⊕ (Int32)) := fun (x6, x7) =>
  if 20 ≤ x7 then
  some (.inr x6)
  else
  if x6 = 0 then
  f_Md_lookAtKey_j305_in269 G N σ a0 x5 x7
  else
  (ho_gR σ a0 6 38).bind fun b19 =>
  (ho_ldI G σ b19 x7).bind fun v20 =>
  (ho_gR σ a0 6 37).bind fun b21 =>
  (ho_ldI G σ b21 (x5 + x7)).bind fun v22 =>
  if ¬ v20 = v22 then
  f_Md_lookAtKey_j305_in269 G N σ a0 x5 x7
  else
  f_Md_lookAtKey_j306_in269 G N σ a0 x5 x7 1
def f_Md_lookAtKey_j324 (G : ho_G) (N : Nat) (σ : ho_H) (y0 : Int32) : Option (ho_H × Int32) :=
  some (σ, y0)
def f_Md_lookAtKey_l75 (G : ho_G) (N : Nat) (a0 : Nat) (x2 : Int32) (x3 : Int32) (x4 : Int32) (x5 : Int32) (x6 : Int32) : ho_H × Int32 → Option ((ho_H × Int32) ⊕ (ho_H)) := fun (σ, x7) =>
  if 20 ≤ x7 then
  some (.inr σ)
  else
  (ho_gR σ a0 6 38).bind fun b28 =>
  (ho_gR σ a0 6 37).bind fun b29 =>
  (ho_ldI G σ b29 (x5 + x7)).bind fun v30 =>
  (ho_stI G σ b28 x7 v30).bind fun σ31 =>
  some (.inl (σ31, x7 + 1))
def f_Md_lookAtKey_l109 (G : ho_G) (N : Nat) (a0 : Nat) (x2 : Int32) (x3 : Int32) (x5 : Int32) (x6 : Int32) : ho_H × Int32 → Option ((ho_H × Int32) ⊕ (ho_H)) := fun (σ, x7) =>
  if x2 ≤ x7 then
  some (.inr σ)
  else
  (ho_f σ a0 6).bind fun _ =>
  (ho_cv σ (f_Md_down G N σ a0)).bind fun σ34 =>
  some (.inl (σ34, x7 + 1))
def f_Md_lookAtKey_j167_in128 (G : ho_G) (N : Nat) (σ : ho_H) (a0 : Nat) (x2 : Int32) (x3 : Int32) (x5 : Int32) (x7 : Int32) (y0 : Int32) : Option ((Int32 × Int32) ⊕ (Int32)) :=
  some (.inl (y0, x7 + 1))
def f_Md_lookAtKey_j166_in128 (G : ho_G) (N : Nat) (σ : ho_H) (a0 : Nat) (x2 : Int32) (x3 : Int32) (x5 : Int32) (x7 : Int32) : Option ((Int32 × Int32) ⊕ (Int32)) :=
  f_Md_lookAtKey_j167_in128 G N σ a0 x2 x3 x5 x7 0
def f_Md_lookAtKey_l128 (G : ho_G) (N : Nat) (σ : ho_H) (a0 : Nat) (x2 : Int32) (x3 : Int32) (x5 : Int32) : Int32 × Int32 → Option ((Int32 × Int32) ⊕ (Int32)) := fun (x6, x7) =>
  if 20 ≤ x7 then
  some (.inr x6)
  else
  if x6 = 0 then
  f_Md_lookAtKey_j166_in128 G N σ a0 x2 x3 x5 x7
  else
  (ho_gR σ a0 6 38).bind fun b36 =>
  (ho_ldI G σ b36 x7).bind fun v37 =>
  (ho_gR σ a0 6 27).bind fun b38 =>
  (ho_ldI G σ b38 ((20 * x3) + x7)).bind fun v39 =>
  if ¬ v37 = v39 then
  f_Md_lookAtKey_j166_in128 G N σ a0 x2 x3 x5 x7
  else
  f_Md_lookAtKey_j167_in128 G N σ a0 x2 x3 x5 x7 1
def f_Md_lookAtKey_l192 (G : ho_G) (N : Nat) (a0 : Nat) (x3 : Int32) (x5 : Int32) : ho_H × Int32 → Option ((ho_H × Int32) ⊕ (ho_H)) := fun (σ, x7) =>
  if 20 ≤ x7 then
  some (.inr σ)
  else
  (ho_gR σ a0 6 27).bind fun b43 =>
  (ho_gR σ a0 6 37).bind fun b44 =>
  (ho_ldI G σ b44 (x5 + x7)).bind fun v45 =>
  (ho_stI G σ b43 ((20 * x3) + x7) v45).bind fun σ46 =>
  some (.inl (σ46, x7 + 1))
def f_Md_lookAtKey (G : ho_G) (N : Nat) (σ : ho_H) (a0 : Nat) (x1 : Int32) : Option (ho_H × Int32) :=
  (ho_f σ a0 6).bind fun _ =>
  (f_Md_intervalOfCopy G N σ a0).bind fun v2 =>
  (ho_gI σ a0 6 13).bind fun v3 =>
  if (v2 - v3) < 1 then
  f_Md_lookAtKey_j32 G N σ 
  else
  (ho_gR σ a0 6 24).bind fun b4 =>
  (f_Md_chainOf G N σ (v2 - v3)).bind fun v5 =>
  (ho_ldZ G σ b4 ((8 * x1) + v5)).bind fun v6 =>
  if ¬ v6 = 0 then
  (f_Md_chainOf G N σ (v2 - v3)).bind fun v7 =>
  (ho_gR σ a0 6 26).bind fun b8 =>
  (ho_ldI G σ b8 ((8 * x1) + v7)).bind fun v9 =>
  (ho_gR σ a0 6 37).bind fun b10 =>
  (ho_ldI G σ b10 5).bind fun v11 =>
  if (v2 - v3) ≤ v9 then
  (ho_gR σ a0 6 25).bind fun b12 =>
  (ho_ldI G σ b12 ((8 * x1) + v7)).bind fun v13 =>
  if v13 ≤ (v2 - v3) then
  (ho_f σ a0 6).bind fun _ =>
  (ho_cv σ (f_Md_loadLatest G N σ a0 ((8 * x1) + v7))).bind fun σ15 =>
  (ho_it (f_Md_lookAtKey_l249 G N a0 v9 (16 + v11) 1) N (σ15, v2 - v3)).bind fun σ18 =>
  (ho_it (f_Md_lookAtKey_l269 G N σ18 a0 (16 + v11)) N (1, 0)).bind fun x23 =>
  if x23 = 0 then
  f_Md_lookAtKey_j324 G N σ18 2
  else
  f_Md_lookAtKey_j324 G N σ18 0
  else
  some (σ, 0)
  else
  (ho_it (f_Md_lookAtKey_l75 G N a0 (v2 - v3) ((8 * x1) + v7) v9 (16 + v11) 1) N (σ, 0)).bind fun σ32 =>
  (ho_it (f_Md_lookAtKey_l109 G N a0 (v2 - v3) ((8 * x1) + v7) (16 + v11) 1) N (σ32, v9)).bind fun σ35 =>
  (ho_it (f_Md_lookAtKey_l128 G N σ35 a0 (v2 - v3) ((8 * x1) + v7) (16 + v11)) N (1, 0)).bind fun x40 =>
  if ¬ x40 = 0 then
  (ho_gR σ35 a0 6 26).bind fun b41 =>
  (ho_stI G σ35 b41 ((8 * x1) + v7) (v2 - v3)).bind fun σ42 =>
  (ho_it (f_Md_lookAtKey_l192 G N a0 ((8 * x1) + v7) (16 + v11)) N (σ42, 0)).bind fun σ47 =>
  some (σ47, 1)
  else
  some (σ35, 2)
  else
  f_Md_lookAtKey_j32 G N σ 
def f_Md_heldAt (G : ho_G) (N : Nat) (σ : ho_H) (a0 : Nat) (x1 : Int32) (x2 : Int32) : Option (Int32) :=
  some (68 * ((16 * x1) + x2))
def f_Md_heldInterval (G : ho_G) (N : Nat) (σ : ho_H) (a0 : Nat) (x1 : Int32) (x2 : Int32) : Option (Int32) :=
  (ho_f σ a0 6).bind fun _ =>
  (f_Md_heldAt G N σ a0 x1 x2).bind fun v2 =>
  (ho_gR σ a0 6 31).bind fun b3 =>
  (ho_ldI G σ b3 v2).bind fun v4 =>
  (ho_gR σ a0 6 31).bind fun b5 =>
  (ho_ldI G σ b5 (v2 + 1)).bind fun v6 =>
  (ho_gR σ a0 6 31).bind fun b7 =>
  (ho_ldI G σ b7 (v2 + 2)).bind fun v8 =>
  (ho_gR σ a0 6 31).bind fun b9 =>
  (ho_ldI G σ b9 (v2 + 3)).bind fun v10 =>
  some ((((ho_sl v4 24) ||| (ho_sl v6 16)) ||| (ho_sl v8 8)) ||| v10)
def f_Md_isDue_j44 (G : ho_G) (N : Nat) (σ : ho_H) (y0 : Int32) : Option (Int32) :=
  (ho_bz y0).bind fun _ => some y0
def f_Md_isDue_j43 (G : ho_G) (N : Nat) (σ : ho_H)  : Option (Int32) :=
  f_Md_isDue_j44 G N σ 0
def f_Md_isDue (G : ho_G) (N : Nat) (σ : ho_H) (a0 : Nat) (x1 : Int32) (x2 : Int32) : Option (Int32) :=
  (ho_f σ a0 6).bind fun _ =>
  (f_Md_heldInterval G N σ a0 x1 x2).bind fun v2 =>
  (f_Md_chainOf G N σ v2).bind fun v3 =>
  (ho_gR σ a0 6 24).bind fun b4 =>
  (ho_ldZ G σ b4 ((8 * x1) + v3)).bind fun v5 =>
  if v5 = 0 then
  f_Md_isDue_j43 G N σ 
  else
  (ho_gR σ a0 6 26).bind fun b6 =>
  (ho_ldI G σ b6 ((8 * x1) + v3)).bind fun v7 =>
  if v7 < v2 then
  f_Md_isDue_j43 G N σ 
  else
  f_Md_isDue_j44 G N σ 1
def f_Md_keep_l25 (G : ho_G) (N : Nat) (a0 : Nat) (x1 : Int32) (x3 : Int32) (x4 : Int32) : ho_H × Int32 → Option ((ho_H × Int32) ⊕ (ho_H)) := fun (σ, x5) =>
  if 10 ≤ x5 then
  some (.inr σ)
  else
  (ho_gR σ a0 6 34).bind fun b5 =>
  (ho_gR σ a0 6 37).bind fun b6 =>
  (ho_ldI G σ b6 ((6 + x3) + x5)).bind fun v7 =>
  (ho_stI G σ b5 ((10 * x4) + x5) v7).bind fun σ8 =>
  some (.inl (σ8, x5 + 1))
def f_Md_keep_j141 (G : ho_G) (N : Nat) (σ : ho_H) (a0 : Nat) (x1 : Int32) : Option (ho_H) :=
  (ho_gR σ a0 6 32).bind fun b12 =>
  (ho_ldI G σ b12 x1).bind fun v13 =>
  (ho_stI G σ b12 x1 (v13 + 1)).bind fun σ14 =>
  some σ14
def f_Md_keep_l97 (G : ho_G) (N : Nat) (a0 : Nat) (x1 : Int32) (x3 : Int32) : ho_H × Int32 → Option ((ho_H × Int32) ⊕ (ho_H)) := fun (σ, x5) =>
  if (36 + x3) ≤ x5 then
  some (.inr σ)
  else
  (ho_gR σ a0 6 36).bind fun b19 =>
  (ho_gR σ a0 6 32).bind fun b20 =>
  (ho_ldI G σ b20 x1).bind fun v21 =>
  (ho_gR σ a0 6 37).bind fun b22 =>
  (ho_ldI G σ b22 x5).bind fun v23 =>
  (ho_stI G σ b19 ((68 * ((100 * x1) + v21)) + x5) v23).bind fun σ24 =>
  some (.inl (σ24, x5 + 1))
def f_Md_keep (G : ho_G) (N : Nat) (σ : ho_H) (a0 : Nat) (x1 : Int32) (x2 : Int32) (x3 : Int32) : Option (ho_H) :=
  (ho_gR σ a0 6 32).bind fun b1 =>
  (ho_ldI G σ b1 x1).bind fun v2 =>
  (ho_gR σ a0 6 33).bind fun b3 =>
  (ho_stI G σ b3 ((1024 * x1) + v2) x2).bind fun σ4 =>
  (ho_it (f_Md_keep_l25 G N a0 x1 x3 ((1024 * x1) + v2)) N (σ4, 0)).bind fun σ9 =>
  (ho_gR σ9 a0 6 32).bind fun b10 =>
  (ho_ldI G σ9 b10 x1).bind fun v11 =>
  if 100 ≤ v11 then
  f_Md_keep_j141 G N σ9 a0 x1
  else
  (ho_gR σ9 a0 6 35).bind fun b15 =>
  (ho_gR σ9 a0 6 32).bind fun b16 =>
  (ho_ldI G σ9 b16 x1).bind fun v17 =>
  (ho_stI G σ9 b15 ((100 * x1) + v17) (36 + x3)).bind fun σ18 =>
  (ho_it (f_Md_keep_l97 G N a0 x1 x3) N (σ18, 0)).bind fun σ25 =>
  f_Md_keep_j141 G N σ25 a0 x1
def f_Md_goOut_l15 (G : ho_G) (N : Nat) (a0 : Nat) (x1 : Int32) (x2 : Int32) (x3 : Int32) : ho_H × Int32 → Option ((ho_H × Int32) ⊕ (ho_H)) := fun (σ, x4) =>
  if x3 ≤ x4 then
  some (.inr σ)
  else
  (ho_gR σ a0 6 37).bind fun b3 =>
  (ho_gR σ a0 6 31).bind fun b4 =>
  (ho_f σ a0 6).bind fun _ =>
  (f_Md_heldAt G N σ a0 x1 x2).bind fun v6 =>
  (ho_ldI G σ b4 (v6 + x4)).bind fun v7 =>
  (ho_stI G σ b3 x4 v7).bind fun σ8 =>
  some (.inl (σ8, x4 + 1))
def f_Md_goOut_l101_in61 (G : ho_G) (N : Nat) (a0 : Nat) (x1 : Int32) (x4 : Int32) : ho_H × Int32 → Option ((ho_H × Int32) ⊕ (ho_H)) := fun (σ, x5) =>
  if 68 ≤ x5 then
  some (.inr σ)
  else
  (ho_gR σ a0 6 31).bind fun b19 =>
  (ho_f σ a0 6).bind fun _ =>
  (f_Md_heldAt G N σ a0 x1 x4).bind fun v21 =>
  (ho_gR σ a0 6 31).bind fun b22 =>
  (ho_f σ a0 6).bind fun _ =>
  (f_Md_heldAt G N σ a0 x1 (x4 + 1)).bind fun v24 =>
  (ho_ldI G σ b22 (v24 + x5)).bind fun v25 =>
  (ho_stI G σ b19 (v21 + x5) v25).bind fun σ26 =>
  some (.inl (σ26, x5 + 1))
def f_Md_goOut_l61 (G : ho_G) (N : Nat) (a0 : Nat) (x1 : Int32) : ho_H × Int32 → Option ((ho_H × Int32) ⊕ (ho_H)) := fun (σ, x4) =>
  (ho_gR σ a0 6 29).bind fun b13 =>
  (ho_ldI G σ b13 x1).bind fun v14 =>
  if v14 ≤ x4 then
  some (.inr σ)
  else
  (ho_gR σ a0 6 30).bind fun b15 =>
  (ho_gR σ a0 6 30).bind fun b16 =>
  (ho_ldI G σ b16 (((16 * x1) + x4) + 1)).bind fun v17 =>
  (ho_stI G σ b15 ((16 * x1) + x4) v17).bind fun σ18 =>
  (ho_it (f_Md_goOut_l101_in61 G N a0 x1 x4) N (σ18, 0)).bind fun σ27 =>
  some (.inl (σ27, x4 + 1))
def f_Md_goOut_l188 (G : ho_G) (N : Nat) (a0 : Nat) (x1 : Int32) (x4 : Int32) (x5 : Int32) (x6 : Int32) : ho_H × Int32 → Option ((ho_H × Int32) ⊕ (ho_H)) := fun (σ, x7) =>
  (ho_gR σ a0 6 26).bind fun b38 =>
  (ho_ldI G σ b38 x6).bind fun v39 =>
  if v39 ≤ x7 then
  some (.inr σ)
  else
  (ho_f σ a0 6).bind fun _ =>
  (ho_cv σ (f_Md_down G N σ a0)).bind fun σ41 =>
  some (.inl (σ41, x7 + 1))
def f_Md_goOut_j265_in225 (G : ho_G) (N : Nat) (σ : ho_H) (a0 : Nat) (x1 : Int32) (x4 : Int32) (x5 : Int32) (x6 : Int32) (x8 : Int32) (y0 : Int32) : Option ((Int32 × Int32) ⊕ (Int32)) :=
  some (.inl (y0, x8 + 1))
def f_Md_goOut_j264_in225 (G : ho_G) (N : Nat) (σ : ho_H) (a0 : Nat) (x1 : Int32) (x4 : Int32) (x5 : Int32) (x6 : Int32) (x8 : Int32) : Option ((Int32 × Int32) ⊕ (Int32)) :=
  f_Md_goOut_j265_in225 G N σ a0 x1 x4 x5 x6 x8 0
def f_Md_goOut_l225 (G : ho_G) (N : Nat) (σ : ho_H) (a0 : Nat) (x1 : Int32) (x4 : Int32) (x5 : Int32) (x6 : Int32) : Int32 × Int32 → Option ((Int32 × Int32) ⊕ (Int32)) := fun (x7, x8) =>
  if 10 ≤ x8 then
  some (.inr x7)
  else
  if x7 = 0 then
  f_Md_goOut_j264_in225 G N σ a0 x1 x4 x5 x6 x8
  else
  (ho_gR σ a0 6 11).bind fun b45 =>
  (ho_ldI G σ b45 x8).bind fun v46 =>
  (ho_gR σ a0 6 37).bind fun b47 =>
  (ho_ldI G σ b47 ((6 + x4) + x8)).bind fun v48 =>
  if ¬ v46 = v48 then
  f_Md_goOut_j264_in225 G N σ a0 x1 x4 x5 x6 x8
  else
  f_Md_goOut_j265_in225 G N σ a0 x1 x4 x5 x6 x8 1
def f_Md_goOut_j427 (G : ho_G) (N : Nat) (σ : ho_H)  : Option (ho_H) :=
  some σ
def f_Md_goOut_l389 (G : ho_G) (N : Nat) (a0 : Nat) (x6 : Int32) : ho_H × Int32 → Option ((ho_H × Int32) ⊕ (ho_H)) := fun (σ, x8) =>
  if 20 ≤ x8 then
  some (.inr σ)
  else
  (ho_gR σ a0 6 27).bind fun b65 =>
  (ho_gR σ a0 6 37).bind fun b66 =>
  (ho_ldI G σ b66 (6 + x8)).bind fun v67 =>
  (ho_stI G σ b65 ((20 * (x6 + 1)) + x8) v67).bind fun σ68 =>
  some (.inl (σ68, x8 + 1))
def f_Md_goOut (G : ho_G) (N : Nat) (σ : ho_H) (a0 : Nat) (x1 : Int32) (x2 : Int32) : Option (ho_H) :=
  (ho_gR σ a0 6 30).bind fun b1 =>
  (ho_ldI G σ b1 ((16 * x1) + x2)).bind fun v2 =>
  (ho_it (f_Md_goOut_l15 G N a0 x1 x2 v2) N (σ, 0)).bind fun σ9 =>
  (ho_gR σ9 a0 6 29).bind fun b10 =>
  (ho_ldI G σ9 b10 x1).bind fun v11 =>
  (ho_stI G σ9 b10 x1 (v11 - 1)).bind fun σ12 =>
  (ho_it (f_Md_goOut_l61 G N a0 x1) N (σ12, x2)).bind fun σ30 =>
  (ho_gR σ30 a0 6 37).bind fun b31 =>
  (ho_ldI G σ30 b31 5).bind fun v32 =>
  (ho_f σ30 a0 6).bind fun _ =>
  (f_Md_intervalOfCopy G N σ30 a0).bind fun v34 =>
  (f_Md_chainOf G N σ30 v34).bind fun v35 =>
  (ho_f σ30 a0 6).bind fun _ =>
  (ho_cv σ30 (f_Md_loadLatest G N σ30 a0 ((8 * x1) + v35))).bind fun σ37 =>
  (ho_it (f_Md_goOut_l188 G N a0 x1 v32 v34 ((8 * x1) + v35)) N (σ37, v34)).bind fun σ42 =>
  (ho_f σ42 a0 6).bind fun _ =>
  (ho_cv σ42 (f_Md_codeOfCopy G N σ42 a0 (6 + v32))).bind fun σ44 =>
  (ho_it (f_Md_goOut_l225 G N σ44 a0 x1 v32 v34 ((8 * x1) + v35)) N (1, 0)).bind fun x49 =>
  if ¬ x49 = 0 then
  (ho_f σ44 a0 6).bind fun _ =>
  (ho_cv σ44 (f_Md_keep G N σ44 a0 x1 v34 v32)).bind fun σ51 =>
  (ho_gR σ51 a0 6 37).bind fun b52 =>
  (ho_ldI G σ51 b52 4).bind fun v53 =>
  if ¬ v53 = 1 then
  f_Md_goOut_j427 G N σ51 
  else
  (f_Md_chainOf G N σ51 v34).bind fun v54 =>
  if 8 ≤ (v54 + 1) then
  f_Md_goOut_j427 G N σ51 
  else
  (ho_gR σ51 a0 6 24).bind fun b55 =>
  (ho_ldZ G σ51 b55 (((8 * x1) + v35) + 1)).bind fun v56 =>
  if ¬ v56 = 0 then
  f_Md_goOut_j427 G N σ51 
  else
  (ho_gR σ51 a0 6 24).bind fun b57 =>
  (ho_stZ G σ51 b57 (((8 * x1) + v35) + 1) 1).bind fun σ58 =>
  (ho_gR σ58 a0 6 25).bind fun b59 =>
  (f_Md_chainOf G N σ58 v34).bind fun v60 =>
  (ho_stI G σ58 b59 (((8 * x1) + v35) + 1) (64 * (v60 + 1))).bind fun σ61 =>
  (ho_gR σ61 a0 6 26).bind fun b62 =>
  (f_Md_chainOf G N σ61 v34).bind fun v63 =>
  (ho_stI G σ61 b62 (((8 * x1) + v35) + 1) (64 * (v63 + 1))).bind fun σ64 =>
  (ho_it (f_Md_goOut_l389 G N a0 ((8 * x1) + v35)) N (σ64, 0)).bind fun σ69 =>
  f_Md_goOut_j427 G N σ69 
  else
  (ho_gR σ44 a0 6 28).bind fun b72 =>
  (ho_ldI G σ44 b72 ((8 * x1) + 6)).bind fun v73 =>
  (ho_stI G σ44 b72 ((8 * x1) + 6) (v73 + 1)).bind fun σ74 =>
  some σ74
def f_Md_release_l2 (G : ho_G) (N : Nat) (a0 : Nat) (x1 : Int32) : ho_H × Int32 → Option ((ho_H × Int32) ⊕ (ho_H)) := fun (σ, x2) =>
  if 68 ≤ x2 then
  some (.inr σ)
  else
  (ho_gR σ a0 6 39).bind fun b1 =>
  (ho_gR σ a0 6 37).bind fun b2 =>
  (ho_ldI G σ b2 x2).bind fun v3 =>
  (ho_stI G σ b1 x2 v3).bind fun σ4 =>
  some (.inl (σ4, x2 + 1))
def f_Md_release_j81_in28_in37 (G : ho_G) (N : Nat) (σ : ho_H) (a0 : Nat) (x1 : Int32) (x3 : Int32) (x4 : Int32) : Option ((Int32 × Int32) ⊕ (Int32)) :=
  some (.inl (x3, x4 + 1))
def f_Md_release_j78_in28_in37 (G : ho_G) (N : Nat) (σ : ho_H) (a0 : Nat) (x1 : Int32) (x4 : Int32) : Option ((Int32 × Int32) ⊕ (Int32)) :=
  f_Md_release_j81_in28_in37 G N σ a0 x1 x4 x4
def f_Md_release_l37_in28 (G : ho_G) (N : Nat) (σ : ho_H) (a0 : Nat) (x1 : Int32) : Int32 × Int32 → Option ((Int32 × Int32) ⊕ (Int32)) := fun (x3, x4) =>
  (ho_gR σ a0 6 29).bind fun b6 =>
  (ho_ldI G σ b6 x1).bind fun v7 =>
  if v7 ≤ x4 then
  some (.inr x3)
  else
  (ho_f σ a0 6).bind fun _ =>
  (f_Md_isDue G N σ a0 x1 x4).bind fun v9 =>
  if v9 = 0 then
  f_Md_release_j81_in28_in37 G N σ a0 x1 x3 x4
  else
  if x3 < 0 then
  f_Md_release_j78_in28_in37 G N σ a0 x1 x4
  else
  (ho_f σ a0 6).bind fun _ =>
  (f_Md_heldInterval G N σ a0 x1 x4).bind fun v11 =>
  (ho_f σ a0 6).bind fun _ =>
  (f_Md_heldInterval G N σ a0 x1 x3).bind fun v13 =>
  if v13 ≤ v11 then
  f_Md_release_j81_in28_in37 G N σ a0 x1 x3 x4
  else
  f_Md_release_j78_in28_in37 G N σ a0 x1 x4
def f_Md_release_j107_in28 (G : ho_G) (N : Nat) (σ : ho_H) (a0 : Nat) (x1 : Int32) (x2 : Int32) : Option ((ho_H × Int32) ⊕ (ho_H)) :=
  some (.inl (σ, x2))
def f_Md_release_j96_in28 (G : ho_G) (N : Nat) (σ : ho_H) (a0 : Nat) (x1 : Int32) (x3 : Int32) (y0 : Int32) : Option ((ho_H × Int32) ⊕ (ho_H)) :=
  if y0 = 0 then
  f_Md_release_j107_in28 G N σ a0 x1 y0
  else
  (ho_f σ a0 6).bind fun _ =>
  (ho_cv σ (f_Md_goOut G N σ a0 x1 x3)).bind fun σ16 =>
  f_Md_release_j107_in28 G N σ16 a0 x1 y0
def f_Md_release_l28 (G : ho_G) (N : Nat) (a0 : Nat) (x1 : Int32) : ho_H × Int32 → Option ((ho_H × Int32) ⊕ (ho_H)) := fun (σ, x2) =>
  if x2 = 0 then
  some (.inr σ)
  else
  (ho_it (f_Md_release_l37_in28 G N σ a0 x1) N ((-1), 0)).bind fun x14 =>
  if x14 < 0 then
  f_Md_release_j96_in28 G N σ a0 x1 x14 0
  else
  f_Md_release_j96_in28 G N σ a0 x1 x14 1
def f_Md_release_l112 (G : ho_G) (N : Nat) (a0 : Nat) : ho_H × Int32 → Option ((ho_H × Int32) ⊕ (ho_H)) := fun (σ, x3) =>
  if 68 ≤ x3 then
  some (.inr σ)
  else
  (ho_gR σ a0 6 37).bind fun b20 =>
  (ho_gR σ a0 6 39).bind fun b21 =>
  (ho_ldI G σ b21 x3).bind fun v22 =>
  (ho_stI G σ b20 x3 v22).bind fun σ23 =>
  some (.inl (σ23, x3 + 1))
def f_Md_release (G : ho_G) (N : Nat) (σ : ho_H) (a0 : Nat) (x1 : Int32) : Option (ho_H) :=
  (ho_it (f_Md_release_l2 G N a0 x1) N (σ, 0)).bind fun σ5 =>
  (ho_it (f_Md_release_l28 G N a0 x1) N (σ5, 1)).bind fun σ19 =>
  (ho_it (f_Md_release_l112 G N a0) N (σ19, 0)).bind fun σ24 =>
  some σ24
def f_Md_isTwice_j114_in21_in62 (G : ho_G) (N : Nat) (σ : ho_H) (a0 : Nat) (x1 : Int32) (x2 : Int32) (x3 : Int32) (x4 : Int32) (x5 : Int32) (x6 : Int32) (x8 : Int32) (y0 : Int32) : Option ((Int32 × Int32) ⊕ (Int32)) :=
  some (.inl (y0, x8 + 1))
def f_Md_isTwice_j113_in21_in62 (G : ho_G) (N : Nat) (σ : ho_H) (a0 : Nat) (x1 : Int32) (x2 : Int32) (x3 : Int32) (x4 : Int32) (x5 : Int32) (x6 : Int32) (x8 : Int32) : Option ((Int32 × Int32) ⊕ (Int32)) :=
  f_Md_isTwice_j114_in21_in62 G N σ a0 x1 x2 x3 x4 x5 x6 x8 0
def f_Md_isTwice_l62_in21 (G : ho_G) (N : Nat) (σ : ho_H) (a0 : Nat) (x1 : Int32) (x2 : Int32) (x3 : Int32) (x4 : Int32) (x5 : Int32) (x6 : Int32) : Int32 × Int32 → Option ((Int32 × Int32) ⊕ (Int32)) := fun (x7, x8) =>
  if 10 ≤ x8 then
  some (.inr x7)
  else
  if x7 = 0 then
  f_Md_isTwice_j113_in21_in62 G N σ a0 x1 x2 x3 x4 x5 x6 x8
  else
  (ho_gR σ a0 6 31).bind fun b11 =>
  (ho_gR σ a0 6 31).bind fun b12 =>
  (ho_ldI G σ b12 (x6 + 5)).bind fun v13 =>
  (ho_ldI G σ b11 (((x6 + 6) + v13) + x8)).bind fun v14 =>
  (ho_gR σ a0 6 37).bind fun b15 =>
  (ho_ldI G σ b15 (x3 + x8)).bind fun v16 =>
  if ¬ v14 = v16 then
  f_Md_isTwice_j113_in21_in62 G N σ a0 x1 x2 x3 x4 x5 x6 x8
  else
  f_Md_isTwice_j114_in21_in62 G N σ a0 x1 x2 x3 x4 x5 x6 x8 1
def f_Md_isTwice_j137_in21 (G : ho_G) (N : Nat) (σ : ho_H) (a0 : Nat) (x1 : Int32) (x2 : Int32) (x3 : Int32) (x5 : Int32) (y0 : Int32) : Option ((Int32 × Int32) ⊕ (Int32)) :=
  some (.inl (y0, x5 + 1))
def f_Md_isTwice_j132_in21 (G : ho_G) (N : Nat) (σ : ho_H) (a0 : Nat) (x1 : Int32) (x2 : Int32) (x3 : Int32) (x5 : Int32) : Option ((Int32 × Int32) ⊕ (Int32)) :=
  f_Md_isTwice_j137_in21 G N σ a0 x1 x2 x3 x5 1
def f_Md_isTwice_j57_in21 (G : ho_G) (N : Nat) (σ : ho_H) (a0 : Nat) (x1 : Int32) (x2 : Int32) (x3 : Int32) (x4 : Int32) (x5 : Int32) (x6 : Int32) (y0 : Int32) : Option ((Int32 × Int32) ⊕ (Int32)) :=
  (ho_it (f_Md_isTwice_l62_in21 G N σ a0 x1 x2 x3 x4 x5 x6) N (y0, 0)).bind fun x17 =>
  if ¬ x4 = 0 then
  f_Md_isTwice_j132_in21 G N σ a0 x1 x2 x3 x5
  else
  if x17 = 0 then
  f_Md_isTwice_j137_in21 G N σ a0 x1 x2 x3 x5 0
  else
  f_Md_isTwice_j132_in21 G N σ a0 x1 x2 x3 x5
def f_Md_isTwice_l21 (G : ho_G) (N : Nat) (σ : ho_H) (a0 : Nat) (x1 : Int32) (x2 : Int32) (x3 : Int32) : Int32 × Int32 → Option ((Int32 × Int32) ⊕ (Int32)) := fun (x4, x5) =>
  (ho_gR σ a0 6 29).bind fun b5 =>
  (ho_ldI G σ b5 x1).bind fun v6 =>
  if v6 ≤ x5 then
  some (.inr x4)
  else
  (ho_f σ a0 6).bind fun _ =>
  (f_Md_heldAt G N σ a0 x1 x5).bind fun v8 =>
  (ho_f σ a0 6).bind fun _ =>
  (f_Md_heldInterval G N σ a0 x1 x5).bind fun v10 =>
  if ¬ v10 = x2 then
  f_Md_isTwice_j57_in21 G N σ a0 x1 x2 x3 x4 x5 v8 0
  else
  f_Md_isTwice_j57_in21 G N σ a0 x1 x2 x3 x4 x5 v8 1
def f_Md_isTwice_j232_in152_in190 (G : ho_G) (N : Nat) (σ : ho_H) (a0 : Nat) (x1 : Int32) (x2 : Int32) (x3 : Int32) (x4 : Int32) (x5 : Int32) (x7 : Int32) (y0 : Int32) : Option ((Int32 × Int32) ⊕ (Int32)) :=
  some (.inl (y0, x7 + 1))
def f_Md_isTwice_j231_in152_in190 (G : ho_G) (N : Nat) (σ : ho_H) (a0 : Nat) (x1 : Int32) (x2 : Int32) (x3 : Int32) (x4 : Int32) (x5 : Int32) (x7 : Int32) : Option ((Int32 × Int32) ⊕ (Int32)) :=
  f_Md_isTwice_j232_in152_in190 G N σ a0 x1 x2 x3 x4 x5 x7 0
def f_Md_isTwice_l190_in152 (G : ho_G) (N : Nat) (σ : ho_H) (a0 : Nat) (x1 : Int32) (x2 : Int32) (x3 : Int32) (x4 : Int32) (x5 : Int32) : Int32 × Int32 → Option ((Int32 × Int32) ⊕ (Int32)) := fun (x6, x7) =>
  if 10 ≤ x7 then
  some (.inr x6)
  else
  if x6 = 0 then
  f_Md_isTwice_j231_in152_in190 G N σ a0 x1 x2 x3 x4 x5 x7
  else
  (ho_gR σ a0 6 34).bind fun b25 =>
  (ho_ldI G σ b25 ((10 * x5) + x7)).bind fun v26 =>
  (ho_gR σ a0 6 37).bind fun b27 =>
  (ho_ldI G σ b27 (x3 + x7)).bind fun v28 =>
  if ¬ v26 = v28 then
  f_Md_isTwice_j231_in152_in190 G N σ a0 x1 x2 x3 x4 x5 x7
  else
  f_Md_isTwice_j232_in152_in190 G N σ a0 x1 x2 x3 x4 x5 x7 1
def f_Md_isTwice_j255_in152 (G : ho_G) (N : Nat) (σ : ho_H) (a0 : Nat) (x1 : Int32) (x2 : Int32) (x3 : Int32) (x5 : Int32) (y0 : Int32) : Option ((Int32 × Int32) ⊕ (Int32)) :=
  some (.inl (y0, x5 + 1))
def f_Md_isTwice_j250_in152 (G : ho_G) (N : Nat) (σ : ho_H) (a0 : Nat) (x1 : Int32) (x2 : Int32) (x3 : Int32) (x5 : Int32) : Option ((Int32 × Int32) ⊕ (Int32)) :=
  f_Md_isTwice_j255_in152 G N σ a0 x1 x2 x3 x5 1
def f_Md_isTwice_j185_in152 (G : ho_G) (N : Nat) (σ : ho_H) (a0 : Nat) (x1 : Int32) (x2 : Int32) (x3 : Int32) (x4 : Int32) (x5 : Int32) (y0 : Int32) : Option ((Int32 × Int32) ⊕ (Int32)) :=
  (ho_it (f_Md_isTwice_l190_in152 G N σ a0 x1 x2 x3 x4 x5) N (y0, 0)).bind fun x29 =>
  if ¬ x4 = 0 then
  f_Md_isTwice_j250_in152 G N σ a0 x1 x2 x3 x5
  else
  if x29 = 0 then
  f_Md_isTwice_j255_in152 G N σ a0 x1 x2 x3 x5 0
  else
  f_Md_isTwice_j250_in152 G N σ a0 x1 x2 x3 x5
def f_Md_isTwice_l152 (G : ho_G) (N : Nat) (σ : ho_H) (a0 : Nat) (x1 : Int32) (x2 : Int32) (x3 : Int32) : Int32 × Int32 → Option ((Int32 × Int32) ⊕ (Int32)) := fun (x4, x5) =>
  (ho_gR σ a0 6 32).bind fun b21 =>
  (ho_ldI G σ b21 x1).bind fun v22 =>
  if ((1024 * x1) + v22) ≤ x5 then
  some (.inr x4)
  else
  (ho_gR σ a0 6 33).bind fun b23 =>
  (ho_ldI G σ b23 x5).bind fun v24 =>
  if ¬ v24 = x2 then
  f_Md_isTwice_j185_in152 G N σ a0 x1 x2 x3 x4 x5 0
  else
  f_Md_isTwice_j185_in152 G N σ a0 x1 x2 x3 x4 x5 1
def f_Md_isTwice (G : ho_G) (N : Nat) (σ : ho_H) (a0 : Nat) (x1 : Int32) : Option (Int32) :=
  (ho_f σ a0 6).bind fun _ =>
  (f_Md_intervalOfCopy G N σ a0).bind fun v2 =>
  (ho_gR σ a0 6 37).bind fun b3 =>
  (ho_ldI G σ b3 5).bind fun v4 =>
  (ho_it (f_Md_isTwice_l21 G N σ a0 x1 v2 (6 + v4)) N (0, 0)).bind fun x20 =>
  (ho_it (f_Md_isTwice_l152 G N σ a0 x1 v2 (6 + v4)) N (x20, 1024 * x1)).bind fun x32 =>
  (ho_bz x32).bind fun _ => some x32
