def f_Md_judge_j106 (G : ho_G) (N : Nat) (σ : ho_H)  : Option (ho_H × Int32) :=
  some (σ, 1)
def f_Md_judge_l151 (G : ho_G) (N : Nat) (a0 : Nat) (x1 : Int32) (x2 : Int32) : ho_H × Int32 → Option ((ho_H × Int32) ⊕ (ho_H)) := fun (σ, x6) =>
  if x2 ≤ x6 then
  some (.inr σ)
  else
  (ho_gR σ a0 6 31).bind fun b25 =>
  (ho_gR σ a0 6 29).bind fun b26 =>
  (ho_ldI G σ b26 x1).bind fun v27 =>
  (ho_f σ a0 6).bind fun _ =>
  (f_Md_heldAt G N σ a0 x1 v27).bind fun v29 =>
  (ho_gR σ a0 6 37).bind fun b30 =>
  (ho_ldI G σ b30 x6).bind fun v31 =>
  (ho_stI G σ b25 (v29 + x6) v31).bind fun σ32 =>
  some (.inl (σ32, x6 + 1))
def f_Md_judge_j108 (G : ho_G) (N : Nat) (σ : ho_H) (a0 : Nat) (x1 : Int32) (x2 : Int32) : Option (ho_H × Int32) :=
  (ho_f σ a0 6).bind fun _ =>
  (f_Md_isTwice G N σ a0 x1).bind fun v18 =>
  if v18 = 0 then
  (ho_gR σ a0 6 29).bind fun b19 =>
  (ho_ldI G σ b19 x1).bind fun v20 =>
  if ¬ v20 = 16 then
  (ho_gR σ a0 6 30).bind fun b21 =>
  (ho_gR σ a0 6 29).bind fun b22 =>
  (ho_ldI G σ b22 x1).bind fun v23 =>
  (ho_stI G σ b21 ((16 * x1) + v23) x2).bind fun σ24 =>
  (ho_it (f_Md_judge_l151 G N a0 x1 x2) N (σ24, 0)).bind fun σ33 =>
  (ho_gR σ33 a0 6 29).bind fun b34 =>
  (ho_ldI G σ33 b34 x1).bind fun v35 =>
  (ho_stI G σ33 b34 x1 (v35 + 1)).bind fun σ36 =>
  some (σ36, 0)
  else
  some (σ, 4)
  else
  some (σ, 3)
def f_Md_judge_j33 (G : ho_G) (N : Nat) (σ : ho_H) (a0 : Nat) (x1 : Int32) (x2 : Int32) : Option (ho_H × Int32) :=
  (ho_f σ a0 6).bind fun _ =>
  (f_Md_intervalOfCopy G N σ a0).bind fun v7 =>
  (f_Md_chainOf G N σ v7).bind fun v8 =>
  (ho_gI σ a0 6 16).bind fun v9 =>
  (ho_gR σ a0 6 23).bind fun b10 =>
  (ho_ldI G σ b10 x1).bind fun v11 =>
  (ho_gI σ a0 6 15).bind fun v12 =>
  (ho_gI σ a0 6 13).bind fun v13 =>
  (ho_gI σ a0 6 14).bind fun v14 =>
  if (((v7 + v13) - 1) * v14) ≤ ((v9 + v11) + v12) then
  f_Md_judge_j106 G N σ 
  else
  (ho_gR σ a0 6 24).bind fun b15 =>
  (ho_ldZ G σ b15 ((8 * x1) + v8)).bind fun v16 =>
  if v16 = 0 then
  f_Md_judge_j108 G N σ a0 x1 x2
  else
  (ho_gR σ a0 6 26).bind fun b39 =>
  (ho_ldI G σ b39 ((8 * x1) + v8)).bind fun v40 =>
  if v40 < v7 then
  f_Md_judge_j108 G N σ a0 x1 x2
  else
  f_Md_judge_j106 G N σ 
def f_Md_judge (G : ho_G) (N : Nat) (σ : ho_H) (a0 : Nat) (x1 : Int32) (x2 : Int32) : Option (ho_H × Int32) :=
  (ho_f σ a0 6).bind fun _ =>
  (f_Md_isBroken G N σ a0 x2).bind fun v2 =>
  if v2 = 0 then
  (ho_f σ a0 6).bind fun _ =>
  bd2 (ho_ck σ (f_Md_lookAtKey G N σ a0 x1)) fun σ4 v5 =>
  if ¬ v5 = 2 then
  if ¬ v5 = 1 then
  f_Md_judge_j33 G N σ4 a0 x1 x2
  else
  (ho_f σ4 a0 6).bind fun _ =>
  (ho_cv σ4 (f_Md_release G N σ4 a0 x1)).bind fun σ42 =>
  f_Md_judge_j33 G N σ42 a0 x1 x2
  else
  some (σ4, 2)
  else
  some (σ, 5)
def f_Md_arrive_j45 (G : ho_G) (N : Nat) (σ : ho_H) (a0 : Nat) : Option (ho_H × Int32) :=
  (ho_f σ a0 6).bind fun _ =>
  bd2 (ho_ck σ (f_Md_fail G N σ a0 1)) fun σ4 v5 =>
  some (σ4, v5)
def f_Md_arrive_l72 (G : ho_G) (N : Nat) (a0 : Nat) (x1 : Int32) (x2 : Int32) (x3 : Int32) (x4 : Int32) : ho_H × Int32 → Option ((ho_H × Int32) ⊕ (ho_H)) := fun (σ, x5) =>
  (ho_gR σ a0 6 21).bind fun b12 =>
  (ho_ldI G σ b12 x2).bind fun v13 =>
  if v13 ≤ x5 then
  some (.inr σ)
  else
  (ho_gR σ a0 6 37).bind fun b14 =>
  (ho_gR σ a0 6 22).bind fun b15 =>
  (ho_ldI G σ b15 ((68 * x2) + x5)).bind fun v16 =>
  (ho_stI G σ b14 x5 v16).bind fun σ17 =>
  some (.inl (σ17, x5 + 1))
def f_Md_arrive (G : ho_G) (N : Nat) (σ : ho_H) (a0 : Nat) (x1 : Int32) (x2 : Int32) (x3 : Int32) (x4 : Int32) : Option (ho_H × Int32) :=
  (ho_p σ a0 6 12 (.int 0)).bind fun σ1 =>
  (f_Md_within G N σ1 x1 0 7).bind fun v2 =>
  if v2 = 0 then
  f_Md_arrive_j45 G N σ1 a0
  else
  (ho_gI σ1 a0 6 18).bind fun v6 =>
  (f_Md_within G N σ1 x2 0 (v6 - 1)).bind fun v7 =>
  if v7 = 0 then
  f_Md_arrive_j45 G N σ1 a0
  else
  (ho_gR σ1 a0 6 21).bind fun b8 =>
  (ho_ldI G σ1 b8 x2).bind fun v9 =>
  (f_Md_within G N σ1 x3 0 (v9 - 1)).bind fun v10 =>
  if ¬ v10 = 0 then
  (f_Md_within G N σ1 x4 0 255).bind fun v11 =>
  if ¬ v11 = 0 then
  (ho_it (f_Md_arrive_l72 G N a0 x1 x2 x3 x4) N (σ1, 0)).bind fun σ18 =>
  (ho_gR σ18 a0 6 37).bind fun b19 =>
  (ho_gR σ18 a0 6 37).bind fun b20 =>
  (ho_ldI G σ18 b20 x3).bind fun v21 =>
  (ho_stI G σ18 b19 x3 (v21 ^^^ x4)).bind fun σ22 =>
  (ho_gR σ22 a0 6 21).bind fun b23 =>
  (ho_ldI G σ22 b23 x2).bind fun v24 =>
  (ho_f σ22 a0 6).bind fun _ =>
  bd2 (ho_ck σ22 (f_Md_judge G N σ22 a0 x1 v24)) fun σ26 v27 =>
  (ho_gR σ26 a0 6 28).bind fun b28 =>
  (ho_ldI G σ26 b28 ((8 * x1) + v27)).bind fun v29 =>
  (ho_stI G σ26 b28 ((8 * x1) + v27) (v29 + 1)).bind fun σ30 =>
  some (σ30, v27)
  else
  (ho_f σ1 a0 6).bind fun _ =>
  bd2 (ho_ck σ1 (f_Md_fail G N σ1 a0 2)) fun σ34 v35 =>
  some (σ34, v35)
  else
  f_Md_arrive_j45 G N σ1 a0
def f_Md_receiver_j25 (G : ho_G) (N : Nat) (σ : ho_H) (a0 : Nat) : Option (ho_H × Int32) :=
  (ho_f σ a0 6).bind fun _ =>
  bd2 (ho_ck σ (f_Md_fail G N σ a0 1)) fun σ4 v5 =>
  some (σ4, v5)
def f_Md_receiver_j136_in82 (G : ho_G) (N : Nat) (σ : ho_H) (a0 : Nat) (x1 : Int32) (x4 : Int32) (y0 : Int32) : Option ((Int32 × Int32) ⊕ (Int32)) :=
  some (.inl (y0, x4 + 1))
def f_Md_receiver_j135_in82 (G : ho_G) (N : Nat) (σ : ho_H) (a0 : Nat) (x1 : Int32) (x3 : Int32) (x4 : Int32) : Option ((Int32 × Int32) ⊕ (Int32)) :=
  f_Md_receiver_j136_in82 G N σ a0 x1 x4 x3
def f_Md_receiver_l82 (G : ho_G) (N : Nat) (σ : ho_H) (a0 : Nat) (x1 : Int32) : Int32 × Int32 → Option ((Int32 × Int32) ⊕ (Int32)) := fun (x3, x4) =>
  if 8 ≤ x4 then
  some (.inr x3)
  else
  (ho_gR σ a0 6 24).bind fun b7 =>
  (ho_ldZ G σ b7 ((8 * x1) + x4)).bind fun v8 =>
  if v8 = 0 then
  f_Md_receiver_j135_in82 G N σ a0 x1 x3 x4
  else
  (ho_gR σ a0 6 26).bind fun b9 =>
  (ho_ldI G σ b9 ((8 * x1) + x4)).bind fun v10 =>
  if v10 ≤ x3 then
  f_Md_receiver_j135_in82 G N σ a0 x1 x3 x4
  else
  (ho_gR σ a0 6 26).bind fun b11 =>
  (ho_ldI G σ b11 ((8 * x1) + x4)).bind fun v12 =>
  f_Md_receiver_j136_in82 G N σ a0 x1 x4 v12
def f_Md_receiver_j76 (G : ho_G) (N : Nat) (σ : ho_H) (y0 : Int32) : Option (ho_H × Int32) :=
  some (σ, y0)
def f_Md_receiver (G : ho_G) (N : Nat) (σ : ho_H) (a0 : Nat) (x1 : Int32) (x2 : Int32) : Option (ho_H × Int32) :=
  (ho_p σ a0 6 12 (.int 0)).bind fun σ1 =>
  (f_Md_within G N σ1 x1 0 7).bind fun v2 =>
  if v2 = 0 then
  f_Md_receiver_j25 G N σ1 a0
  else
  (f_Md_within G N σ1 x2 0 9).bind fun v6 =>
  if ¬ v6 = 0 then
  if 7 ≤ x2 then
  if 9 ≤ x2 then
  (ho_it (f_Md_receiver_l82 G N σ1 a0 x1) N ((-1), 0)).bind fun x13 =>
  some (σ1, x13)
  else
  if ¬ x2 = 7 then
  (ho_gR σ1 a0 6 29).bind fun b16 =>
  (ho_ldI G σ1 b16 x1).bind fun v17 =>
  f_Md_receiver_j76 G N σ1 v17
  else
  (ho_gR σ1 a0 6 32).bind fun b18 =>
  (ho_ldI G σ1 b18 x1).bind fun v19 =>
  f_Md_receiver_j76 G N σ1 v19
  else
  (ho_gR σ1 a0 6 28).bind fun b20 =>
  (ho_ldI G σ1 b20 ((8 * x1) + x2)).bind fun v21 =>
  some (σ1, v21)
  else
  f_Md_receiver_j25 G N σ1 a0
def f_Md_isKept_j47 (G : ho_G) (N : Nat) (σ : ho_H) (y0 : Int32) : Option (Int32) :=
  (ho_bz y0).bind fun _ => some y0
def f_Md_isKept_j46 (G : ho_G) (N : Nat) (σ : ho_H)  : Option (Int32) :=
  f_Md_isKept_j47 G N σ 0
def f_Md_isKept_j34 (G : ho_G) (N : Nat) (σ : ho_H) (y0 : Int32) (y1 : Int32) (y2 : Int32) : Option (Int32) :=
  (f_Md_within G N σ y2 y1 (y0 - 1)).bind fun v4 =>
  if v4 = 0 then
  f_Md_isKept_j46 G N σ 
  else
  f_Md_isKept_j47 G N σ 1
def f_Md_isKept (G : ho_G) (N : Nat) (σ : ho_H) (a0 : Nat) (x1 : Int32) (x2 : Int32) : Option (Int32) :=
  (f_Md_within G N σ x1 0 7).bind fun v1 =>
  if v1 = 0 then
  f_Md_isKept_j46 G N σ 
  else
  (ho_gR σ a0 6 32).bind fun b2 =>
  (ho_ldI G σ b2 x1).bind fun v3 =>
  if 100 ≤ v3 then
  f_Md_isKept_j34 G N σ 100 0 x2
  else
  (ho_gR σ a0 6 32).bind fun b5 =>
  (ho_ldI G σ b5 x1).bind fun v6 =>
  f_Md_isKept_j34 G N σ v6 0 x2
def f_Md_released_j23 (G : ho_G) (N : Nat) (σ : ho_H) (a0 : Nat) : Option (ho_H × Int32) :=
  (ho_f σ a0 6).bind fun _ =>
  bd2 (ho_ck σ (f_Md_fail G N σ a0 1)) fun σ5 v6 =>
  some (σ5, v6)
def f_Md_released_j85 (G : ho_G) (N : Nat) (σ : ho_H) (y0 : Int32) : Option (ho_H × Int32) :=
  some (σ, y0)
def f_Md_released (G : ho_G) (N : Nat) (σ : ho_H) (a0 : Nat) (x1 : Int32) (x2 : Int32) (x3 : Int32) : Option (ho_H × Int32) :=
  (ho_p σ a0 6 12 (.int 0)).bind fun σ1 =>
  (ho_f σ1 a0 6).bind fun _ =>
  (f_Md_isKept G N σ1 a0 x1 x2).bind fun v3 =>
  if v3 = 0 then
  f_Md_released_j23 G N σ1 a0
  else
  (f_Md_within G N σ1 x3 0 2).bind fun v7 =>
  if ¬ v7 = 0 then
  if ¬ x3 = 0 then
  if ¬ x3 = 1 then
  (ho_gR σ1 a0 6 36).bind fun b8 =>
  (ho_ldI G σ1 b8 ((68 * ((100 * x1) + x2)) + 5)).bind fun v9 =>
  f_Md_released_j85 G N σ1 v9
  else
  (ho_gR σ1 a0 6 36).bind fun b10 =>
  (ho_ldI G σ1 b10 ((68 * ((100 * x1) + x2)) + 4)).bind fun v11 =>
  f_Md_released_j85 G N σ1 v11
  else
  (ho_gR σ1 a0 6 33).bind fun b12 =>
  (ho_ldI G σ1 b12 ((1024 * x1) + x2)).bind fun v13 =>
  f_Md_released_j85 G N σ1 v13
  else
  f_Md_released_j23 G N σ1 a0
def f_Md_releasedByte_j40 (G : ho_G) (N : Nat) (σ : ho_H) (a0 : Nat) : Option (ho_H × Int32) :=
  (ho_f σ a0 6).bind fun _ =>
  bd2 (ho_ck σ (f_Md_fail G N σ a0 1)) fun σ5 v6 =>
  some (σ5, v6)
def f_Md_releasedByte (G : ho_G) (N : Nat) (σ : ho_H) (a0 : Nat) (x1 : Int32) (x2 : Int32) (x3 : Int32) : Option (ho_H × Int32) :=
  (ho_p σ a0 6 12 (.int 0)).bind fun σ1 =>
  (ho_f σ1 a0 6).bind fun _ =>
  (f_Md_isKept G N σ1 a0 x1 x2).bind fun v3 =>
  if v3 = 0 then
  f_Md_releasedByte_j40 G N σ1 a0
  else
  (ho_gR σ1 a0 6 36).bind fun b7 =>
  (ho_ldI G σ1 b7 ((68 * ((100 * x1) + x2)) + 5)).bind fun v8 =>
  (f_Md_within G N σ1 x3 0 (v8 - 1)).bind fun v9 =>
  if ¬ v9 = 0 then
  (ho_gR σ1 a0 6 36).bind fun b10 =>
  (ho_ldI G σ1 b10 (((68 * ((100 * x1) + x2)) + 6) + x3)).bind fun v11 =>
  some (σ1, v11)
  else
  f_Md_releasedByte_j40 G N σ1 a0
def f_Md_count_j55 (G : ho_G) (N : Nat) (σ : ho_H) (y0 : Int32) : Option (ho_H × Int32) :=
  some (σ, y0)
def f_Md_count (G : ho_G) (N : Nat) (σ : ho_H) (a0 : Nat) (x1 : Int32) : Option (ho_H × Int32) :=
  (ho_p σ a0 6 12 (.int 0)).bind fun σ1 =>
  (f_Md_within G N σ1 x1 0 3).bind fun v2 =>
  if ¬ v2 = 0 then
  if ¬ x1 = 0 then
  if ¬ x1 = 1 then
  if ¬ x1 = 2 then
  (ho_gI σ1 a0 6 18).bind fun v3 =>
  f_Md_count_j55 G N σ1 v3
  else
  (ho_gI σ1 a0 6 17).bind fun v4 =>
  f_Md_count_j55 G N σ1 v4
  else
  (ho_f σ1 a0 6).bind fun _ =>
  (f_Md_interval G N σ1 a0).bind fun v6 =>
  f_Md_count_j55 G N σ1 v6
  else
  (ho_gI σ1 a0 6 16).bind fun v7 =>
  f_Md_count_j55 G N σ1 v7
  else
  some (σ1, (-1))
