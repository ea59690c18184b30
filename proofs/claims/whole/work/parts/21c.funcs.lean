def f_Md_chain_j82_in23 (G : ho_G) (N : Nat) (σ : ho_H) (a0 : Nat) (x1 : Int32) (x2 : Int32) (x3 : Int32) (x4 : Int32) (x5 : Int32) (x6 : Int32) (y0 : Int32) (y1 : Int32) (c2 : Nat) : Option ((ho_H × Int32) ⊕ (ho_H)) :=
  (f_Md_byteOf G N σ y0 (ho_rm x6 4)).bind fun v4 =>
  (ho_stI G σ c2 y1 v4).bind fun σ5 =>
  some (.inl (σ5, x6 + 1))
def f_Md_chain_l23 (G : ho_G) (N : Nat) (a0 : Nat) (x1 : Int32) (x2 : Int32) (x3 : Int32) (x4 : Int32) (x5 : Int32) : ho_H × Int32 → Option ((ho_H × Int32) ⊕ (ho_H)) := fun (σ, x6) =>
  if 20 ≤ x6 then
  some (.inr σ)
  else
  (ho_gR σ a0 6 38).bind fun b3 =>
  if 4 ≤ x6 then
  if 8 ≤ x6 then
  if 12 ≤ x6 then
  if 16 ≤ x6 then
  f_Md_chain_j82_in23 G N σ a0 x1 x2 x3 x4 x5 x6 x5 x6 b3
  else
  f_Md_chain_j82_in23 G N σ a0 x1 x2 x3 x4 x5 x6 x4 x6 b3
  else
  f_Md_chain_j82_in23 G N σ a0 x1 x2 x3 x4 x5 x6 x3 x6 b3
  else
  f_Md_chain_j82_in23 G N σ a0 x1 x2 x3 x4 x5 x6 x2 x6 b3
  else
  f_Md_chain_j82_in23 G N σ a0 x1 x2 x3 x4 x5 x6 x1 x6 b3
def f_Md_chain_l108_in100 (G : ho_G) (N : Nat) (a0 : Nat) (x6 : Int32) : ho_H × Int32 → Option ((ho_H × Int32) ⊕ (ho_H)) := fun (σ, x7) =>
  if 20 ≤ x7 then
  some (.inr σ)
  else
  (ho_gR σ a0 6 20).bind fun b7 =>
  (ho_gI σ a0 6 17).bind fun v8 =>
  (ho_gR σ a0 6 38).bind fun b9 =>
  (ho_ldI G σ b9 x7).bind fun v10 =>
  (ho_stI G σ b7 (((1300 * v8) + (20 * x6)) + x7) v10).bind fun σ11 =>
  some (.inl (σ11, x7 + 1))
def f_Md_chain_j159_in100 (G : ho_G) (N : Nat) (σ : ho_H) (a0 : Nat) (x6 : Int32) : Option ((ho_H × Int32) ⊕ (ho_H)) :=
  some (.inl (σ, x6 + (-1)))
def f_Md_chain_l100 (G : ho_G) (N : Nat) (a0 : Nat) : ho_H × Int32 → Option ((ho_H × Int32) ⊕ (ho_H)) := fun (σ, x6) =>
  if x6 < 0 then
  some (.inr σ)
  else
  (ho_it (f_Md_chain_l108_in100 G N a0 x6) N (σ, 0)).bind fun σ12 =>
  if x6 ≤ 0 then
  f_Md_chain_j159_in100 G N σ12 a0 x6
  else
  (ho_f σ12 a0 6).bind fun _ =>
  (ho_cv σ12 (f_Md_down G N σ12 a0)).bind fun σ14 =>
  f_Md_chain_j159_in100 G N σ14 a0 x6
def f_Md_chain (G : ho_G) (N : Nat) (σ : ho_H) (a0 : Nat) (x1 : Int32) (x2 : Int32) (x3 : Int32) (x4 : Int32) (x5 : Int32) : Option (ho_H × Int32) :=
  (ho_p σ a0 6 12 (.int 0)).bind fun σ1 =>
  (ho_gI σ1 a0 6 17).bind fun v2 =>
  if ¬ v2 = 8 then
  (ho_it (f_Md_chain_l23 G N a0 x1 x2 x3 x4 x5) N (σ1, 0)).bind fun σ6 =>
  (ho_it (f_Md_chain_l100 G N a0) N (σ6, 64)).bind fun σ17 =>
  (ho_gI σ17 a0 6 17).bind fun v18 =>
  (ho_p σ17 a0 6 17 (.int (v18 + 1))).bind fun σ19 =>
  (ho_gI σ19 a0 6 17).bind fun v20 =>
  some (σ19, v20 - 1)
  else
  (ho_f σ1 a0 6).bind fun _ =>
  bd2 (ho_ck σ1 (f_Md_fail G N σ1 a0 1)) fun σ26 v27 =>
  some (σ26, v27)
def f_Md_tick (G : ho_G) (N : Nat) (σ : ho_H) (a0 : Nat) (x1 : Int32) : Option (ho_H × Int32) :=
  (ho_p σ a0 6 12 (.int 0)).bind fun σ1 =>
  (f_Md_within G N σ1 x1 1 100000).bind fun v2 =>
  if ¬ v2 = 0 then
  (ho_gI σ1 a0 6 16).bind fun v3 =>
  (ho_gI σ1 a0 6 14).bind fun v4 =>
  (ho_nz v4).bind fun _ =>
  if (((v3 + x1) / v4) + 1) ≤ 512 then
  (ho_gI σ1 a0 6 16).bind fun v5 =>
  (ho_p σ1 a0 6 16 (.int (v5 + x1))).bind fun σ6 =>
  (ho_gI σ6 a0 6 16).bind fun v7 =>
  some (σ6, v7)
  else
  (ho_f σ1 a0 6).bind fun _ =>
  bd2 (ho_ck σ1 (f_Md_fail G N σ1 a0 2)) fun σ9 v10 =>
  some (σ9, v10)
  else
  (ho_f σ1 a0 6).bind fun _ =>
  bd2 (ho_ck σ1 (f_Md_fail G N σ1 a0 1)) fun σ12 v13 =>
  some (σ12, v13)
def f_Md_load (G : ho_G) (N : Nat) (σ : ho_H) (a0 : Nat) (x1 : Int32) (x2 : Int32) : Option (ho_H × Int32) :=
  (ho_p σ a0 6 12 (.int 0)).bind fun σ1 =>
  (f_Md_within G N σ1 x1 0 7).bind fun v2 =>
  if ¬ v2 = 0 then
  (ho_gR σ1 a0 6 19).bind fun b3 =>
  (ho_ldI G σ1 b3 x1).bind fun v4 =>
  (ho_gR σ1 a0 6 19).bind fun b5 =>
  (ho_stI G σ1 b5 x1 x2).bind fun σ6 =>
  some (σ6, v4)
  else
  (ho_f σ1 a0 6).bind fun _ =>
  bd2 (ho_ck σ1 (f_Md_fail G N σ1 a0 1)) fun σ8 v9 =>
  some (σ8, v9)
def f_Md_digest_l39 (G : ho_G) (N : Nat) (a0 : Nat) (x1 : Int32) (x2 : Int32) : ho_H × Int32 → Option ((ho_H × Int32) ⊕ (ho_H)) := fun (σ, x3) =>
  if x1 ≤ x3 then
  some (.inr σ)
  else
  (ho_gR σ a0 6 5).bind fun b4 =>
  (ho_gR σ a0 6 19).bind fun b5 =>
  (ho_ldI G σ b5 (x3 / 4)).bind fun v6 =>
  (f_Md_byteOf G N σ v6 (ho_rm x3 4)).bind fun v7 =>
  (ho_stI G σ b4 x3 v7).bind fun σ8 =>
  some (.inl (σ8, x3 + 1))
def f_Md_digest (G : ho_G) (N : Nat) (σ : ho_H) (a0 : Nat) (x1 : Int32) (x2 : Int32) : Option (ho_H × Int32) :=
  (ho_p σ a0 6 12 (.int 0)).bind fun σ1 =>
  (f_Md_within G N σ1 x1 0 32).bind fun v2 =>
  if ¬ v2 = 0 then
  (f_Md_within G N σ1 x2 0 7).bind fun v3 =>
  if ¬ v3 = 0 then
  (ho_it (f_Md_digest_l39 G N a0 x1 x2) N (σ1, 0)).bind fun σ9 =>
  (ho_p σ9 a0 6 6 (.int x1)).bind fun σ10 =>
  (ho_f σ10 a0 6).bind fun _ =>
  (ho_cv σ10 (f_Md_digestRow G N σ10 a0)).bind fun σ12 =>
  (ho_gR σ12 a0 6 3).bind fun b13 =>
  (ho_ldI G σ12 b13 x2).bind fun v14 =>
  some (σ12, v14)
  else
  (ho_f σ1 a0 6).bind fun _ =>
  bd2 (ho_ck σ1 (f_Md_fail G N σ1 a0 2)) fun σ18 v19 =>
  some (σ18, v19)
  else
  (ho_f σ1 a0 6).bind fun _ =>
  bd2 (ho_ck σ1 (f_Md_fail G N σ1 a0 1)) fun σ21 v22 =>
  some (σ21, v22)
def f_Md_pack_l8 (G : ho_G) (N : Nat) (a0 : Nat) (x1 : Int32) (x2 : Int32) (x3 : Int32) : ho_H × Int32 → Option ((ho_H × Int32) ⊕ (ho_H)) := fun (σ, x4) =>
  if 4 ≤ x4 then
  some (.inr σ)
  else
  (ho_gR σ a0 6 37).bind fun b3 =>
  (f_Md_byteOf G N σ x3 x4).bind fun v4 =>
  (ho_stI G σ b3 x4 v4).bind fun σ5 =>
  some (.inl (σ5, x4 + 1))
def f_Md_pack_l56 (G : ho_G) (N : Nat) (a0 : Nat) (x2 : Int32) (x3 : Int32) (x4 : Int32) : ho_H × Int32 → Option ((ho_H × Int32) ⊕ (ho_H)) := fun (σ, x5) =>
  if 20 ≤ x5 then
  some (.inr σ)
  else
  (ho_gR σ a0 6 38).bind fun b12 =>
  (ho_f σ a0 6).bind fun _ =>
  (f_Md_keyAt G N σ a0 x4 ((ho_rm (x3 - 1) 64) + 1) x5).bind fun v14 =>
  (ho_stI G σ b12 x5 v14).bind fun σ15 =>
  some (.inl (σ15, x5 + 1))
def f_Md_pack_l103 (G : ho_G) (N : Nat) (a0 : Nat) (x2 : Int32) (x3 : Int32) : ho_H × Int32 → Option ((ho_H × Int32) ⊕ (ho_H)) := fun (σ, x5) =>
  if 10 ≤ x5 then
  some (.inr σ)
  else
  (ho_gR σ a0 6 37).bind fun b19 =>
  (ho_gR σ a0 6 11).bind fun b20 =>
  (ho_ldI G σ b20 x5).bind fun v21 =>
  (ho_stI G σ b19 ((6 + x2) + x5) v21).bind fun σ22 =>
  some (.inl (σ22, x5 + 1))
def f_Md_pack_j194_in146 (G : ho_G) (N : Nat) (σ : ho_H) (a0 : Nat) (x2 : Int32) (x5 : Int32) (x6 : Int32) (y0 : Int32) (y1 : Int32) (c2 : Nat) : Option ((ho_H × Int32) ⊕ (ho_H)) :=
  (ho_stI G σ c2 y1 y0).bind fun σ29 =>
  some (.inl (σ29, x6 + 1))
def f_Md_pack_l146 (G : ho_G) (N : Nat) (a0 : Nat) (x2 : Int32) (x5 : Int32) : ho_H × Int32 → Option ((ho_H × Int32) ⊕ (ho_H)) := fun (σ, x6) =>
  if 20 ≤ x6 then
  some (.inr σ)
  else
  (ho_gR σ a0 6 37).bind fun b25 =>
  if 1 ≤ x5 then
  (f_Md_chainOf G N σ x5).bind fun v26 =>
  (ho_f σ a0 6).bind fun _ =>
  (f_Md_keyAt G N σ a0 v26 ((ho_rm (x5 - 1) 64) + 1) x6).bind fun v28 =>
  f_Md_pack_j194_in146 G N σ a0 x2 x5 x6 v28 ((16 + x2) + x6) b25
  else
  f_Md_pack_j194_in146 G N σ a0 x2 x5 x6 0 ((16 + x2) + x6) b25
def f_Md_pack_l217 (G : ho_G) (N : Nat) (a0 : Nat) (x2 : Int32) : ho_H × Int32 → Option ((ho_H × Int32) ⊕ (ho_H)) := fun (σ, x6) =>
  if (36 + x2) ≤ x6 then
  some (.inr σ)
  else
  (ho_gR σ a0 6 22).bind fun b34 =>
  (ho_gI σ a0 6 18).bind fun v35 =>
  (ho_gR σ a0 6 37).bind fun b36 =>
  (ho_ldI G σ b36 x6).bind fun v37 =>
  (ho_stI G σ b34 ((68 * v35) + x6) v37).bind fun σ38 =>
  some (.inl (σ38, x6 + 1))
def f_Md_pack (G : ho_G) (N : Nat) (σ : ho_H) (a0 : Nat) (x1 : Int32) (x2 : Int32) : Option (ho_H × Int32) :=
  (ho_f σ a0 6).bind fun _ =>
  (f_Md_interval G N σ a0).bind fun v2 =>
  (ho_it (f_Md_pack_l8 G N a0 x1 x2 v2) N (σ, 0)).bind fun σ6 =>
  (ho_gR σ6 a0 6 37).bind fun b7 =>
  (ho_stI G σ6 b7 4 x1).bind fun σ8 =>
  (ho_gR σ8 a0 6 37).bind fun b9 =>
  (ho_stI G σ8 b9 5 x2).bind fun σ10 =>
  (f_Md_chainOf G N σ10 v2).bind fun v11 =>
  (ho_it (f_Md_pack_l56 G N a0 x2 v2 v11) N (σ10, 0)).bind fun σ16 =>
  (ho_f σ16 a0 6).bind fun _ =>
  (ho_cv σ16 (f_Md_codeOfCopy G N σ16 a0 (6 + x2))).bind fun σ18 =>
  (ho_it (f_Md_pack_l103 G N a0 x2 v2) N (σ18, 0)).bind fun σ23 =>
  (ho_gI σ23 a0 6 13).bind fun v24 =>
  (ho_it (f_Md_pack_l146 G N a0 x2 (v2 - v24)) N (σ23, 0)).bind fun σ30 =>
  (ho_gR σ30 a0 6 21).bind fun b31 =>
  (ho_gI σ30 a0 6 18).bind fun v32 =>
  (ho_stI G σ30 b31 v32 (36 + x2)).bind fun σ33 =>
  (ho_it (f_Md_pack_l217 G N a0 x2) N (σ33, 0)).bind fun σ39 =>
  (ho_gI σ39 a0 6 18).bind fun v40 =>
  (ho_p σ39 a0 6 18 (.int (v40 + 1))).bind fun σ41 =>
  (ho_gI σ41 a0 6 18).bind fun v42 =>
  some (σ41, v42 - 1)
def f_Md_send_l59 (G : ho_G) (N : Nat) (a0 : Nat) (x1 : Int32) : ho_H × Int32 → Option ((ho_H × Int32) ⊕ (ho_H)) := fun (σ, x2) =>
  if x1 ≤ x2 then
  some (.inr σ)
  else
  (ho_gR σ a0 6 37).bind fun b8 =>
  (ho_gR σ a0 6 19).bind fun b9 =>
  (ho_ldI G σ b9 (x2 / 4)).bind fun v10 =>
  (f_Md_byteOf G N σ v10 (ho_rm x2 4)).bind fun v11 =>
  (ho_stI G σ b8 (6 + x2) v11).bind fun σ12 =>
  some (.inl (σ12, x2 + 1))
def f_Md_send (G : ho_G) (N : Nat) (σ : ho_H) (a0 : Nat) (x1 : Int32) : Option (ho_H × Int32) :=
  (ho_p σ a0 6 12 (.int 0)).bind fun σ1 =>
  (f_Md_within G N σ1 x1 0 32).bind fun v2 =>
  if ¬ v2 = 0 then
  (ho_f σ1 a0 6).bind fun _ =>
  (f_Md_interval G N σ1 a0).bind fun v4 =>
  (f_Md_chainOf G N σ1 v4).bind fun v5 =>
  (ho_gI σ1 a0 6 17).bind fun v6 =>
  if v5 < v6 then
  (ho_gI σ1 a0 6 18).bind fun v7 =>
  if ¬ v7 = 200 then
  (ho_it (f_Md_send_l59 G N a0 x1) N (σ1, 0)).bind fun σ13 =>
  (ho_f σ13 a0 6).bind fun _ =>
  bd2 (ho_ck σ13 (f_Md_pack G N σ13 a0 0 x1)) fun σ15 v16 =>
  some (σ15, v16)
  else
  (ho_f σ1 a0 6).bind fun _ =>
  bd2 (ho_ck σ1 (f_Md_fail G N σ1 a0 3)) fun σ20 v21 =>
  some (σ20, v21)
  else
  (ho_f σ1 a0 6).bind fun _ =>
  bd2 (ho_ck σ1 (f_Md_fail G N σ1 a0 2)) fun σ23 v24 =>
  some (σ23, v24)
  else
  (ho_f σ1 a0 6).bind fun _ =>
  bd2 (ho_ck σ1 (f_Md_fail G N σ1 a0 1)) fun σ26 v27 =>
  some (σ26, v27)
def f_Md_root_l47 (G : ho_G) (N : Nat) (a0 : Nat) (x1 : Int32) : ho_H × Int32 → Option ((ho_H × Int32) ⊕ (ho_H)) := fun (σ, x2) =>
  if 20 ≤ x2 then
  some (.inr σ)
  else
  (ho_gR σ a0 6 37).bind fun b7 =>
  (ho_f σ a0 6).bind fun _ =>
  (f_Md_keyAt G N σ a0 (x1 + 1) 0 x2).bind fun v9 =>
  (ho_stI G σ b7 (6 + x2) v9).bind fun σ10 =>
  some (.inl (σ10, x2 + 1))
def f_Md_root (G : ho_G) (N : Nat) (σ : ho_H) (a0 : Nat) : Option (ho_H × Int32) :=
  (ho_p σ a0 6 12 (.int 0)).bind fun σ1 =>
  (ho_f σ1 a0 6).bind fun _ =>
  (f_Md_interval G N σ1 a0).bind fun v3 =>
  (f_Md_chainOf G N σ1 v3).bind fun v4 =>
  (ho_gI σ1 a0 6 17).bind fun v5 =>
  if (v4 + 1) < v5 then
  (ho_gI σ1 a0 6 18).bind fun v6 =>
  if ¬ v6 = 200 then
  (ho_it (f_Md_root_l47 G N a0 v4) N (σ1, 0)).bind fun σ11 =>
  (ho_f σ11 a0 6).bind fun _ =>
  bd2 (ho_ck σ11 (f_Md_pack G N σ11 a0 1 20)) fun σ13 v14 =>
  some (σ13, v14)
  else
  (ho_f σ1 a0 6).bind fun _ =>
  bd2 (ho_ck σ1 (f_Md_fail G N σ1 a0 2)) fun σ18 v19 =>
  some (σ18, v19)
  else
  (ho_f σ1 a0 6).bind fun _ =>
  bd2 (ho_ck σ1 (f_Md_fail G N σ1 a0 1)) fun σ21 v22 =>
  some (σ21, v22)
def f_Md_packet_j54 (G : ho_G) (N : Nat) (σ : ho_H) (y0 : Int32) : Option (ho_H × Int32) :=
  some (σ, y0)
def f_Md_packet_j49 (G : ho_G) (N : Nat) (σ : ho_H) (a0 : Nat) : Option (ho_H × Int32) :=
  (ho_f σ a0 6).bind fun _ =>
  bd2 (ho_ck σ (f_Md_fail G N σ a0 1)) fun σ5 v6 =>
  f_Md_packet_j54 G N σ5 v6
def f_Md_packet (G : ho_G) (N : Nat) (σ : ho_H) (a0 : Nat) (x1 : Int32) (x2 : Int32) : Option (ho_H × Int32) :=
  (ho_p σ a0 6 12 (.int 0)).bind fun σ1 =>
  (ho_gI σ1 a0 6 18).bind fun v2 =>
  (f_Md_within G N σ1 x1 0 (v2 - 1)).bind fun v3 =>
  if v3 = 0 then
  f_Md_packet_j49 G N σ1 a0
  else
  (ho_gR σ1 a0 6 21).bind fun b7 =>
  (ho_ldI G σ1 b7 x1).bind fun v8 =>
  (f_Md_within G N σ1 x2 0 (v8 - 1)).bind fun v9 =>
  if v9 = 0 then
  f_Md_packet_j49 G N σ1 a0
  else
  (ho_gR σ1 a0 6 22).bind fun b10 =>
  (ho_ldI G σ1 b10 ((68 * x1) + x2)).bind fun v11 =>
  f_Md_packet_j54 G N σ1 v11
def f_Md_chainFor_j61 (G : ho_G) (N : Nat) (σ : ho_H) (y0 : Int32) : Option (Int32) :=
  some y0
def f_Md_chainFor_j42 (G : ho_G) (N : Nat) (σ : ho_H) (a0 : Nat) (x3 : Int32) : Option (Int32) :=
  (ho_gI σ a0 6 17).bind fun v2 =>
  (f_Md_within G N σ x3 0 (v2 - 1)).bind fun v3 =>
  if v3 = 0 then
  f_Md_chainFor_j61 G N σ (-1)
  else
  f_Md_chainFor_j61 G N σ x3
def f_Md_chainFor_j18 (G : ho_G) (N : Nat) (σ : ho_H) (a0 : Nat) (x1 : Int32) (x2 : Int32) (y0 : Int32) : Option (Int32) :=
  if ¬ (ho_rm x1 64) = 0 then
  f_Md_chainFor_j42 G N σ a0 y0
  else
  if ¬ x2 = 0 then
  f_Md_chainFor_j42 G N σ a0 y0
  else
  (ho_gI σ a0 6 17).bind fun v4 =>
  if y0 < v4 then
  f_Md_chainFor_j42 G N σ a0 y0
  else
  f_Md_chainFor_j42 G N σ a0 (y0 - 1)
def f_Md_chainFor (G : ho_G) (N : Nat) (σ : ho_H) (a0 : Nat) (x1 : Int32) (x2 : Int32) : Option (Int32) :=
  if ¬ (ho_rm x1 64) = 0 then
  (f_Md_chainOf G N σ x1).bind fun v1 =>
  f_Md_chainFor_j18 G N σ a0 x1 x2 v1
  else
  f_Md_chainFor_j18 G N σ a0 x1 x2 (x1 / 64)
def f_Md_key_j26 (G : ho_G) (N : Nat) (σ : ho_H) (a0 : Nat) : Option (ho_H × Int32) :=
  (ho_f σ a0 6).bind fun _ =>
  bd2 (ho_ck σ (f_Md_fail G N σ a0 1)) fun σ4 v5 =>
  some (σ4, v5)
def f_Md_key_j63 (G : ho_G) (N : Nat) (σ : ho_H) (y0 : Int32) : Option (ho_H × Int32) :=
  some (σ, y0)
def f_Md_key (G : ho_G) (N : Nat) (σ : ho_H) (a0 : Nat) (x1 : Int32) (x2 : Int32) : Option (ho_H × Int32) :=
  (ho_p σ a0 6 12 (.int 0)).bind fun σ1 =>
  (f_Md_within G N σ1 x1 0 512).bind fun v2 =>
  if v2 = 0 then
  f_Md_key_j26 G N σ1 a0
  else
  (f_Md_within G N σ1 x2 0 19).bind fun v6 =>
  if ¬ v6 = 0 then
  (ho_f σ1 a0 6).bind fun _ =>
  (f_Md_chainFor G N σ1 a0 x1 0).bind fun v8 =>
  if 0 ≤ v8 then
  (ho_f σ1 a0 6).bind fun _ =>
  (f_Md_keyAt G N σ1 a0 v8 (x1 - (64 * v8)) x2).bind fun v10 =>
  f_Md_key_j63 G N σ1 v10
  else
  (ho_f σ1 a0 6).bind fun _ =>
  bd2 (ho_ck σ1 (f_Md_fail G N σ1 a0 2)) fun σ12 v13 =>
  f_Md_key_j63 G N σ12 v13
  else
  f_Md_key_j26 G N σ1 a0
def f_Md_join_j26 (G : ho_G) (N : Nat) (σ : ho_H) (a0 : Nat) : Option (ho_H) :=
  (ho_p σ a0 6 12 (.int 1)).bind fun σ3 =>
  some σ3
def f_Md_join_l52 (G : ho_G) (N : Nat) (a0 : Nat) (x1 : Int32) (x2 : Int32) (x3 : Int32) : ho_H × Int32 → Option ((ho_H × Int32) ⊕ (ho_H)) := fun (σ, x4) =>
  if 8 ≤ x4 then
  some (.inr σ)
  else
  (ho_gR σ a0 6 24).bind fun b7 =>
  (ho_stZ G σ b7 ((8 * x1) + x4) 0).bind fun σ8 =>
  some (.inl (σ8, x4 + 1))
def f_Md_join_l81 (G : ho_G) (N : Nat) (a0 : Nat) (x1 : Int32) (x2 : Int32) (x3 : Int32) : ho_H × Int32 → Option ((ho_H × Int32) ⊕ (ho_H)) := fun (σ, x4) =>
  if 8 ≤ x4 then
  some (.inr σ)
  else
  (ho_gR σ a0 6 28).bind fun b10 =>
  (ho_stI G σ b10 ((8 * x1) + x4) 0).bind fun σ11 =>
  some (.inl (σ11, x4 + 1))
def f_Md_join_l160 (G : ho_G) (N : Nat) (a0 : Nat) (x1 : Int32) (x2 : Int32) (x3 : Int32) : ho_H × Int32 → Option ((ho_H × Int32) ⊕ (ho_H)) := fun (σ, x4) =>
  if 20 ≤ x4 then
  some (.inr σ)
  else
  (ho_gR σ a0 6 27).bind fun b23 =>
  (ho_f σ a0 6).bind fun _ =>
  (f_Md_keyAt G N σ a0 x3 (x2 - (64 * x3)) x4).bind fun v25 =>
  (ho_stI G σ b23 ((20 * ((8 * x1) + x3)) + x4) v25).bind fun σ26 =>
  some (.inl (σ26, x4 + 1))
def f_Md_join (G : ho_G) (N : Nat) (σ : ho_H) (a0 : Nat) (x1 : Int32) (x2 : Int32) : Option (ho_H) :=
  (ho_p σ a0 6 12 (.int 0)).bind fun σ1 =>
  (f_Md_within G N σ1 x1 0 7).bind fun v2 =>
  if v2 = 0 then
  f_Md_join_j26 G N σ1 a0
  else
  (f_Md_within G N σ1 x2 0 511).bind fun v4 =>
  if ¬ v4 = 0 then
  (ho_f σ1 a0 6).bind fun _ =>
  (f_Md_chainFor G N σ1 a0 x2 1).bind fun v6 =>
  if 0 ≤ v6 then
  (ho_it (f_Md_join_l52 G N a0 x1 x2 v6) N (σ1, 0)).bind fun σ9 =>
  (ho_it (f_Md_join_l81 G N a0 x1 x2 v6) N (σ9, 0)).bind fun σ12 =>
  (ho_gR σ12 a0 6 29).bind fun b13 =>
  (ho_stI G σ12 b13 x1 0).bind fun σ14 =>
  (ho_gR σ14 a0 6 32).bind fun b15 =>
  (ho_stI G σ14 b15 x1 0).bind fun σ16 =>
  (ho_gR σ16 a0 6 24).bind fun b17 =>
  (ho_stZ G σ16 b17 ((8 * x1) + v6) 1).bind fun σ18 =>
  (ho_gR σ18 a0 6 25).bind fun b19 =>
  (ho_stI G σ18 b19 ((8 * x1) + v6) x2).bind fun σ20 =>
  (ho_gR σ20 a0 6 26).bind fun b21 =>
  (ho_stI G σ20 b21 ((8 * x1) + v6) x2).bind fun σ22 =>
  (ho_it (f_Md_join_l160 G N a0 x1 x2 v6) N (σ22, 0)).bind fun σ27 =>
  some σ27
  else
  (ho_p σ1 a0 6 12 (.int 2)).bind fun σ34 =>
  some σ34
  else
  f_Md_join_j26 G N σ1 a0
def f_Md_drift (G : ho_G) (N : Nat) (σ : ho_H) (a0 : Nat) (x1 : Int32) (x2 : Int32) : Option (ho_H × Int32) :=
  (ho_p σ a0 6 12 (.int 0)).bind fun σ1 =>
  (f_Md_within G N σ1 x1 0 7).bind fun v2 =>
  if ¬ v2 = 0 then
  (f_Md_within G N σ1 x2 (-10000) 10000).bind fun v3 =>
  if ¬ v3 = 0 then
  (ho_gR σ1 a0 6 23).bind fun b4 =>
  (ho_ldI G σ1 b4 x1).bind fun v5 =>
  (ho_gR σ1 a0 6 23).bind fun b6 =>
  (ho_stI G σ1 b6 x1 x2).bind fun σ7 =>
  some (σ7, v5)
  else
  (ho_f σ1 a0 6).bind fun _ =>
  bd2 (ho_ck σ1 (f_Md_fail G N σ1 a0 2)) fun σ9 v10 =>
  some (σ9, v10)
  else
  (ho_f σ1 a0 6).bind fun _ =>
  bd2 (ho_ck σ1 (f_Md_fail G N σ1 a0 1)) fun σ12 v13 =>
  some (σ12, v13)
