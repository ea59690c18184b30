def f_Of_chain (G : ho_G) (N : Nat) (σ : ho_H) (a0 : Nat) (x1 : Int32) (x2 : Int32) (x3 : Int32) (x4 : Int32) (x5 : Int32) : Option (ho_H × (Nat ⊕ Int32)) :=
  (ho_gI σ a0 5 4).bind fun v1 =>
  if v1 < 8 then
  (ho_gR σ a0 5 3).bind fun b2 =>
  (ho_gI σ a0 5 4).bind fun v3 =>
  (ho_ldR G σ b2 3 v3).bind fun b4 =>
  (ho_f σ b4 2).bind fun _ =>
  (ho_cv σ (f_Kc_putTopKey G N σ b4 x1 x2 x3 x4 x5)).bind fun σ6 =>
  (ho_gR σ6 a0 5 1).bind fun b7 =>
  (ho_f σ6 b4 2).bind fun _ =>
  (ho_cv σ6 (f_Kc_fillDown G N σ6 b4 64 0 b7)).bind fun σ9 =>
  (ho_gI σ9 a0 5 4).bind fun v10 =>
  (ho_p σ9 a0 5 4 (.int (v10 + 1))).bind fun σ11 =>
  (ho_gI σ11 a0 5 4).bind fun v12 =>
  some (σ11, .inr (v12 - 1))
  else
  (ho_thr G σ).bind fun σ13 => some (σ13, .inl 0)
def f_Of_tick_j11 (G : ho_G) (N : Nat) (σ : ho_H)  : Option (ho_H × (Nat ⊕ Int32)) :=
  (ho_thr G σ).bind fun σ1 => some (σ1, .inl 1)
def f_Of_tick (G : ho_G) (N : Nat) (σ : ho_H) (a0 : Nat) (x1 : Int32) : Option (ho_H × (Nat ⊕ Int32)) :=
  if x1 < 1 then
  f_Of_tick_j11 G N σ 
  else
  if x1 ≤ 100000 then
  (ho_gR σ a0 5 0).bind fun b2 =>
  (ho_gR σ a0 5 0).bind fun b3 =>
  (ho_gI σ b3 0 3).bind fun v4 =>
  (ho_f σ b2 0).bind fun _ =>
  (f_Ck_intervalAt G N σ b2 (v4 + x1)).bind fun v6 =>
  if v6 ≤ 512 then
  (ho_gR σ a0 5 0).bind fun b7 =>
  (ho_gI σ b7 0 3).bind fun v8 =>
  (ho_p σ b7 0 3 (.int (v8 + x1))).bind fun σ9 =>
  (ho_gR σ9 a0 5 0).bind fun b10 =>
  (ho_gI σ9 b10 0 3).bind fun v11 =>
  some (σ9, .inr v11)
  else
  (ho_thr G σ).bind fun σ12 => some (σ12, .inl 0)
  else
  f_Of_tick_j11 G N σ 
def f_Of_load_j10 (G : ho_G) (N : Nat) (σ : ho_H)  : Option (ho_H × (Nat ⊕ Int32)) :=
  (ho_thr G σ).bind fun σ1 => some (σ1, .inl 2)
def f_Of_load (G : ho_G) (N : Nat) (σ : ho_H) (a0 : Nat) (x1 : Int32) (x2 : Int32) : Option (ho_H × (Nat ⊕ Int32)) :=
  if x1 < 0 then
  f_Of_load_j10 G N σ 
  else
  if x1 < 8 then
  (ho_gR σ a0 5 2).bind fun b2 =>
  (ho_ldI G σ b2 x1).bind fun v3 =>
  (ho_gR σ a0 5 2).bind fun b4 =>
  (ho_stI G σ b4 x1 x2).bind fun σ5 =>
  some (σ5, .inr v3)
  else
  f_Of_load_j10 G N σ 
def f_Of_digest_j10 (G : ho_G) (N : Nat) (σ : ho_H)  : Option (ho_H × (Nat ⊕ Int32)) :=
  (ho_thr G σ).bind fun σ1 => some (σ1, .inl 1)
def f_Of_digest_j28 (G : ho_G) (N : Nat) (σ : ho_H)  : Option (ho_H × (Nat ⊕ Int32)) :=
  (ho_thr G σ).bind fun σ2 => some (σ2, .inl 2)
def f_Of_digest_l45 (G : ho_G) (N : Nat) (a0 : Nat) (x1 : Int32) (x2 : Int32) : ho_H × Int32 → Option ((ho_H × Int32) ⊕ (ho_H)) := fun (σ, x3) =>
  if x1 ≤ x3 then
  some (.inr σ)
  else
  (ho_gR σ a0 5 1).bind fun b6 =>
  (ho_gR σ a0 5 2).bind fun b7 =>
  (f_Of_byteOf G N σ b7 x3).bind fun v8 =>
  (ho_f σ b6 1).bind fun _ =>
  (ho_cv σ (f_Sl_addByte G N σ b6 v8)).bind fun σ10 =>
  some (.inl (σ10, x3 + 1))
def f_Of_digest (G : ho_G) (N : Nat) (σ : ho_H) (a0 : Nat) (x1 : Int32) (x2 : Int32) : Option (ho_H × (Nat ⊕ Int32)) :=
  if x1 < 0 then
  f_Of_digest_j10 G N σ 
  else
  if x1 ≤ 32 then
  if x2 < 0 then
  f_Of_digest_j28 G N σ 
  else
  if x2 < 8 then
  (ho_gR σ a0 5 1).bind fun b3 =>
  (ho_f σ b3 1).bind fun _ =>
  (ho_cv σ (f_Sl_clear G N σ b3)).bind fun σ5 =>
  (ho_it (f_Of_digest_l45 G N a0 x1 x2) N (σ5, 0)).bind fun σ11 =>
  (ho_gR σ11 a0 5 1).bind fun b12 =>
  (ho_f σ11 b12 1).bind fun _ =>
  (ho_cv σ11 (f_Sl_finish G N σ11 b12)).bind fun σ14 =>
  (ho_gR σ14 a0 5 1).bind fun b15 =>
  (ho_gR σ14 b15 1 0).bind fun b16 =>
  (ho_ldI G σ14 b16 x2).bind fun v17 =>
  some (σ14, .inr v17)
  else
  f_Of_digest_j28 G N σ 
  else
  f_Of_digest_j10 G N σ 
def f_Of_send_j10 (G : ho_G) (N : Nat) (σ : ho_H)  : Option (ho_H × (Nat ⊕ Int32)) :=
  (ho_thr G σ).bind fun σ1 => some (σ1, .inl 1)
def f_Of_send_l87 (G : ho_G) (N : Nat) (a0 : Nat) (x1 : Int32) (a3 : Nat) : ho_H × Int32 → Option ((ho_H × Int32) ⊕ (ho_H)) := fun (σ, x4) =>
  if x1 ≤ x4 then
  some (.inr σ)
  else
  (ho_gR σ a3 3 0).bind fun b15 =>
  (ho_gR σ a0 5 2).bind fun b16 =>
  (f_Of_byteOf G N σ b16 x4).bind fun v17 =>
  (ho_stI G σ b15 (6 + x4) v17).bind fun σ18 =>
  some (.inl (σ18, x4 + 1))
def f_Of_send (G : ho_G) (N : Nat) (σ : ho_H) (a0 : Nat) (x1 : Int32) : Option (ho_H × (Nat ⊕ Int32)) :=
  if x1 < 0 then
  f_Of_send_j10 G N σ 
  else
  if x1 ≤ 32 then
  (ho_gR σ a0 5 0).bind fun b2 =>
  (ho_gR σ a0 5 0).bind fun b3 =>
  (ho_gI σ b3 0 3).bind fun v4 =>
  (ho_f σ b2 0).bind fun _ =>
  (f_Ck_intervalAt G N σ b2 v4).bind fun v6 =>
  (f_Of_chainOf G N σ v6).bind fun v7 =>
  (ho_gI σ a0 5 4).bind fun v8 =>
  if v7 < v8 then
  (ho_gR σ a0 5 5).bind fun b9 =>
  (ho_f σ b9 7).bind fun _ =>
  (f_Al_size G N σ b9).bind fun v11 =>
  if v11 < 200 then
  bd2 (ho_al G σ 1 (.inr (3, [.null]))) fun σ12 b13 =>
  (ho_cv σ12 (f_Pk_init1 G N σ12 b13 v6 0 x1)).bind fun σ14 =>
  (ho_it (f_Of_send_l87 G N a0 x1 b13) N (σ14, 0)).bind fun σ19 =>
  (ho_f σ19 a0 5).bind fun _ =>
  bd2 (ho_ck σ19 (f_Of_post G N σ19 a0 b13)) fun σ21 v22 =>
  some (σ21, .inr v22)
  else
  (ho_thr G σ).bind fun σ25 => some (σ25, .inl 3)
  else
  (ho_thr G σ).bind fun σ26 => some (σ26, .inl 0)
  else
  f_Of_send_j10 G N σ 
def f_Of_root (G : ho_G) (N : Nat) (σ : ho_H) (a0 : Nat) : Option (ho_H × (Nat ⊕ Int32)) :=
  (ho_gR σ a0 5 0).bind fun b1 =>
  (ho_gR σ a0 5 0).bind fun b2 =>
  (ho_gI σ b2 0 3).bind fun v3 =>
  (ho_f σ b1 0).bind fun _ =>
  (f_Ck_intervalAt G N σ b1 v3).bind fun v5 =>
  (f_Of_chainOf G N σ v5).bind fun v6 =>
  (ho_gI σ a0 5 4).bind fun v7 =>
  if (v6 + 1) < v7 then
  (ho_gR σ a0 5 5).bind fun b8 =>
  (ho_f σ b8 7).bind fun _ =>
  (f_Al_size G N σ b8).bind fun v10 =>
  if v10 < 200 then
  bd2 (ho_al G σ 1 (.inr (3, [.null]))) fun σ11 b12 =>
  (ho_cv σ11 (f_Pk_init1 G N σ11 b12 v5 1 20)).bind fun σ13 =>
  (ho_gR σ13 a0 5 3).bind fun b14 =>
  (ho_ldR G σ13 b14 3 (v6 + 1)).bind fun b15 =>
  (ho_gR σ13 b12 3 0).bind fun b16 =>
  (ho_f σ13 b15 2).bind fun _ =>
  (ho_cv σ13 (f_Kc_writeKey G N σ13 b15 0 b16 6)).bind fun σ18 =>
  (ho_f σ18 a0 5).bind fun _ =>
  bd2 (ho_ck σ18 (f_Of_post G N σ18 a0 b12)) fun σ20 v21 =>
  some (σ20, .inr v21)
  else
  (ho_thr G σ).bind fun σ22 => some (σ22, .inl 3)
  else
  (ho_thr G σ).bind fun σ23 => some (σ23, .inl 0)
def f_Of_packet (G : ho_G) (N : Nat) (σ : ho_H) (a0 : Nat) (x1 : Int32) (x2 : Int32) : Option (ho_H × (Nat ⊕ Int32)) :=
  (ho_f σ a0 5).bind fun _ =>
  (f_Of_hasPacketByte G N σ a0 x1 x2).bind fun v2 =>
  if ¬ v2 = 0 then
  (ho_gR σ a0 5 5).bind fun b3 =>
  (ho_f σ b3 7).bind fun _ =>
  (f_Al_get G N σ b3 x1).bind fun b5 =>
  (ho_f σ b5 3).bind fun _ =>
  (ho_gR σ b5 3 0).bind fun b7 =>
  (ho_ldI G σ b7 x2).bind fun v8 =>
  some (σ, .inr v8)
  else
  (ho_thr G σ).bind fun σ9 => some (σ9, .inl 2)
def f_Of_key_j21 (G : ho_G) (N : Nat) (σ : ho_H)  : Option (ho_H × (Nat ⊕ Int32)) :=
  (ho_thr G σ).bind fun σ1 => some (σ1, .inl 2)
def f_Of_key_j64 (G : ho_G) (N : Nat) (σ : ho_H) (a0 : Nat) (x2 : Int32) (x3 : Int32) (x4 : Int32) : Option (ho_H × (Nat ⊕ Int32)) :=
  (ho_gI σ a0 5 4).bind fun v3 =>
  if x3 < v3 then
  (ho_gR σ a0 5 3).bind fun b4 =>
  (ho_ldR G σ b4 3 x3).bind fun b5 =>
  (ho_f σ b5 2).bind fun _ =>
  (f_Kc_byteAt G N σ b5 x4 x2).bind fun v7 =>
  some (σ, .inr v7)
  else
  (ho_thr G σ).bind fun σ8 => some (σ8, .inl 0)
def f_Of_key (G : ho_G) (N : Nat) (σ : ho_H) (a0 : Nat) (x1 : Int32) (x2 : Int32) : Option (ho_H × (Nat ⊕ Int32)) :=
  if x1 < 0 then
  f_Of_key_j21 G N σ 
  else
  if 512 < x1 then
  f_Of_key_j21 G N σ 
  else
  if x2 < 0 then
  f_Of_key_j21 G N σ 
  else
  if x2 < 20 then
  (ho_gI σ a0 5 4).bind fun v2 =>
  if (x1 / 64) < v2 then
  f_Of_key_j64 G N σ a0 x2 (x1 / 64) (ho_rm x1 64)
  else
  if (x1 / 64) ≤ 0 then
  f_Of_key_j64 G N σ a0 x2 (x1 / 64) (ho_rm x1 64)
  else
  if ¬ (ho_rm x1 64) = 0 then
  f_Of_key_j64 G N σ a0 x2 (x1 / 64) (ho_rm x1 64)
  else
  f_Of_key_j64 G N σ a0 x2 ((x1 / 64) + (-1)) 64
  else
  f_Of_key_j21 G N σ 
def f_Of_join_j19 (G : ho_G) (N : Nat) (σ : ho_H)  : Option (ho_H × (Nat ⊕ Unit)) :=
  (ho_thr G σ).bind fun σ3 => some (σ3, .inl 2)
def f_Of_join (G : ho_G) (N : Nat) (σ : ho_H) (a0 : Nat) (x1 : Int32) (x2 : Int32) : Option (ho_H × (Nat ⊕ Unit)) :=
  (ho_f σ a0 5).bind fun _ =>
  (f_Of_isReceiver G N σ a0 x1).bind fun v2 =>
  if v2 = 0 then
  f_Of_join_j19 G N σ 
  else
  if x2 < 0 then
  f_Of_join_j19 G N σ 
  else
  if x2 < 512 then
  (ho_gI σ a0 5 4).bind fun v4 =>
  if (x2 / 64) < v4 then
  (ho_gR σ a0 5 6).bind fun b5 =>
  (ho_ldR G σ b5 4 x1).bind fun b6 =>
  (ho_f σ b6 4).bind fun _ =>
  (ho_cv σ (f_Rc_beginAnew G N σ b6)).bind fun σ8 =>
  (ho_gR σ8 a0 5 6).bind fun b9 =>
  (ho_ldR G σ8 b9 4 x1).bind fun b10 =>
  (ho_gR σ8 b10 4 2).bind fun b11 =>
  (ho_ldR G σ8 b11 3 (x2 / 64)).bind fun b12 =>
  (ho_gR σ8 a0 5 3).bind fun b13 =>
  (ho_ldR G σ8 b13 3 (x2 / 64)).bind fun b14 =>
  (ho_f σ8 b12 2).bind fun _ =>
  (ho_cv σ8 (f_Kc_learnFrom G N σ8 b12 b14 (ho_rm x2 64))).bind fun σ16 =>
  some (σ16, .inr ())
  else
  (ho_thr G σ).bind fun σ17 => some (σ17, .inl 0)
  else
  f_Of_join_j19 G N σ 
def f_Of_drift_j30 (G : ho_G) (N : Nat) (σ : ho_H)  : Option (ho_H × (Nat ⊕ Int32)) :=
  (ho_thr G σ).bind fun σ3 => some (σ3, .inl 1)
def f_Of_drift (G : ho_G) (N : Nat) (σ : ho_H) (a0 : Nat) (x1 : Int32) (x2 : Int32) : Option (ho_H × (Nat ⊕ Int32)) :=
  (ho_f σ a0 5).bind fun _ =>
  (f_Of_isReceiver G N σ a0 x1).bind fun v2 =>
  if ¬ v2 = 0 then
  if x2 < (-10000) then
  f_Of_drift_j30 G N σ 
  else
  if x2 ≤ 10000 then
  (ho_gR σ a0 5 6).bind fun b4 =>
  (ho_ldR G σ b4 4 x1).bind fun b5 =>
  (ho_gI σ b5 4 7).bind fun v6 =>
  (ho_gR σ a0 5 6).bind fun b7 =>
  (ho_ldR G σ b7 4 x1).bind fun b8 =>
  (ho_p σ b8 4 7 (.int x2)).bind fun σ9 =>
  some (σ9, .inr v6)
  else
  f_Of_drift_j30 G N σ 
  else
  (ho_thr G σ).bind fun σ10 => some (σ10, .inl 2)
def f_Of_arrive_j17 (G : ho_G) (N : Nat) (σ : ho_H)  : Option (ho_H × (Nat ⊕ Int32)) :=
  (ho_thr G σ).bind fun σ3 => some (σ3, .inl 2)
def f_Of_arrive_j38 (G : ho_G) (N : Nat) (σ : ho_H)  : Option (ho_H × (Nat ⊕ Int32)) :=
  (ho_thr G σ).bind fun σ6 => some (σ6, .inl 1)
def f_Of_arrive (G : ho_G) (N : Nat) (σ : ho_H) (a0 : Nat) (x1 : Int32) (x2 : Int32) (x3 : Int32) (x4 : Int32) : Option (ho_H × (Nat ⊕ Int32)) :=
  (ho_f σ a0 5).bind fun _ =>
  (f_Of_isReceiver G N σ a0 x1).bind fun v2 =>
  if v2 = 0 then
  f_Of_arrive_j17 G N σ 
  else
  (ho_f σ a0 5).bind fun _ =>
  (f_Of_hasPacketByte G N σ a0 x2 x3).bind fun v5 =>
  if ¬ v5 = 0 then
  if x4 < 0 then
  f_Of_arrive_j38 G N σ 
  else
  if x4 ≤ 255 then
  bd2 (ho_al G σ 1 (.inr (3, [.null]))) fun σ7 b8 =>
  (ho_gR σ7 a0 5 5).bind fun b9 =>
  (ho_f σ7 b9 7).bind fun _ =>
  (f_Al_get G N σ7 b9 x2).bind fun b11 =>
  (ho_f σ7 b11 3).bind fun _ =>
  (ho_cv σ7 (f_Pk_init2 G N σ7 b8 b11)).bind fun σ13 =>
  (ho_gR σ13 b8 3 0).bind fun b14 =>
  (ho_ldI G σ13 b14 x3).bind fun v15 =>
  (ho_stI G σ13 b14 x3 (v15 ^^^ x4)).bind fun σ16 =>
  (ho_gR σ16 a0 5 6).bind fun b17 =>
  (ho_ldR G σ16 b17 4 x1).bind fun b18 =>
  (ho_f σ16 b18 4).bind fun _ =>
  bd2 (ho_ck σ16 (f_Rc_take G N σ16 b18 b8)) fun σ20 v21 =>
  (ho_gR σ20 a0 5 6).bind fun b22 =>
  (ho_ldR G σ20 b22 4 x1).bind fun b23 =>
  (ho_gR σ20 b23 4 5).bind fun b24 =>
  (ho_ldI G σ20 b24 v21).bind fun v25 =>
  (ho_stI G σ20 b24 v21 (v25 + 1)).bind fun σ26 =>
  some (σ26, .inr v21)
  else
  f_Of_arrive_j38 G N σ 
  else
  f_Of_arrive_j17 G N σ 
def f_Of_receiver_j18 (G : ho_G) (N : Nat) (σ : ho_H)  : Option (ho_H × (Nat ⊕ Int32)) :=
  (ho_thr G σ).bind fun σ3 => some (σ3, .inl 2)
def f_Of_receiver (G : ho_G) (N : Nat) (σ : ho_H) (a0 : Nat) (x1 : Int32) (x2 : Int32) : Option (ho_H × (Nat ⊕ Int32)) :=
  (ho_f σ a0 5).bind fun _ =>
  (f_Of_isReceiver G N σ a0 x1).bind fun v2 =>
  if v2 = 0 then
  f_Of_receiver_j18 G N σ 
  else
  if x2 < 0 then
  f_Of_receiver_j18 G N σ 
  else
  if x2 ≤ 9 then
  (ho_gR σ a0 5 6).bind fun b4 =>
  (ho_ldR G σ b4 4 x1).bind fun b5 =>
  if x2 = 7 then
  (ho_gI σ b5 4 6).bind fun v7 =>
  some (σ, .inr v7)
  else
  if x2 = 8 then
  (ho_gR σ b5 4 3).bind fun b8 =>
  (ho_f σ b8 7).bind fun _ =>
  (f_Al_size G N σ b8).bind fun v10 =>
  some (σ, .inr v10)
  else
  if x2 = 9 then
  (ho_f σ b5 4).bind fun _ =>
  (f_Rc_latestInterval G N σ b5).bind fun v12 =>
  some (σ, .inr v12)
  else
  (ho_gR σ b5 4 5).bind fun b13 =>
  (ho_ldI G σ b13 x2).bind fun v14 =>
  some (σ, .inr v14)
  else
  f_Of_receiver_j18 G N σ 
def f_Of_released_j18 (G : ho_G) (N : Nat) (σ : ho_H)  : Option (ho_H × (Nat ⊕ Int32)) :=
  (ho_thr G σ).bind fun σ3 => some (σ3, .inl 2)
def f_Of_released (G : ho_G) (N : Nat) (σ : ho_H) (a0 : Nat) (x1 : Int32) (x2 : Int32) (x3 : Int32) : Option (ho_H × (Nat ⊕ Int32)) :=
  (ho_f σ a0 5).bind fun _ =>
  (f_Of_isKept G N σ a0 x1 x2).bind fun v2 =>
  if v2 = 0 then
  f_Of_released_j18 G N σ 
  else
  if x3 < 0 then
  f_Of_released_j18 G N σ 
  else
  if x3 ≤ 2 then
  (ho_gR σ a0 5 6).bind fun b4 =>
  (ho_ldR G σ b4 4 x1).bind fun b5 =>
  (ho_gR σ b5 4 4).bind fun b6 =>
  (ho_f σ b6 7).bind fun _ =>
  (f_Al_get G N σ b6 x2).bind fun b8 =>
  (ho_f σ b8 3).bind fun _ =>
  if x3 = 0 then
  (ho_f σ b8 3).bind fun _ =>
  (f_Pk_interval G N σ b8).bind fun v12 =>
  some (σ, .inr v12)
  else
  if x3 = 1 then
  (ho_f σ b8 3).bind fun _ =>
  (f_Pk_kind G N σ b8).bind fun v14 =>
  some (σ, .inr v14)
  else
  (ho_f σ b8 3).bind fun _ =>
  (f_Pk_size G N σ b8).bind fun v16 =>
  some (σ, .inr v16)
  else
  f_Of_released_j18 G N σ 
def f_Of_releasedByte_j36 (G : ho_G) (N : Nat) (σ : ho_H)  : Option (ho_H × (Nat ⊕ Int32)) :=
  (ho_thr G σ).bind fun σ3 => some (σ3, .inl 2)
def f_Of_releasedByte (G : ho_G) (N : Nat) (σ : ho_H) (a0 : Nat) (x1 : Int32) (x2 : Int32) (x3 : Int32) : Option (ho_H × (Nat ⊕ Int32)) :=
  (ho_f σ a0 5).bind fun _ =>
  (f_Of_isKept G N σ a0 x1 x2).bind fun v2 =>
  if v2 = 0 then
  f_Of_releasedByte_j36 G N σ 
  else
  if x3 < 0 then
  f_Of_releasedByte_j36 G N σ 
  else
  (ho_gR σ a0 5 6).bind fun b4 =>
  (ho_ldR G σ b4 4 x1).bind fun b5 =>
  (ho_gR σ b5 4 4).bind fun b6 =>
  (ho_f σ b6 7).bind fun _ =>
  (f_Al_get G N σ b6 x2).bind fun b8 =>
  (ho_f σ b8 3).bind fun _ =>
  (ho_f σ b8 3).bind fun _ =>
  (f_Pk_size G N σ b8).bind fun v11 =>
  if x3 < v11 then
  (ho_gR σ a0 5 6).bind fun b12 =>
  (ho_ldR G σ b12 4 x1).bind fun b13 =>
  (ho_gR σ b13 4 4).bind fun b14 =>
  (ho_f σ b14 7).bind fun _ =>
  (f_Al_get G N σ b14 x2).bind fun b16 =>
  (ho_f σ b16 3).bind fun _ =>
  (ho_gR σ b16 3 0).bind fun b18 =>
  (ho_ldI G σ b18 (6 + x3)).bind fun v19 =>
  some (σ, .inr v19)
  else
  f_Of_releasedByte_j36 G N σ 
