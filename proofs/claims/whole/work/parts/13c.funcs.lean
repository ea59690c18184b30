def f_Rc_init_l55 (G : ho_G) (N : Nat) (a0 : Nat) : ho_H × Int32 → Option ((ho_H × Int32) ⊕ (ho_H)) := fun (σ, x3) =>
  if 8 ≤ x3 then
  some (.inr σ)
  else
  (ho_gR σ a0 4 2).bind fun b17 =>
  bd2 (ho_al G σ 3 (.inr (2, [.null, .int 0, .int 0]))) fun σ18 b19 =>
  (ho_cv σ18 (f_Kc_init G N σ18 b19)).bind fun σ20 =>
  (ho_f σ20 b19 2).bind fun _ =>
  (ho_stR G σ20 b17 3 x3 (some b19)).bind fun σ21 =>
  some (.inl (σ21, x3 + 1))
def f_Rc_init (G : ho_G) (N : Nat) (σ : ho_H) (a0 : Nat) (a1 : Nat) (a2 : Nat) : Option (ho_H) :=
  bd2 (ho_nwR G σ 3 8) fun σ1 b2 =>
  (ho_p σ1 a0 4 2 (.ref b2)).bind fun σ3 =>
  bd2 (ho_al G σ3 3 (.inr (7, [.null, .int 0, .int 0]))) fun σ4 b5 =>
  (ho_cv σ4 (f_Al_init G N σ4 b5)).bind fun σ6 =>
  (ho_p σ6 a0 4 3 (.ref b5)).bind fun σ7 =>
  bd2 (ho_al G σ7 3 (.inr (7, [.null, .int 0, .int 0]))) fun σ8 b9 =>
  (ho_cv σ8 (f_Al_init G N σ8 b9)).bind fun σ10 =>
  (ho_p σ10 a0 4 4 (.ref b9)).bind fun σ11 =>
  bd2 (ho_nwI G σ11 7) fun σ12 b13 =>
  (ho_p σ12 a0 4 5 (.ref b13)).bind fun σ14 =>
  (ho_p σ14 a0 4 0 (.ref a1)).bind fun σ15 =>
  (ho_p σ15 a0 4 1 (.ref a2)).bind fun σ16 =>
  (ho_it (f_Rc_init_l55 G N a0) N (σ16, 0)).bind fun σ23 =>
  some σ23
def f_Of_init_l70 (G : ho_G) (N : Nat) (a0 : Nat) : ho_H × Int32 → Option ((ho_H × Int32) ⊕ (ho_H)) := fun (σ, x4) =>
  if 8 ≤ x4 then
  some (.inr σ)
  else
  (ho_gR σ a0 5 3).bind fun b18 =>
  bd2 (ho_al G σ 3 (.inr (2, [.null, .int 0, .int 0]))) fun σ19 b20 =>
  (ho_cv σ19 (f_Kc_init G N σ19 b20)).bind fun σ21 =>
  (ho_f σ21 b20 2).bind fun _ =>
  (ho_stR G σ21 b18 3 x4 (some b20)).bind fun σ22 =>
  some (.inl (σ22, x4 + 1))
def f_Of_init_l120 (G : ho_G) (N : Nat) (a0 : Nat) : ho_H × Int32 → Option ((ho_H × Int32) ⊕ (ho_H)) := fun (σ, x4) =>
  if 8 ≤ x4 then
  some (.inr σ)
  else
  (ho_gR σ a0 5 6).bind fun b32 =>
  bd2 (ho_al G σ 8 (.inr (4, [.null, .null, .null, .null, .null, .null, .int 0, .int 0]))) fun σ33 b34 =>
  (ho_gR σ33 a0 5 0).bind fun b35 =>
  (ho_gR σ33 a0 5 1).bind fun b36 =>
  (ho_cv σ33 (f_Rc_init G N σ33 b34 b35 b36)).bind fun σ37 =>
  (ho_f σ37 b34 4).bind fun _ =>
  (ho_stR G σ37 b32 4 x4 (some b34)).bind fun σ38 =>
  some (.inl (σ38, x4 + 1))
def f_Of_init (G : ho_G) (N : Nat) (σ : ho_H) (a0 : Nat) (x1 : Int32) (x2 : Int32) (x3 : Int32) : Option (ho_H) :=
  bd2 (ho_al G σ 4 (.inr (0, [.int 0, .int 0, .int 0, .int 0]))) fun σ1 b2 =>
  (f_Mt_floorMod G N σ1 x1 8).bind fun v3 =>
  (f_Mt_floorMod G N σ1 x2 1000).bind fun v4 =>
  (f_Mt_floorMod G N σ1 x3 10001).bind fun v5 =>
  (ho_cv σ1 (f_Ck_init G N σ1 b2 (1 + v3) (1 + v4) v5)).bind fun σ6 =>
  (ho_p σ6 a0 5 0 (.ref b2)).bind fun σ7 =>
  bd2 (ho_al G σ7 5 (.inr (1, [.null, .null, .null, .int 0, .null]))) fun σ8 b9 =>
  (ho_cv σ8 (f_Sl_init G N σ8 b9)).bind fun σ10 =>
  (ho_p σ10 a0 5 1 (.ref b9)).bind fun σ11 =>
  bd2 (ho_nwI G σ11 8) fun σ12 b13 =>
  (ho_p σ12 a0 5 2 (.ref b13)).bind fun σ14 =>
  bd2 (ho_nwR G σ14 3 8) fun σ15 b16 =>
  (ho_p σ15 a0 5 3 (.ref b16)).bind fun σ17 =>
  (ho_it (f_Of_init_l70 G N a0) N (σ17, 0)).bind fun σ24 =>
  bd2 (ho_al G σ24 3 (.inr (7, [.null, .int 0, .int 0]))) fun σ25 b26 =>
  (ho_cv σ25 (f_Al_init G N σ25 b26)).bind fun σ27 =>
  (ho_p σ27 a0 5 5 (.ref b26)).bind fun σ28 =>
  bd2 (ho_nwR G σ28 4 8) fun σ29 b30 =>
  (ho_p σ29 a0 5 6 (.ref b30)).bind fun σ31 =>
  (ho_it (f_Of_init_l120 G N a0) N (σ31, 0)).bind fun σ40 =>
  some σ40
def f_Of_count (G : ho_G) (N : Nat) (σ : ho_H) (a0 : Nat) (x1 : Int32) : Option (Int32) :=
  if x1 = 0 then
  (ho_gR σ a0 5 0).bind fun b2 =>
  (ho_gI σ b2 0 3).bind fun v3 =>
  some v3
  else
  if x1 = 1 then
  (ho_gR σ a0 5 0).bind fun b4 =>
  (ho_gR σ a0 5 0).bind fun b5 =>
  (ho_gI σ b5 0 3).bind fun v6 =>
  (ho_f σ b4 0).bind fun _ =>
  (f_Ck_intervalAt G N σ b4 v6).bind fun v8 =>
  some v8
  else
  if x1 = 2 then
  (ho_gI σ a0 5 4).bind fun v9 =>
  some v9
  else
  if x1 = 3 then
  (ho_gR σ a0 5 5).bind fun b10 =>
  (ho_f σ b10 7).bind fun _ =>
  (f_Al_size G N σ b10).bind fun v12 =>
  some v12
  else
  some (-1)
def f_Of_post_j76 (G : ho_G) (N : Nat) (σ : ho_H) (a0 : Nat) (a1 : Nat) : Option (ho_H × Int32) :=
  (ho_gR σ a0 5 5).bind fun b16 =>
  (ho_f σ b16 7).bind fun _ =>
  bd2 (ho_ck σ (f_Al_add1 G N σ b16 a1)) fun σ18 v19 =>
  (ho_gR σ18 a0 5 5).bind fun b20 =>
  (ho_f σ18 b20 7).bind fun _ =>
  (f_Al_size G N σ18 b20).bind fun v22 =>
  some (σ18, v22 - 1)
def f_Of_post (G : ho_G) (N : Nat) (σ : ho_H) (a0 : Nat) (a1 : Nat) : Option (ho_H × Int32) :=
  (ho_f σ a1 3).bind fun _ =>
  (f_Pk_interval G N σ a1).bind fun v2 =>
  (ho_gR σ a0 5 3).bind fun b3 =>
  (f_Of_chainOf G N σ v2).bind fun v4 =>
  (ho_ldR G σ b3 3 v4).bind fun b5 =>
  (f_Of_numberInChain G N σ v2).bind fun v6 =>
  (ho_gR σ a0 5 1).bind fun b7 =>
  (ho_f σ b5 2).bind fun _ =>
  (ho_cv σ (f_Kc_sealPacket G N σ b5 v6 a1 b7)).bind fun σ9 =>
  (ho_gR σ9 a0 5 1).bind fun b10 =>
  (ho_gR σ9 b10 1 0).bind fun b11 =>
  (ho_f σ9 a1 3).bind fun _ =>
  (ho_cv σ9 (f_Pk_writeCode G N σ9 a1 b11)).bind fun σ13 =>
  (ho_gR σ13 a0 5 0).bind fun b14 =>
  (ho_gI σ13 b14 0 0).bind fun v15 =>
  if (v2 - v15) < 1 then
  f_Of_post_j76 G N σ13 a0 a1
  else
  (ho_gR σ13 a0 5 3).bind fun b23 =>
  (f_Of_chainOf G N σ13 (v2 - v15)).bind fun v24 =>
  (ho_ldR G σ13 b23 3 v24).bind fun b25 =>
  (f_Of_numberInChain G N σ13 (v2 - v15)).bind fun v26 =>
  (ho_gR σ13 a1 3 0).bind fun b27 =>
  (ho_f σ13 a1 3).bind fun _ =>
  (f_Pk_shownAt G N σ13 a1).bind fun v29 =>
  (ho_f σ13 b25 2).bind fun _ =>
  (ho_cv σ13 (f_Kc_writeKey G N σ13 b25 v26 b27 v29)).bind fun σ31 =>
  f_Of_post_j76 G N σ31 a0 a1
def f_Of_hasPacketByte_j43 (G : ho_G) (N : Nat) (σ : ho_H) (y0 : Int32) : Option (Int32) :=
  (ho_bz y0).bind fun _ => some y0
def f_Of_hasPacketByte_j42 (G : ho_G) (N : Nat) (σ : ho_H)  : Option (Int32) :=
  f_Of_hasPacketByte_j43 G N σ 0
def f_Of_hasPacketByte (G : ho_G) (N : Nat) (σ : ho_H) (a0 : Nat) (x1 : Int32) (x2 : Int32) : Option (Int32) :=
  if x1 < 0 then
  f_Of_hasPacketByte_j42 G N σ 
  else
  (ho_gR σ a0 5 5).bind fun b1 =>
  (ho_f σ b1 7).bind fun _ =>
  (f_Al_size G N σ b1).bind fun v3 =>
  if v3 ≤ x1 then
  f_Of_hasPacketByte_j42 G N σ 
  else
  if x2 < 0 then
  f_Of_hasPacketByte_j42 G N σ 
  else
  (ho_gR σ a0 5 5).bind fun b4 =>
  (ho_f σ b4 7).bind fun _ =>
  (f_Al_get G N σ b4 x1).bind fun b6 =>
  (ho_f σ b6 3).bind fun _ =>
  (ho_gR σ b6 3 0).bind fun b8 =>
  (ho_lnI G σ b8).bind fun v9 =>
  if v9 ≤ x2 then
  f_Of_hasPacketByte_j42 G N σ 
  else
  f_Of_hasPacketByte_j43 G N σ 1
def f_Of_isKept_j33 (G : ho_G) (N : Nat) (σ : ho_H) (y0 : Int32) : Option (Int32) :=
  (ho_bz y0).bind fun _ => some y0
def f_Of_isKept_j32 (G : ho_G) (N : Nat) (σ : ho_H)  : Option (Int32) :=
  f_Of_isKept_j33 G N σ 0
def f_Of_isKept (G : ho_G) (N : Nat) (σ : ho_H) (a0 : Nat) (x1 : Int32) (x2 : Int32) : Option (Int32) :=
  (ho_f σ a0 5).bind fun _ =>
  (f_Of_isReceiver G N σ a0 x1).bind fun v2 =>
  if v2 = 0 then
  f_Of_isKept_j32 G N σ 
  else
  if x2 < 0 then
  f_Of_isKept_j32 G N σ 
  else
  (ho_gR σ a0 5 6).bind fun b3 =>
  (ho_ldR G σ b3 4 x1).bind fun b4 =>
  (ho_gR σ b4 4 4).bind fun b5 =>
  (ho_f σ b5 7).bind fun _ =>
  (f_Al_size G N σ b5).bind fun v7 =>
  if v7 ≤ x2 then
  f_Of_isKept_j32 G N σ 
  else
  f_Of_isKept_j33 G N σ 1
def f_Rc_beginAnew_l2 (G : ho_G) (N : Nat) (a0 : Nat) : ho_H × Int32 → Option ((ho_H × Int32) ⊕ (ho_H)) := fun (σ, x1) =>
  if 8 ≤ x1 then
  some (.inr σ)
  else
  (ho_gR σ a0 4 2).bind fun b1 =>
  (ho_ldR G σ b1 3 x1).bind fun b2 =>
  (ho_f σ b2 2).bind fun _ =>
  (ho_cv σ (f_Kc_forget G N σ b2)).bind fun σ4 =>
  some (.inl (σ4, x1 + 1))
def f_Rc_beginAnew (G : ho_G) (N : Nat) (σ : ho_H) (a0 : Nat) : Option (ho_H) :=
  (ho_it (f_Rc_beginAnew_l2 G N a0) N (σ, 0)).bind fun σ5 =>
  (ho_gR σ5 a0 4 3).bind fun b6 =>
  (ho_f σ5 b6 7).bind fun _ =>
  (ho_cv σ5 (f_Al_clear G N σ5 b6)).bind fun σ8 =>
  (ho_gR σ8 a0 4 4).bind fun b9 =>
  (ho_f σ8 b9 7).bind fun _ =>
  (ho_cv σ8 (f_Al_clear G N σ8 b9)).bind fun σ11 =>
  (ho_gR σ11 a0 4 5).bind fun b12 =>
  (ho_cv σ11 (f_Ar_fill G N σ11 b12 0)).bind fun σ13 =>
  (ho_p σ13 a0 4 6 (.int 0)).bind fun σ14 =>
  some σ14
def f_Rc_latestInterval_l3 (G : ho_G) (N : Nat) (σ : ho_H) (a0 : Nat) : Int32 → Option ((Int32) ⊕ ((Unit) ⊕ (Int32))) := fun x1 =>
  if x1 < 0 then
  some (.inr (.inl ()))
  else
  (ho_gR σ a0 4 2).bind fun b1 =>
  (ho_ldR G σ b1 3 x1).bind fun b2 =>
  (ho_f σ b2 2).bind fun _ =>
  (f_Kc_isKnown G N σ b2).bind fun v4 =>
  if v4 = 0 then
  some (.inl (x1 + (-1)))
  else
  (ho_gR σ a0 4 2).bind fun b5 =>
  (ho_ldR G σ b5 3 x1).bind fun b6 =>
  (ho_gI σ b6 2 2).bind fun v7 =>
  some (.inr (.inr ((x1 * 64) + v7)))
def f_Rc_latestInterval (G : ho_G) (N : Nat) (σ : ho_H) (a0 : Nat) : Option (Int32) :=
  (ho_it (f_Rc_latestInterval_l3 G N σ a0) N 7).bind (sm_e (fun _ =>
  some (-1)) (fun z => some z))
def f_Rc_takeShownKey_j52 (G : ho_G) (N : Nat) (σ : ho_H)  : Option (ho_H × Int32) :=
  some (σ, 1)
def f_Rc_takeShownKey (G : ho_G) (N : Nat) (σ : ho_H) (a0 : Nat) (a1 : Nat) : Option (ho_H × Int32) :=
  (ho_f σ a1 3).bind fun _ =>
  (f_Pk_interval G N σ a1).bind fun v2 =>
  (ho_gR σ a0 4 0).bind fun b3 =>
  (ho_gI σ b3 0 0).bind fun v4 =>
  if 1 ≤ (v2 - v4) then
  (ho_gR σ a0 4 2).bind fun b5 =>
  (f_Of_chainOf G N σ (v2 - v4)).bind fun v6 =>
  (ho_ldR G σ b5 3 v6).bind fun b7 =>
  (f_Of_numberInChain G N σ (v2 - v4)).bind fun v8 =>
  (ho_f σ b7 2).bind fun _ =>
  (f_Kc_isKnown G N σ b7).bind fun v10 =>
  if v10 = 0 then
  f_Rc_takeShownKey_j52 G N σ 
  else
  (ho_gI σ b7 2 1).bind fun v11 =>
  if v11 ≤ v8 then
  (ho_gI σ b7 2 2).bind fun v12 =>
  if v12 < v8 then
  (ho_gR σ a1 3 0).bind fun b13 =>
  (ho_f σ a1 3).bind fun _ =>
  (f_Pk_shownAt G N σ a1).bind fun v15 =>
  (ho_f σ b7 2).bind fun _ =>
  (ho_cv σ (f_Kc_readKey G N σ b7 v8 b13 v15)).bind fun σ17 =>
  (ho_gI σ17 b7 2 2).bind fun v18 =>
  (ho_gR σ17 a0 4 1).bind fun b19 =>
  (ho_f σ17 b7 2).bind fun _ =>
  (ho_cv σ17 (f_Kc_fillDown G N σ17 b7 v8 (v18 + 1) b19)).bind fun σ21 =>
  (ho_gR σ21 a0 4 1).bind fun b22 =>
  (ho_f σ21 b7 2).bind fun _ =>
  bd2 (ho_ck σ21 (f_Kc_raiseTo G N σ21 b7 v8 b22)) fun σ24 v25 =>
  (ho_bz v25).bind fun _ => some (σ24, v25)
  else
  (ho_gR σ a1 3 0).bind fun b26 =>
  (ho_f σ a1 3).bind fun _ =>
  (f_Pk_shownAt G N σ a1).bind fun v28 =>
  (ho_f σ b7 2).bind fun _ =>
  (f_Kc_isKey G N σ b7 v8 b26 v28).bind fun v30 =>
  (ho_bz v30).bind fun _ => some (σ, v30)
  else
  f_Rc_takeShownKey_j52 G N σ 
  else
  some (σ, 1)
def f_Rc_hasKeyFor_j24 (G : ho_G) (N : Nat) (σ : ho_H) (y0 : Int32) : Option (Int32) :=
  (ho_bz y0).bind fun _ => some y0
def f_Rc_hasKeyFor (G : ho_G) (N : Nat) (σ : ho_H) (a0 : Nat) (x1 : Int32) : Option (Int32) :=
  (ho_gR σ a0 4 2).bind fun b1 =>
  (f_Of_chainOf G N σ x1).bind fun v2 =>
  (ho_ldR G σ b1 3 v2).bind fun b3 =>
  (ho_gI σ b3 2 2).bind fun v4 =>
  (f_Of_numberInChain G N σ x1).bind fun v5 =>
  if v4 < v5 then
  f_Rc_hasKeyFor_j24 G N σ 0
  else
  f_Rc_hasKeyFor_j24 G N σ 1
def f_Rc_holdsTwinOf_l2 (G : ho_G) (N : Nat) (σ : ho_H) (a0 : Nat) (a1 : Nat) : Int32 → Option ((Int32) ⊕ ((Unit) ⊕ (Int32))) := fun x2 =>
  (ho_gR σ a0 4 3).bind fun b1 =>
  (ho_f σ b1 7).bind fun _ =>
  (f_Al_size G N σ b1).bind fun v3 =>
  if v3 ≤ x2 then
  some (.inr (.inl ()))
  else
  (ho_gR σ a0 4 3).bind fun b4 =>
  (ho_f σ b4 7).bind fun _ =>
  (f_Al_get G N σ b4 x2).bind fun b6 =>
  (ho_f σ b6 3).bind fun _ =>
  (ho_f σ b6 3).bind fun _ =>
  (f_Pk_isTwinOf G N σ b6 a1).bind fun v9 =>
  if v9 = 0 then
  some (.inl (x2 + 1))
  else
  some (.inr (.inr 1))
def f_Rc_holdsTwinOf (G : ho_G) (N : Nat) (σ : ho_H) (a0 : Nat) (a1 : Nat) : Option (Int32) :=
  (ho_it (f_Rc_holdsTwinOf_l2 G N σ a0 a1) N 0).bind (sm_e (fun _ =>
  some 0) (fun z => some z))
def f_Rc_nextToRelease_j55_in8 (G : ho_G) (N : Nat) (σ : ho_H) (a0 : Nat) (x1 : Int32) (x2 : Int32) (x3 : Int32) : Option ((Int32 × Int32 × Int32) ⊕ (Int32)) :=
  some (.inl (x1, x2, x3 + 1))
def f_Rc_nextToRelease_l8 (G : ho_G) (N : Nat) (σ : ho_H) (a0 : Nat) : Int32 × Int32 × Int32 → Option ((Int32 × Int32 × Int32) ⊕ (Int32)) := fun (x1, x2, x3) =>
  (ho_gR σ a0 4 3).bind fun b1 =>
  (ho_f σ b1 7).bind fun _ =>
  (f_Al_size G N σ b1).bind fun v3 =>
  if v3 ≤ x3 then
  some (.inr x1)
  else
  (ho_gR σ a0 4 3).bind fun b4 =>
  (ho_f σ b4 7).bind fun _ =>
  (f_Al_get G N σ b4 x3).bind fun b6 =>
  (ho_f σ b6 3).bind fun _ =>
  (ho_f σ b6 3).bind fun _ =>
  (f_Pk_interval G N σ b6).bind fun v9 =>
  if x2 ≤ v9 then
  f_Rc_nextToRelease_j55_in8 G N σ a0 x1 x2 x3
  else
  (ho_f σ a0 4).bind fun _ =>
  (f_Rc_hasKeyFor G N σ a0 v9).bind fun v11 =>
  if v11 = 0 then
  f_Rc_nextToRelease_j55_in8 G N σ a0 x1 x2 x3
  else
  f_Rc_nextToRelease_j55_in8 G N σ a0 x3 v9 x3
def f_Rc_nextToRelease (G : ho_G) (N : Nat) (σ : ho_H) (a0 : Nat) : Option (Int32) :=
  (ho_it (f_Rc_nextToRelease_l8 G N σ a0) N ((-1), 513, 0)).bind fun x12 =>
  some x12
def f_Rc_letGo_j82 (G : ho_G) (N : Nat) (σ : ho_H)  : Option (ho_H) :=
  some σ
def f_Rc_letGo_j31 (G : ho_G) (N : Nat) (σ : ho_H) (a0 : Nat) (a1 : Nat) : Option (ho_H) :=
  (ho_f σ a1 3).bind fun _ =>
  (f_Pk_interval G N σ a1).bind fun v7 =>
  (f_Of_chainOf G N σ v7).bind fun v8 =>
  (ho_f σ a1 3).bind fun _ =>
  (f_Pk_kind G N σ a1).bind fun v10 =>
  if ¬ v10 = 1 then
  f_Rc_letGo_j82 G N σ 
  else
  if 8 ≤ (v8 + 1) then
  f_Rc_letGo_j82 G N σ 
  else
  (ho_gR σ a0 4 2).bind fun b11 =>
  (ho_ldR G σ b11 3 (v8 + 1)).bind fun b12 =>
  (ho_f σ b12 2).bind fun _ =>
  (f_Kc_isKnown G N σ b12).bind fun v14 =>
  if ¬ v14 = 0 then
  f_Rc_letGo_j82 G N σ 
  else
  (ho_gR σ a0 4 2).bind fun b15 =>
  (ho_ldR G σ b15 3 (v8 + 1)).bind fun b16 =>
  (ho_gR σ a1 3 0).bind fun b17 =>
  (ho_f σ b16 2).bind fun _ =>
  (ho_cv σ (f_Kc_learnRoot G N σ b16 b17 6)).bind fun σ19 =>
  f_Rc_letGo_j82 G N σ19 
def f_Rc_letGo (G : ho_G) (N : Nat) (σ : ho_H) (a0 : Nat) (a1 : Nat) : Option (ho_H) :=
  (ho_gI σ a0 4 6).bind fun v1 =>
  (ho_p σ a0 4 6 (.int (v1 + 1))).bind fun σ2 =>
  (ho_gR σ2 a0 4 4).bind fun b3 =>
  (ho_f σ2 b3 7).bind fun _ =>
  (f_Al_size G N σ2 b3).bind fun v5 =>
  if 100 ≤ v5 then
  f_Rc_letGo_j31 G N σ2 a0 a1
  else
  (ho_gR σ2 a0 4 4).bind fun b20 =>
  (ho_f σ2 b20 7).bind fun _ =>
  bd2 (ho_ck σ2 (f_Al_add1 G N σ2 b20 a1)) fun σ22 v23 =>
  f_Rc_letGo_j31 G N σ22 a0 a1
def f_Rc_releaseAll_j93_in2 (G : ho_G) (N : Nat) (σ : ho_H) (a0 : Nat) (x1 : Int32) : Option ((ho_H × Int32) ⊕ ((ho_H) ⊕ (ho_H))) :=
  some (.inl (σ, x1 + 1))
def f_Rc_releaseAll_l2 (G : ho_G) (N : Nat) (a0 : Nat) : ho_H × Int32 → Option ((ho_H × Int32) ⊕ ((ho_H) ⊕ (ho_H))) := fun (σ, x1) =>
  if 16 ≤ x1 then
  some (.inr (.inl σ))
  else
  (ho_f σ a0 4).bind fun _ =>
  (f_Rc_nextToRelease G N σ a0).bind fun v2 =>
  if ¬ v2 = (-1) then
  (ho_gR σ a0 4 3).bind fun b3 =>
  (ho_f σ b3 7).bind fun _ =>
  bd2 (ho_ck σ (f_Al_remove G N σ b3 v2)) fun σ5 b6 =>
  (ho_f σ5 b6 3).bind fun _ =>
  (ho_f σ5 b6 3).bind fun _ =>
  (f_Pk_interval G N σ5 b6).bind fun v9 =>
  (ho_gR σ5 a0 4 2).bind fun b10 =>
  (f_Of_chainOf G N σ5 v9).bind fun v11 =>
  (ho_ldR G σ5 b10 3 v11).bind fun b12 =>
  (f_Of_numberInChain G N σ5 v9).bind fun v13 =>
  (ho_gR σ5 a0 4 1).bind fun b14 =>
  (ho_f σ5 b12 2).bind fun _ =>
  (ho_cv σ5 (f_Kc_sealPacket G N σ5 b12 v13 b6 b14)).bind fun σ16 =>
  (ho_gR σ16 a0 4 1).bind fun b17 =>
  (ho_gR σ16 b17 1 0).bind fun b18 =>
  (ho_f σ16 b6 3).bind fun _ =>
  (f_Pk_hasCode G N σ16 b6 b18).bind fun v20 =>
  if v20 = 0 then
  (ho_gR σ16 a0 4 5).bind fun b21 =>
  (ho_ldI G σ16 b21 6).bind fun v22 =>
  (ho_stI G σ16 b21 6 (v22 + 1)).bind fun σ23 =>
  f_Rc_releaseAll_j93_in2 G N σ23 a0 x1
  else
  (ho_f σ16 a0 4).bind fun _ =>
  (ho_cv σ16 (f_Rc_letGo G N σ16 a0 b6)).bind fun σ25 =>
  f_Rc_releaseAll_j93_in2 G N σ25 a0 x1
  else
  some (.inr (.inr σ))
def f_Rc_releaseAll (G : ho_G) (N : Nat) (σ : ho_H) (a0 : Nat) : Option (ho_H) :=
  (ho_it (f_Rc_releaseAll_l2 G N a0) N (σ, 0)).bind (sm_e (fun σ26 =>
  some σ26) (fun z => some z))
def f_Rc_take_j51 (G : ho_G) (N : Nat) (σ : ho_H)  : Option (ho_H × Int32) :=
  some (σ, 1)
def f_Rc_take (G : ho_G) (N : Nat) (σ : ho_H) (a0 : Nat) (a1 : Nat) : Option (ho_H × Int32) :=
  (ho_f σ a1 3).bind fun _ =>
  (f_Pk_isBroken G N σ a1).bind fun v2 =>
  if v2 = 0 then
  (ho_f σ a0 4).bind fun _ =>
  bd2 (ho_ck σ (f_Rc_takeShownKey G N σ a0 a1)) fun σ4 v5 =>
  if ¬ v5 = 0 then
  (ho_f σ4 a0 4).bind fun _ =>
  (ho_cv σ4 (f_Rc_releaseAll G N σ4 a0)).bind fun σ7 =>
  (ho_f σ7 a1 3).bind fun _ =>
  (f_Pk_interval G N σ7 a1).bind fun v9 =>
  (ho_gR σ7 a0 4 0).bind fun b10 =>
  (ho_gI σ7 a0 4 7).bind fun v11 =>
  (ho_f σ7 b10 0).bind fun _ =>
  (f_Ck_canHaveShown G N σ7 b10 v9 v11).bind fun v13 =>
  if ¬ v13 = 0 then
  f_Rc_take_j51 G N σ7 
  else
  (ho_f σ7 a0 4).bind fun _ =>
  (f_Rc_hasKeyFor G N σ7 a0 v9).bind fun v15 =>
  if v15 = 0 then
  (ho_f σ7 a0 4).bind fun _ =>
  (f_Rc_holdsTwinOf G N σ7 a0 a1).bind fun v17 =>
  if v17 = 0 then
  (ho_gR σ7 a0 4 3).bind fun b18 =>
  (ho_f σ7 b18 7).bind fun _ =>
  (f_Al_size G N σ7 b18).bind fun v20 =>
  if v20 < 16 then
  (ho_gR σ7 a0 4 3).bind fun b21 =>
  (ho_f σ7 b21 7).bind fun _ =>
  bd2 (ho_ck σ7 (f_Al_add1 G N σ7 b21 a1)) fun σ23 v24 =>
  some (σ23, 0)
  else
  some (σ7, 4)
  else
  some (σ7, 3)
  else
  f_Rc_take_j51 G N σ7 
  else
  some (σ4, 2)
  else
  some (σ, 5)
