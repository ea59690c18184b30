def f_Ck_init (G : ho_G) (N : Nat) (σ : ho_H) (a0 : Nat) (x1 : Int32) (x2 : Int32) (x3 : Int32) : Option (ho_H) :=
  (ho_p σ a0 0 0 (.int x1)).bind fun σ1 =>
  (ho_p σ1 a0 0 1 (.int x2)).bind fun σ2 =>
  (ho_p σ2 a0 0 2 (.int x3)).bind fun σ3 =>
  some σ3
def f_Sl_init (G : ho_G) (N : Nat) (σ : ho_H) (a0 : Nat) : Option (ho_H) :=
  bd2 (ho_nwI G σ 8) fun σ1 b2 =>
  (ho_p σ1 a0 1 0 (.ref b2)).bind fun σ3 =>
  bd2 (ho_nwI G σ3 8) fun σ4 b5 =>
  (ho_p σ4 a0 1 1 (.ref b5)).bind fun σ6 =>
  bd2 (ho_nwI G σ6 32) fun σ7 b8 =>
  (ho_p σ7 a0 1 2 (.ref b8)).bind fun σ9 =>
  bd2 (ho_nwI G σ9 64) fun σ10 b11 =>
  (ho_p σ10 a0 1 4 (.ref b11)).bind fun σ12 =>
  some σ12
def f_Kc_init (G : ho_G) (N : Nat) (σ : ho_H) (a0 : Nat) : Option (ho_H) :=
  bd2 (ho_nwI G σ 325) fun σ1 b2 =>
  (ho_p σ1 a0 2 0 (.ref b2)).bind fun σ3 =>
  (ho_p σ3 a0 2 1 (.int (-1))).bind fun σ4 =>
  (ho_p σ4 a0 2 2 (.int (-1))).bind fun σ5 =>
  some σ5
def f_Pk_init1 (G : ho_G) (N : Nat) (σ : ho_H) (a0 : Nat) (x1 : Int32) (x2 : Int32) (x3 : Int32) : Option (ho_H) :=
  bd2 (ho_nwI G σ (36 + x3)) fun σ1 b2 =>
  (ho_p σ1 a0 3 0 (.ref b2)).bind fun σ3 =>
  (ho_gR σ3 a0 3 0).bind fun b4 =>
  (ho_stI G σ3 b4 0 (ho_ur x1 24)).bind fun σ5 =>
  (ho_gR σ5 a0 3 0).bind fun b6 =>
  (ho_stI G σ5 b6 1 ((ho_ur x1 16) &&& 255)).bind fun σ7 =>
  (ho_gR σ7 a0 3 0).bind fun b8 =>
  (ho_stI G σ7 b8 2 ((ho_ur x1 8) &&& 255)).bind fun σ9 =>
  (ho_gR σ9 a0 3 0).bind fun b10 =>
  (ho_stI G σ9 b10 3 (x1 &&& 255)).bind fun σ11 =>
  (ho_gR σ11 a0 3 0).bind fun b12 =>
  (ho_stI G σ11 b12 4 x2).bind fun σ13 =>
  (ho_gR σ13 a0 3 0).bind fun b14 =>
  (ho_stI G σ13 b14 5 x3).bind fun σ15 =>
  some σ15
def f_Pk_interval (G : ho_G) (N : Nat) (σ : ho_H) (a0 : Nat) : Option (Int32) :=
  (ho_gR σ a0 3 0).bind fun b1 =>
  (f_Of_wordAt G N σ b1 0).bind fun v2 =>
  some v2
def f_Pk_size (G : ho_G) (N : Nat) (σ : ho_H) (a0 : Nat) : Option (Int32) :=
  (ho_gR σ a0 3 0).bind fun b1 =>
  (ho_ldI G σ b1 5).bind fun v2 =>
  some v2
def f_Pk_kind (G : ho_G) (N : Nat) (σ : ho_H) (a0 : Nat) : Option (Int32) :=
  (ho_gR σ a0 3 0).bind fun b1 =>
  (ho_ldI G σ b1 4).bind fun v2 =>
  some v2
def f_Pk_codeAt (G : ho_G) (N : Nat) (σ : ho_H) (a0 : Nat) : Option (Int32) :=
  (ho_f σ a0 3).bind fun _ =>
  (f_Pk_size G N σ a0).bind fun v2 =>
  some (6 + v2)
def f_Pk_shownAt (G : ho_G) (N : Nat) (σ : ho_H) (a0 : Nat) : Option (Int32) :=
  (ho_f σ a0 3).bind fun _ =>
  (f_Pk_codeAt G N σ a0).bind fun v2 =>
  some (v2 + 10)
def f_Pk_isBroken_j74 (G : ho_G) (N : Nat) (σ : ho_H) (y0 : Int32) : Option (Int32) :=
  (ho_bz y0).bind fun _ => some y0
def f_Pk_isBroken_j69 (G : ho_G) (N : Nat) (σ : ho_H)  : Option (Int32) :=
  f_Pk_isBroken_j74 G N σ 1
def f_Pk_isBroken_j57 (G : ho_G) (N : Nat) (σ : ho_H) (x2 : Int32) : Option (Int32) :=
  if x2 < 1 then
  f_Pk_isBroken_j69 G N σ 
  else
  if x2 ≤ 512 then
  f_Pk_isBroken_j74 G N σ 0
  else
  f_Pk_isBroken_j69 G N σ 
def f_Pk_isBroken_j43 (G : ho_G) (N : Nat) (σ : ho_H) (a0 : Nat) (x1 : Int32) (x2 : Int32) : Option (Int32) :=
  (ho_f σ a0 3).bind fun _ =>
  (f_Pk_kind G N σ a0).bind fun v10 =>
  if ¬ v10 = 1 then
  f_Pk_isBroken_j57 G N σ x2
  else
  if ¬ x1 = 20 then
  f_Pk_isBroken_j69 G N σ 
  else
  f_Pk_isBroken_j57 G N σ x2
def f_Pk_isBroken (G : ho_G) (N : Nat) (σ : ho_H) (a0 : Nat) : Option (Int32) :=
  (ho_f σ a0 3).bind fun _ =>
  (f_Pk_size G N σ a0).bind fun v2 =>
  (ho_f σ a0 3).bind fun _ =>
  (f_Pk_interval G N σ a0).bind fun v4 =>
  (ho_gR σ a0 3 0).bind fun b5 =>
  (ho_lnI G σ b5).bind fun v6 =>
  if ¬ v6 = (36 + v2) then
  f_Pk_isBroken_j69 G N σ 
  else
  if 32 < v2 then
  f_Pk_isBroken_j69 G N σ 
  else
  (ho_f σ a0 3).bind fun _ =>
  (f_Pk_kind G N σ a0).bind fun v8 =>
  if v8 = 0 then
  f_Pk_isBroken_j43 G N σ a0 v2 v4
  else
  (ho_f σ a0 3).bind fun _ =>
  (f_Pk_kind G N σ a0).bind fun v12 =>
  if ¬ v12 = 1 then
  f_Pk_isBroken_j69 G N σ 
  else
  f_Pk_isBroken_j43 G N σ a0 v2 v4
def f_Pk_writeCode_l2 (G : ho_G) (N : Nat) (a0 : Nat) (a1 : Nat) : ho_H × Int32 → Option ((ho_H × Int32) ⊕ (ho_H)) := fun (σ, x2) =>
  if 10 ≤ x2 then
  some (.inr σ)
  else
  (ho_gR σ a0 3 0).bind fun b1 =>
  (ho_f σ a0 3).bind fun _ =>
  (f_Pk_codeAt G N σ a0).bind fun v3 =>
  (f_Of_byteOf G N σ a1 x2).bind fun v4 =>
  (ho_stI G σ b1 (v3 + x2) v4).bind fun σ5 =>
  some (.inl (σ5, x2 + 1))
def f_Pk_writeCode (G : ho_G) (N : Nat) (σ : ho_H) (a0 : Nat) (a1 : Nat) : Option (ho_H) :=
  (ho_it (f_Pk_writeCode_l2 G N a0 a1) N (σ, 0)).bind fun σ6 =>
  some σ6
def f_Pk_hasCode_l2 (G : ho_G) (N : Nat) (σ : ho_H) (a0 : Nat) (a1 : Nat) : Int32 → Option ((Int32) ⊕ ((Unit) ⊕ (Int32))) := fun x2 =>
  if 10 ≤ x2 then
  some (.inr (.inl ()))
  else
  (ho_gR σ a0 3 0).bind fun b1 =>
  (ho_f σ a0 3).bind fun _ =>
  (f_Pk_codeAt G N σ a0).bind fun v3 =>
  (ho_ldI G σ b1 (v3 + x2)).bind fun v4 =>
  (f_Of_byteOf G N σ a1 x2).bind fun v5 =>
  if v4 = v5 then
  some (.inl (x2 + 1))
  else
  some (.inr (.inr 0))
def f_Pk_hasCode (G : ho_G) (N : Nat) (σ : ho_H) (a0 : Nat) (a1 : Nat) : Option (Int32) :=
  (ho_it (f_Pk_hasCode_l2 G N σ a0 a1) N 0).bind (sm_e (fun _ =>
  some 1) (fun z => some z))
def f_Pk_isTwinOf_l15 (G : ho_G) (N : Nat) (σ : ho_H) (a0 : Nat) (a1 : Nat) : Int32 → Option ((Int32) ⊕ ((Unit) ⊕ (Int32))) := fun x2 =>
  if 10 ≤ x2 then
  some (.inr (.inl ()))
  else
  (ho_gR σ a0 3 0).bind fun b5 =>
  (ho_f σ a0 3).bind fun _ =>
  (f_Pk_codeAt G N σ a0).bind fun v7 =>
  (ho_ldI G σ b5 (v7 + x2)).bind fun v8 =>
  (ho_gR σ a1 3 0).bind fun b9 =>
  (ho_f σ a1 3).bind fun _ =>
  (f_Pk_codeAt G N σ a1).bind fun v11 =>
  (ho_ldI G σ b9 (v11 + x2)).bind fun v12 =>
  if v8 = v12 then
  some (.inl (x2 + 1))
  else
  some (.inr (.inr 0))
def f_Pk_isTwinOf (G : ho_G) (N : Nat) (σ : ho_H) (a0 : Nat) (a1 : Nat) : Option (Int32) :=
  (ho_f σ a0 3).bind fun _ =>
  (f_Pk_interval G N σ a0).bind fun v2 =>
  (ho_f σ a1 3).bind fun _ =>
  (f_Pk_interval G N σ a1).bind fun v4 =>
  if v2 = v4 then
  (ho_it (f_Pk_isTwinOf_l15 G N σ a0 a1) N 0).bind (sm_e (fun _ =>
  some 1) (fun z => some z))
  else
  some 0
def f_Kc_isKnown_j13 (G : ho_G) (N : Nat) (σ : ho_H) (y0 : Int32) : Option (Int32) :=
  (ho_bz y0).bind fun _ => some y0
def f_Kc_isKnown (G : ho_G) (N : Nat) (σ : ho_H) (a0 : Nat) : Option (Int32) :=
  (ho_gI σ a0 2 2).bind fun v1 =>
  if v1 = (-1) then
  f_Kc_isKnown_j13 G N σ 0
  else
  f_Kc_isKnown_j13 G N σ 1
def f_Kc_forget (G : ho_G) (N : Nat) (σ : ho_H) (a0 : Nat) : Option (ho_H) :=
  (ho_p σ a0 2 1 (.int (-1))).bind fun σ1 =>
  (ho_p σ1 a0 2 2 (.int (-1))).bind fun σ2 =>
  some σ2
def f_Kc_putTopKey (G : ho_G) (N : Nat) (σ : ho_H) (a0 : Nat) (x1 : Int32) (x2 : Int32) (x3 : Int32) (x4 : Int32) (x5 : Int32) : Option (ho_H) :=
  (ho_gR σ a0 2 0).bind fun b1 =>
  (ho_stI G σ b1 320 x1).bind fun σ2 =>
  (ho_gR σ2 a0 2 0).bind fun b3 =>
  (ho_stI G σ2 b3 (320 + 1) x2).bind fun σ4 =>
  (ho_gR σ4 a0 2 0).bind fun b5 =>
  (ho_stI G σ4 b5 (320 + 2) x3).bind fun σ6 =>
  (ho_gR σ6 a0 2 0).bind fun b7 =>
  (ho_stI G σ6 b7 (320 + 3) x4).bind fun σ8 =>
  (ho_gR σ8 a0 2 0).bind fun b9 =>
  (ho_stI G σ8 b9 (320 + 4) x5).bind fun σ10 =>
  some σ10
def f_Kc_fillDown_l3 (G : ho_G) (N : Nat) (a0 : Nat) (x2 : Int32) (a3 : Nat) : ho_H × Int32 → Option ((ho_H × Int32) ⊕ (ho_H)) := fun (σ, x4) =>
  if x4 ≤ x2 then
  some (.inr σ)
  else
  (ho_gR σ a0 2 0).bind fun b1 =>
  (ho_lnI G σ (gA G 2)).bind fun v2 =>
  (ho_f σ a3 1).bind fun _ =>
  (ho_cv σ (f_Sl_seal G N σ a3 b1 (x4 * 5) 5 (gA G 2) v2)).bind fun σ4 =>
  (ho_gR σ4 a3 1 0).bind fun b5 =>
  (ho_gR σ4 a0 2 0).bind fun b6 =>
  (ho_cpI G σ4 b5 0 b6 ((x4 - 1) * 5) 5).bind fun σ7 =>
  some (.inl (σ7, x4 + (-1)))
def f_Kc_fillDown (G : ho_G) (N : Nat) (σ : ho_H) (a0 : Nat) (x1 : Int32) (x2 : Int32) (a3 : Nat) : Option (ho_H) :=
  (ho_it (f_Kc_fillDown_l3 G N a0 x2 a3) N (σ, x1)).bind fun σ8 =>
  some σ8
def f_Kc_byteAt (G : ho_G) (N : Nat) (σ : ho_H) (a0 : Nat) (x1 : Int32) (x2 : Int32) : Option (Int32) :=
  (ho_gR σ a0 2 0).bind fun b1 =>
  (f_Of_byteOf G N σ b1 ((x1 * 20) + x2)).bind fun v2 =>
  some v2
def f_Kc_writeKey_l3 (G : ho_G) (N : Nat) (a0 : Nat) (x1 : Int32) (a2 : Nat) (x3 : Int32) : ho_H × Int32 → Option ((ho_H × Int32) ⊕ (ho_H)) := fun (σ, x4) =>
  if 20 ≤ x4 then
  some (.inr σ)
  else
  (ho_f σ a0 2).bind fun _ =>
  (f_Kc_byteAt G N σ a0 x1 x4).bind fun v2 =>
  (ho_stI G σ a2 (x3 + x4) v2).bind fun σ3 =>
  some (.inl (σ3, x4 + 1))
def f_Kc_writeKey (G : ho_G) (N : Nat) (σ : ho_H) (a0 : Nat) (x1 : Int32) (a2 : Nat) (x3 : Int32) : Option (ho_H) :=
  (ho_it (f_Kc_writeKey_l3 G N a0 x1 a2 x3) N (σ, 0)).bind fun σ4 =>
  some σ4
def f_Kc_learnFrom (G : ho_G) (N : Nat) (σ : ho_H) (a0 : Nat) (a1 : Nat) (x2 : Int32) : Option (ho_H) :=
  (ho_gR σ a1 2 0).bind fun b1 =>
  (ho_gR σ a0 2 0).bind fun b2 =>
  (ho_cpI G σ b1 (x2 * 5) b2 (x2 * 5) 5).bind fun σ3 =>
  (ho_p σ3 a0 2 1 (.int x2)).bind fun σ4 =>
  (ho_p σ4 a0 2 2 (.int x2)).bind fun σ5 =>
  some σ5
def f_Kc_readKey_l3 (G : ho_G) (N : Nat) (a0 : Nat) (x1 : Int32) (a2 : Nat) (x3 : Int32) : ho_H × Int32 → Option ((ho_H × Int32) ⊕ (ho_H)) := fun (σ, x4) =>
  if 5 ≤ x4 then
  some (.inr σ)
  else
  (ho_gR σ a0 2 0).bind fun b1 =>
  (f_Of_wordAt G N σ a2 (x3 + (4 * x4))).bind fun v2 =>
  (ho_stI G σ b1 ((x1 * 5) + x4) v2).bind fun σ3 =>
  some (.inl (σ3, x4 + 1))
def f_Kc_readKey (G : ho_G) (N : Nat) (σ : ho_H) (a0 : Nat) (x1 : Int32) (a2 : Nat) (x3 : Int32) : Option (ho_H) :=
  (ho_it (f_Kc_readKey_l3 G N a0 x1 a2 x3) N (σ, 0)).bind fun σ4 =>
  some σ4
def f_Kc_learnRoot (G : ho_G) (N : Nat) (σ : ho_H) (a0 : Nat) (a1 : Nat) (x2 : Int32) : Option (ho_H) :=
  (ho_f σ a0 2).bind fun _ =>
  (ho_cv σ (f_Kc_readKey G N σ a0 0 a1 x2)).bind fun σ2 =>
  (ho_p σ2 a0 2 1 (.int 0)).bind fun σ3 =>
  (ho_p σ3 a0 2 2 (.int 0)).bind fun σ4 =>
  some σ4
def f_Kc_isKey_l3 (G : ho_G) (N : Nat) (σ : ho_H) (a0 : Nat) (x1 : Int32) (a2 : Nat) (x3 : Int32) : Int32 → Option ((Int32) ⊕ ((Unit) ⊕ (Int32))) := fun x4 =>
  if 20 ≤ x4 then
  some (.inr (.inl ()))
  else
  (ho_ldI G σ a2 (x3 + x4)).bind fun v1 =>
  (ho_f σ a0 2).bind fun _ =>
  (f_Kc_byteAt G N σ a0 x1 x4).bind fun v3 =>
  if v1 = v3 then
  some (.inl (x4 + 1))
  else
  some (.inr (.inr 0))
def f_Kc_isKey (G : ho_G) (N : Nat) (σ : ho_H) (a0 : Nat) (x1 : Int32) (a2 : Nat) (x3 : Int32) : Option (Int32) :=
  (ho_it (f_Kc_isKey_l3 G N σ a0 x1 a2 x3) N 0).bind (sm_e (fun _ =>
  some 1) (fun z => some z))
def f_Kc_raiseTo_l29 (G : ho_G) (N : Nat) (σ : ho_H) (a0 : Nat) (x1 : Int32) (a2 : Nat) : Int32 → Option ((Int32) ⊕ ((Unit) ⊕ (ho_H × Int32))) := fun x4 =>
  if 5 ≤ x4 then
  some (.inr (.inl ()))
  else
  (ho_gR σ a2 1 0).bind fun b6 =>
  (ho_ldI G σ b6 x4).bind fun v7 =>
  (ho_gR σ a0 2 0).bind fun b8 =>
  (ho_gI σ a0 2 2).bind fun v9 =>
  (ho_ldI G σ b8 ((v9 * 5) + x4)).bind fun v10 =>
  if v7 = v10 then
  some (.inl (x4 + 1))
  else
  some (.inr (.inr (σ, 0)))
def f_Kc_raiseTo (G : ho_G) (N : Nat) (σ : ho_H) (a0 : Nat) (x1 : Int32) (a2 : Nat) : Option (ho_H × Int32) :=
  (ho_gI σ a0 2 2).bind fun v1 =>
  (ho_gR σ a0 2 0).bind fun b2 =>
  (ho_lnI G σ (gA G 2)).bind fun v3 =>
  (ho_f σ a2 1).bind fun _ =>
  (ho_cv σ (f_Sl_seal G N σ a2 b2 ((v1 + 1) * 5) 5 (gA G 2) v3)).bind fun σ5 =>
  (ho_it (f_Kc_raiseTo_l29 G N σ5 a0 x1 a2) N 0).bind (sm_e (fun _ =>
  (ho_p σ5 a0 2 2 (.int x1)).bind fun σ11 =>
  some (σ11, 1)) (fun z => some z))
def f_Kc_sealPacket (G : ho_G) (N : Nat) (σ : ho_H) (a0 : Nat) (x1 : Int32) (a2 : Nat) (a3 : Nat) : Option (ho_H) :=
  (ho_gR σ a0 2 0).bind fun b1 =>
  (ho_lnI G σ (gA G 3)).bind fun v2 =>
  (ho_f σ a3 1).bind fun _ =>
  (ho_cv σ (f_Sl_seal G N σ a3 b1 (x1 * 5) 5 (gA G 3) v2)).bind fun σ4 =>
  (ho_gR σ4 a3 1 0).bind fun b5 =>
  (ho_gR σ4 a3 1 1).bind fun b6 =>
  (ho_cpI G σ4 b5 0 b6 0 8).bind fun σ7 =>
  (ho_gR σ7 a3 1 1).bind fun b8 =>
  (ho_gR σ7 a2 3 0).bind fun b9 =>
  (ho_f σ7 a2 3).bind fun _ =>
  (f_Pk_codeAt G N σ7 a2).bind fun v11 =>
  (ho_f σ7 a3 1).bind fun _ =>
  (ho_cv σ7 (f_Sl_seal G N σ7 a3 b8 0 8 b9 v11)).bind fun σ13 =>
  some σ13
def f_Of_isReceiver_j15 (G : ho_G) (N : Nat) (σ : ho_H) (y0 : Int32) : Option (Int32) :=
  (ho_bz y0).bind fun _ => some y0
def f_Of_isReceiver_j14 (G : ho_G) (N : Nat) (σ : ho_H)  : Option (Int32) :=
  f_Of_isReceiver_j15 G N σ 0
def f_Of_isReceiver (G : ho_G) (N : Nat) (σ : ho_H) (a0 : Nat) (x1 : Int32) : Option (Int32) :=
  if x1 < 0 then
  f_Of_isReceiver_j14 G N σ 
  else
  if 8 ≤ x1 then
  f_Of_isReceiver_j14 G N σ 
  else
  f_Of_isReceiver_j15 G N σ 1
def f_Lw_cell_j13 (G : ho_G) (N : Nat) (σ : ho_H) (y0 : Int32) : Option (Int32) :=
  some y0
def f_Lw_cell (G : ho_G) (N : Nat) (σ : ho_H) (a0 : Nat) (x1 : Int32) : Option (Int32) :=
  (ho_lnI G σ a0).bind fun v1 =>
  if v1 ≤ x1 then
  f_Lw_cell_j13 G N σ 0
  else
  (ho_ldI G σ a0 x1).bind fun v2 =>
  f_Lw_cell_j13 G N σ v2
