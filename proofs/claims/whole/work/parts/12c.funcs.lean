def f_Ac_init (G : ho_G) (N : Nat) (σ : ho_H) (a0 : Nat) : Option (Unit) :=
  some ()
def f_Ab_init (G : ho_G) (N : Nat) (σ : ho_H) (a0 : Nat) : Option (ho_H) :=
  (f_Ac_init G N σ a0).bind fun _ =>
  (ho_p σ a0 7 2 (.int 0)).bind fun σ1 =>
  some σ1
def f_Al_init (G : ho_G) (N : Nat) (σ : ho_H) (a0 : Nat) : Option (ho_H) :=
  (ho_cv σ (f_Ab_init G N σ a0)).bind fun σ1 =>
  (ho_p σ1 a0 7 0 (.ref (gA G 4))).bind fun σ2 =>
  some σ2
def f_Al_size (G : ho_G) (N : Nat) (σ : ho_H) (a0 : Nat) : Option (Int32) :=
  (ho_gI σ a0 7 1).bind fun v1 =>
  some v1
def f_As_newLength_j21 (G : ho_G) (N : Nat) (σ : ho_H) (x0 : Int32) (x1 : Int32) : Option (Int32) :=
  none
def f_As_newLength (G : ho_G) (N : Nat) (σ : ho_H) (x0 : Int32) (x1 : Int32) (x2 : Int32) : Option (Int32) :=
  if (x0 + (ho_mx x1 x2)) ≤ 0 then
  f_As_newLength_j21 G N σ x0 x1
  else
  if 2147483639 < (x0 + (ho_mx x1 x2)) then
  f_As_newLength_j21 G N σ x0 x1
  else
  some (x0 + (ho_mx x1 x2))
def f_Ar_copyOf2_j24 (G : ho_G) (N : Nat) (σ : ho_H) (a0 : Nat) (x1 : Int32) (c0 : Nat) : Option (ho_H × Nat) :=
  (ho_lnQ G σ a0 5).bind fun v3 =>
  (ho_cpR G σ a0 0 c0 0 (ho_mn v3 x1)).bind fun σ4 =>
  some (σ4, c0)
def f_Ar_copyOf2 (G : ho_G) (N : Nat) (σ : ho_H) (a0 : Nat) (x1 : Int32) (a2 : Nat) : Option (ho_H × Nat) :=
  if ¬ a2 = (gA G 5) then
  none
  else
  bd2 (ho_nwR G σ 5 x1) fun σ1 b2 =>
  f_Ar_copyOf2_j24 G N σ1 a0 x1 b2
def f_Ar_copyOf1 (G : ho_G) (N : Nat) (σ : ho_H) (a0 : Nat) (x1 : Int32) : Option (ho_H × Nat) :=
  (ho_aR G σ a0 5).bind fun _ =>
  bd2 (ho_ck σ (f_Ar_copyOf2 G N σ a0 x1 (gA G 5))) fun σ2 b3 =>
  some (σ2, b3)
def f_Al_grow2_j20 (G : ho_G) (N : Nat) (σ : ho_H) (a0 : Nat) (x1 : Int32) (x2 : Int32) : Option (ho_H × Nat) :=
  (f_As_newLength G N σ x2 (x1 - x2) (ho_sr x2 1)).bind fun v3 =>
  (ho_gR σ a0 7 0).bind fun b4 =>
  bd2 (ho_ck σ (f_Ar_copyOf1 G N σ b4 v3)) fun σ5 b6 =>
  (ho_p σ5 a0 7 0 (.ref b6)).bind fun σ7 =>
  some (σ7, b6)
def f_Al_grow2 (G : ho_G) (N : Nat) (σ : ho_H) (a0 : Nat) (x1 : Int32) : Option (ho_H × Nat) :=
  (ho_gR σ a0 7 0).bind fun b1 =>
  (ho_lnQ G σ b1 5).bind fun v2 =>
  if 0 < v2 then
  f_Al_grow2_j20 G N σ a0 x1 v2
  else
  (ho_gR σ a0 7 0).bind fun b8 =>
  if b8 = (gA G 4) then
  bd2 (ho_nwR G σ 5 (ho_mx 10 x1)) fun σ9 b10 =>
  (ho_p σ9 a0 7 0 (.ref b10)).bind fun σ11 =>
  some (σ11, b10)
  else
  f_Al_grow2_j20 G N σ a0 x1 v2
def f_Al_grow1 (G : ho_G) (N : Nat) (σ : ho_H) (a0 : Nat) : Option (ho_H × Nat) :=
  (ho_gI σ a0 7 1).bind fun v1 =>
  (ho_f σ a0 7).bind fun _ =>
  bd2 (ho_ck σ (f_Al_grow2 G N σ a0 (v1 + 1))) fun σ3 b4 =>
  some (σ3, b4)
def f_Al_add2_j11 (G : ho_G) (N : Nat) (σ : ho_H) (a0 : Nat) (a1 : Nat) (a2 : Nat) (x3 : Int32) : Option (ho_H) :=
  (ho_f σ a1 3).bind fun _ =>
  (ho_stR G σ a2 5 x3 (some a1)).bind fun σ2 =>
  (ho_p σ2 a0 7 1 (.int (x3 + 1))).bind fun σ4 =>
  some σ4
def f_Al_add2 (G : ho_G) (N : Nat) (σ : ho_H) (a0 : Nat) (a1 : Nat) (a2 : Nat) (x3 : Int32) : Option (ho_H) :=
  (ho_lnQ G σ a2 5).bind fun v1 =>
  if ¬ x3 = v1 then
  f_Al_add2_j11 G N σ a0 a1 a2 x3
  else
  (ho_f σ a0 7).bind fun _ =>
  bd2 (ho_ck σ (f_Al_grow1 G N σ a0)) fun σ6 b7 =>
  f_Al_add2_j11 G N σ6 a0 a1 b7 x3
def f_Al_add1 (G : ho_G) (N : Nat) (σ : ho_H) (a0 : Nat) (a1 : Nat) : Option (ho_H × Int32) :=
  (ho_gI σ a0 7 2).bind fun v1 =>
  (ho_p σ a0 7 2 (.int (v1 + 1))).bind fun σ2 =>
  (ho_gR σ2 a0 7 0).bind fun b3 =>
  (ho_gI σ2 a0 7 1).bind fun v4 =>
  (ho_f σ2 a0 7).bind fun _ =>
  (ho_cv σ2 (f_Al_add2 G N σ2 a0 a1 b3 v4)).bind fun σ6 =>
  some (σ6, 1)
def f_Pc_checkIndex_j9 (G : ho_G) (N : Nat) (σ : ho_H) (x0 : Int32) (x1 : Int32) : Option (Int32) :=
  none
def f_Pc_checkIndex (G : ho_G) (N : Nat) (σ : ho_H) (x0 : Int32) (x1 : Int32) : Option (Int32) :=
  if x0 < 0 then
  f_Pc_checkIndex_j9 G N σ x0 x1
  else
  if x0 < x1 then
  some x0
  else
  f_Pc_checkIndex_j9 G N σ x0 x1
def f_Ob_checkIndex (G : ho_G) (N : Nat) (σ : ho_H) (x0 : Int32) (x1 : Int32) : Option (Int32) :=
  (f_Pc_checkIndex G N σ x0 x1).bind fun v1 =>
  some v1
def f_Al_elementData (G : ho_G) (N : Nat) (σ : ho_H) (a0 : Nat) (x1 : Int32) : Option (Nat) :=
  (ho_gR σ a0 7 0).bind fun b1 =>
  (ho_ldR G σ b1 5 x1).bind fun b2 =>
  some b2
def f_Al_get (G : ho_G) (N : Nat) (σ : ho_H) (a0 : Nat) (x1 : Int32) : Option (Nat) :=
  (ho_gI σ a0 7 1).bind fun v1 =>
  (f_Ob_checkIndex G N σ x1 v1).bind fun v2 =>
  (ho_f σ a0 7).bind fun _ =>
  (f_Al_elementData G N σ a0 x1).bind fun b4 =>
  some b4
def f_Al_clear_l27 (G : ho_G) (N : Nat) (a1 : Nat) (x2 : Int32) : ho_H × Int32 → Option ((ho_H × Int32) ⊕ (ho_H)) := fun (σ, x3) =>
  if x2 ≤ x3 then
  some (.inr σ)
  else
  (ho_stR G σ a1 5 x3 none).bind fun σ6 =>
  some (.inl (σ6, x3 + 1))
def f_Al_clear (G : ho_G) (N : Nat) (σ : ho_H) (a0 : Nat) : Option (ho_H) :=
  (ho_gI σ a0 7 2).bind fun v1 =>
  (ho_p σ a0 7 2 (.int (v1 + 1))).bind fun σ2 =>
  (ho_gR σ2 a0 7 0).bind fun b3 =>
  (ho_gI σ2 a0 7 1).bind fun v4 =>
  (ho_p σ2 a0 7 1 (.int 0)).bind fun σ5 =>
  (ho_it (f_Al_clear_l27 G N b3 v4) N (σ5, 0)).bind fun σ7 =>
  some σ7
def f_Al_fastRemove_j34 (G : ho_G) (N : Nat) (σ : ho_H) (a0 : Nat) (a1 : Nat) (x3 : Int32) : Option (ho_H) :=
  (ho_p σ a0 7 1 (.int x3)).bind fun σ4 =>
  (ho_stR G σ4 a1 5 x3 none).bind fun σ5 =>
  some σ5
def f_Al_fastRemove (G : ho_G) (N : Nat) (σ : ho_H) (a0 : Nat) (a1 : Nat) (x2 : Int32) : Option (ho_H) :=
  (ho_gI σ a0 7 2).bind fun v1 =>
  (ho_p σ a0 7 2 (.int (v1 + 1))).bind fun σ2 =>
  (ho_gI σ2 a0 7 1).bind fun v3 =>
  if (v3 - 1) ≤ x2 then
  f_Al_fastRemove_j34 G N σ2 a0 a1 (v3 - 1)
  else
  (ho_cpR G σ2 a1 (x2 + 1) a1 x2 ((v3 - 1) - x2)).bind fun σ6 =>
  f_Al_fastRemove_j34 G N σ6 a0 a1 (v3 - 1)
def f_Al_remove (G : ho_G) (N : Nat) (σ : ho_H) (a0 : Nat) (x1 : Int32) : Option (ho_H × Nat) :=
  (ho_gI σ a0 7 1).bind fun v1 =>
  (f_Ob_checkIndex G N σ x1 v1).bind fun v2 =>
  (ho_gR σ a0 7 0).bind fun b3 =>
  (ho_ldR G σ b3 5 x1).bind fun b4 =>
  (ho_f σ a0 7).bind fun _ =>
  (ho_cv σ (f_Al_fastRemove G N σ a0 b3 x1)).bind fun σ6 =>
  some (σ6, b4)
def f_Pk_init2 (G : ho_G) (N : Nat) (σ : ho_H) (a0 : Nat) (a1 : Nat) : Option (ho_H) :=
  (ho_gR σ a1 3 0).bind fun b1 =>
  bd2 (ho_clI G σ b1) fun σ2 b3 =>
  (ho_aI G σ2 b3 0).bind fun _ =>
  (ho_p σ2 a0 3 0 (.ref b3)).bind fun σ5 =>
  some σ5
