def f_Lw_chain (G : ho_G) (N : Nat) (σ : ho_H) (a0 : Nat) (x1 : Int32) (x2 : Int32) (x3 : Int32) (x4 : Int32) (x5 : Int32) (a6 : Nat) : Option (ho_H × Int32) :=
  (ho_f σ a0 5).bind fun _ =>
  bd2 (ho_ck σ (f_Of_chain G N σ a0 x1 x2 x3 x4 x5)) fun σ2 o3 => sm_e (fun i4 =>
  if i4 = 0 then
  some (σ2, 1)
  else
  none) (fun v5 =>
  (ho_stL G σ2 a6 2 0 v5.toInt64).bind fun σ6 =>
  some (σ6, 0)) o3
def f_Lw_tick (G : ho_G) (N : Nat) (σ : ho_H) (a0 : Nat) (x1 : Int32) (a2 : Nat) : Option (ho_H × Int32) :=
  (ho_f σ a0 5).bind fun _ =>
  bd2 (ho_ck σ (f_Of_tick G N σ a0 x1)) fun σ2 o3 => sm_e (fun i4 =>
  if i4 = 1 then
  some (σ2, 1)
  else
  if i4 = 0 then
  some (σ2, 2)
  else
  none) (fun v5 =>
  (ho_stL G σ2 a2 2 0 v5.toInt64).bind fun σ6 =>
  some (σ6, 0)) o3
def f_Lw_load (G : ho_G) (N : Nat) (σ : ho_H) (a0 : Nat) (x1 : Int32) (x2 : Int32) (a3 : Nat) : Option (ho_H × Int32) :=
  (ho_f σ a0 5).bind fun _ =>
  bd2 (ho_ck σ (f_Of_load G N σ a0 x1 x2)) fun σ2 o3 => sm_e (fun i4 =>
  if i4 = 2 then
  some (σ2, 1)
  else
  none) (fun v5 =>
  (ho_stL G σ2 a3 2 0 v5.toInt64).bind fun σ6 =>
  some (σ6, 0)) o3
def f_Lw_digest (G : ho_G) (N : Nat) (σ : ho_H) (a0 : Nat) (x1 : Int32) (x2 : Int32) (a3 : Nat) : Option (ho_H × Int32) :=
  (ho_f σ a0 5).bind fun _ =>
  bd2 (ho_ck σ (f_Of_digest G N σ a0 x1 x2)) fun σ2 o3 => sm_e (fun i4 =>
  if i4 = 1 then
  some (σ2, 1)
  else
  if i4 = 2 then
  some (σ2, 2)
  else
  none) (fun v5 =>
  (ho_stL G σ2 a3 2 0 v5.toInt64).bind fun σ6 =>
  some (σ6, 0)) o3
def f_Lw_send (G : ho_G) (N : Nat) (σ : ho_H) (a0 : Nat) (x1 : Int32) (a2 : Nat) : Option (ho_H × Int32) :=
  (ho_f σ a0 5).bind fun _ =>
  bd2 (ho_ck σ (f_Of_send G N σ a0 x1)) fun σ2 o3 => sm_e (fun i4 =>
  if i4 = 1 then
  some (σ2, 1)
  else
  if i4 = 0 then
  some (σ2, 2)
  else
  if i4 = 3 then
  some (σ2, 3)
  else
  none) (fun v5 =>
  (ho_stL G σ2 a2 2 0 v5.toInt64).bind fun σ6 =>
  some (σ6, 0)) o3
def f_Lw_root (G : ho_G) (N : Nat) (σ : ho_H) (a0 : Nat) (a1 : Nat) : Option (ho_H × Int32) :=
  (ho_f σ a0 5).bind fun _ =>
  bd2 (ho_ck σ (f_Of_root G N σ a0)) fun σ2 o3 => sm_e (fun i4 =>
  if i4 = 0 then
  some (σ2, 1)
  else
  if i4 = 3 then
  some (σ2, 2)
  else
  none) (fun v5 =>
  (ho_stL G σ2 a1 2 0 v5.toInt64).bind fun σ6 =>
  some (σ6, 0)) o3
def f_Lw_packet (G : ho_G) (N : Nat) (σ : ho_H) (a0 : Nat) (x1 : Int32) (x2 : Int32) (a3 : Nat) : Option (ho_H × Int32) :=
  (ho_f σ a0 5).bind fun _ =>
  bd2 (ho_ck σ (f_Of_packet G N σ a0 x1 x2)) fun σ2 o3 => sm_e (fun i4 =>
  if i4 = 2 then
  some (σ2, 1)
  else
  none) (fun v5 =>
  (ho_stL G σ2 a3 2 0 v5.toInt64).bind fun σ6 =>
  some (σ6, 0)) o3
def f_Lw_key (G : ho_G) (N : Nat) (σ : ho_H) (a0 : Nat) (x1 : Int32) (x2 : Int32) (a3 : Nat) : Option (ho_H × Int32) :=
  (ho_f σ a0 5).bind fun _ =>
  bd2 (ho_ck σ (f_Of_key G N σ a0 x1 x2)) fun σ2 o3 => sm_e (fun i4 =>
  if i4 = 2 then
  some (σ2, 1)
  else
  if i4 = 0 then
  some (σ2, 2)
  else
  none) (fun v5 =>
  (ho_stL G σ2 a3 2 0 v5.toInt64).bind fun σ6 =>
  some (σ6, 0)) o3
def f_Lw_join (G : ho_G) (N : Nat) (σ : ho_H) (a0 : Nat) (x1 : Int32) (x2 : Int32) : Option (ho_H × Int32) :=
  (ho_f σ a0 5).bind fun _ =>
  bd2 (ho_ck σ (f_Of_join G N σ a0 x1 x2)) fun σ2 o3 => sm_e (fun i4 =>
  if i4 = 2 then
  some (σ2, 1)
  else
  if i4 = 0 then
  some (σ2, 2)
  else
  none) (fun _ =>
  some (σ2, 0)) o3
def f_Lw_drift (G : ho_G) (N : Nat) (σ : ho_H) (a0 : Nat) (x1 : Int32) (x2 : Int32) (a3 : Nat) : Option (ho_H × Int32) :=
  (ho_f σ a0 5).bind fun _ =>
  bd2 (ho_ck σ (f_Of_drift G N σ a0 x1 x2)) fun σ2 o3 => sm_e (fun i4 =>
  if i4 = 2 then
  some (σ2, 1)
  else
  if i4 = 1 then
  some (σ2, 2)
  else
  none) (fun v5 =>
  (ho_stL G σ2 a3 2 0 v5.toInt64).bind fun σ6 =>
  some (σ6, 0)) o3
def f_Lw_arrive (G : ho_G) (N : Nat) (σ : ho_H) (a0 : Nat) (x1 : Int32) (x2 : Int32) (x3 : Int32) (x4 : Int32) (a5 : Nat) : Option (ho_H × Int32) :=
  (ho_f σ a0 5).bind fun _ =>
  bd2 (ho_ck σ (f_Of_arrive G N σ a0 x1 x2 x3 x4)) fun σ2 o3 => sm_e (fun i4 =>
  if i4 = 2 then
  some (σ2, 1)
  else
  if i4 = 1 then
  some (σ2, 2)
  else
  none) (fun v5 =>
  (ho_stL G σ2 a5 2 0 v5.toInt64).bind fun σ6 =>
  some (σ6, 0)) o3
def f_Lw_receiver (G : ho_G) (N : Nat) (σ : ho_H) (a0 : Nat) (x1 : Int32) (x2 : Int32) (a3 : Nat) : Option (ho_H × Int32) :=
  (ho_f σ a0 5).bind fun _ =>
  bd2 (ho_ck σ (f_Of_receiver G N σ a0 x1 x2)) fun σ2 o3 => sm_e (fun i4 =>
  if i4 = 2 then
  some (σ2, 1)
  else
  none) (fun v5 =>
  (ho_stL G σ2 a3 2 0 v5.toInt64).bind fun σ6 =>
  some (σ6, 0)) o3
def f_Lw_released (G : ho_G) (N : Nat) (σ : ho_H) (a0 : Nat) (x1 : Int32) (x2 : Int32) (x3 : Int32) (a4 : Nat) : Option (ho_H × Int32) :=
  (ho_f σ a0 5).bind fun _ =>
  bd2 (ho_ck σ (f_Of_released G N σ a0 x1 x2 x3)) fun σ2 o3 => sm_e (fun i4 =>
  if i4 = 2 then
  some (σ2, 1)
  else
  none) (fun v5 =>
  (ho_stL G σ2 a4 2 0 v5.toInt64).bind fun σ6 =>
  some (σ6, 0)) o3
def f_Lw_releasedByte (G : ho_G) (N : Nat) (σ : ho_H) (a0 : Nat) (x1 : Int32) (x2 : Int32) (x3 : Int32) (a4 : Nat) : Option (ho_H × Int32) :=
  (ho_f σ a0 5).bind fun _ =>
  bd2 (ho_ck σ (f_Of_releasedByte G N σ a0 x1 x2 x3)) fun σ2 o3 => sm_e (fun i4 =>
  if i4 = 2 then
  some (σ2, 1)
  else
  none) (fun v5 =>
  (ho_stL G σ2 a4 2 0 v5.toInt64).bind fun σ6 =>
  some (σ6, 0)) o3
