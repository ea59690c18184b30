set_option maxHeartbeats 4000000 in
set_option maxRecDepth 100000 in
theorem c_Ck_intervalAt (l : Launch) (G : ho_G) (N : Nat) (σ : ho_H) (a0 : Nat) (x1 : Int32) (r : Int32) (hf : f_Ck_intervalAt G N σ a0 x1 = some r) : hv_C l G y_Ck_intervalAt (Cond.code y_Ck_intervalAt b_Ck_intervalAt 2 (some (.int)) :: hv_ws) 0 0 [.ref a0, .int x1] σ σ (some (.int r)) := by
  refine hv_met [some (.ref a0), some (.int x1)] (plainFor_of_name (by decide +kernel)) (by intro v hv; simp at hv; rcases hv with rfl | rfl <;> rfl) (Nat.le_of_ble_eq_true rfl) rfl ?_
  intro k X hkl hkG E
  subst hkl
  subst hkG
  unfold f_Ck_intervalAt at hf
  refine hv_iload_n (pn := 1) X d_Ck_intervalAt_0 ?_
  refine hv_aload_n (pn := 2) X d_Ck_intervalAt_1 ?_
  obtain ⟨v1, hv1, hf⟩ := bd_E hf
  refine hv_getI (pn := 5) X d_Ck_intervalAt_2 fa_Ck_13 hv1 ?_
  obtain ⟨_, hz, hf⟩ := bd_E hf
  refine hv_idiv (pn := 6) X d_Ck_intervalAt_5 (ho_nz_E hz) ?_
  refine hv_iconst (pn := 7) (v := 1) X d_Ck_intervalAt_6 ?_
  refine hv_iadd (pn := 8) X d_Ck_intervalAt_7 ?_
  cases hf
  exact hv_iret X d_Ck_intervalAt_8 E
set_option maxHeartbeats 4000000 in
set_option maxRecDepth 100000 in
theorem w_Ck_canHaveShown_j32 {k : mk_T} (X : hv_X k b_Ck_canHaveShown y_Ck_canHaveShown.cls 3 0 0 (some (.boolean)) y_Ck_canHaveShown.name) (N : Nat) (σ : ho_H) (y0 : Int32)  (r : Int32) (hf : f_Ck_canHaveShown_j32 k.2.1 N σ y0 = some r) (E : hv_end k σ (some (.int r))) : hv_V k σ 32 [none, none, none] [.int y0] := by
  unfold f_Ck_canHaveShown_j32 at hf
  obtain ⟨_, hz, hf⟩ := bd_E hf
  cases hf
  exact hv_zret X d_Ck_canHaveShown_32 (ho_bz_E hz) E
set_option maxHeartbeats 4000000 in
set_option maxRecDepth 100000 in
theorem c_Ck_canHaveShown (l : Launch) (G : ho_G) (N : Nat) (σ : ho_H) (a0 : Nat) (x1 : Int32) (x2 : Int32) (r : Int32) (hf : f_Ck_canHaveShown G N σ a0 x1 x2 = some r) : hv_C l G y_Ck_canHaveShown (Cond.code y_Ck_canHaveShown b_Ck_canHaveShown 3 (some (.boolean)) :: hv_ws) 0 0 [.ref a0, .int x1, .int x2] σ σ (some (.int r)) := by
  refine hv_met [some (.ref a0), some (.int x1), some (.int x2)] (plainFor_of_name (by decide +kernel)) (by intro v hv; simp at hv; rcases hv with rfl | rfl | rfl <;> rfl) (Nat.le_of_ble_eq_true rfl) rfl ?_
  intro k X hkl hkG E
  subst hkl
  subst hkG
  unfold f_Ck_canHaveShown at hf
  refine hv_aload_n (pn := 1) X d_Ck_canHaveShown_0 ?_
  obtain ⟨v1, hv1, hf⟩ := bd_E hf
  refine hv_getI (pn := 4) X d_Ck_canHaveShown_1 fa_Ck_19 hv1 ?_
  refine hv_iload_n (pn := 5) X d_Ck_canHaveShown_4 ?_
  refine hv_iadd (pn := 6) X d_Ck_canHaveShown_5 ?_
  refine hv_aload_n (pn := 7) X d_Ck_canHaveShown_6 ?_
  obtain ⟨v2, hv2, hf⟩ := bd_E hf
  refine hv_getI (pn := 10) X d_Ck_canHaveShown_7 fa_Ck_16 hv2 ?_
  refine hv_iadd (pn := 11) X d_Ck_canHaveShown_10 ?_
  refine hv_iload_n (pn := 12) X d_Ck_canHaveShown_11 ?_
  refine hv_aload_n (pn := 13) X d_Ck_canHaveShown_12 ?_
  obtain ⟨v3, hv3, hf⟩ := bd_E hf
  refine hv_getI (pn := 16) X d_Ck_canHaveShown_13 fa_Ck_7 hv3 ?_
  refine hv_iadd (pn := 17) X d_Ck_canHaveShown_16 ?_
  refine hv_iconst (pn := 18) (v := 1) X d_Ck_canHaveShown_17 ?_
  refine hv_isub (pn := 19) X d_Ck_canHaveShown_18 ?_
  refine hv_aload_n (pn := 20) X d_Ck_canHaveShown_19 ?_
  obtain ⟨v4, hv4, hf⟩ := bd_E hf
  refine hv_getI (pn := 23) X d_Ck_canHaveShown_20 fa_Ck_13 hv4 ?_
  refine hv_imul (pn := 24) X d_Ck_canHaveShown_23 ?_
  refine hv_icmp_lt (pn := 27) (tgt := 31) X d_Ck_canHaveShown_24 (by decide) (fun hc => ?_) (fun hc => ?_)
  · rw [if_pos hc] at hf
    refine hv_iconst (pn := 32) (v := 0) X d_Ck_canHaveShown_31 ?_
    refine hv_drop (i := 0) (lo' := [none, some (.int x1), some (.int x2)]) ?_
    refine hv_drop (i := 1) (lo' := [none, none, some (.int x2)]) ?_
    refine hv_drop (i := 2) (lo' := [none, none, none]) ?_
    exact w_Ck_canHaveShown_j32 X N σ 0  _ hf E
  · rw [if_neg hc] at hf
    refine hv_iconst (pn := 28) (v := 1) X d_Ck_canHaveShown_27 ?_
    refine hv_goto (tgt := 32) X d_Ck_canHaveShown_28 (by decide) ?_
    refine hv_drop (i := 0) (lo' := [none, some (.int x1), some (.int x2)]) ?_
    refine hv_drop (i := 1) (lo' := [none, none, some (.int x2)]) ?_
    refine hv_drop (i := 2) (lo' := [none, none, none]) ?_
    exact w_Ck_canHaveShown_j32 X N σ 1  _ hf E
set_option maxHeartbeats 4000000 in
set_option maxRecDepth 100000 in
theorem c_Of_byteOf (l : Launch) (G : ho_G) (N : Nat) (σ : ho_H) (a0 : Nat) (x1 : Int32) (r : Int32) (hf : f_Of_byteOf G N σ a0 x1 = some r) : hv_C l G y_Of_byteOf (Cond.code y_Of_byteOf b_Of_byteOf 2 (some (.int)) :: hv_ws) 0 0 [.ref a0, .int x1] σ σ (some (.int r)) := by
  refine hv_met [some (.ref a0), some (.int x1)] (plainFor_of_name (by decide +kernel)) (by intro v hv; simp at hv; rcases hv with rfl | rfl <;> rfl) (Nat.le_of_ble_eq_true rfl) rfl ?_
  intro k X hkl hkG E
  subst hkl
  subst hkG
  unfold f_Of_byteOf at hf
  refine hv_aload_n (pn := 1) X d_Of_byteOf_0 ?_
  refine hv_iload_n (pn := 2) X d_Of_byteOf_1 ?_
  refine hv_iconst (pn := 3) (v := 4) X d_Of_byteOf_2 ?_
  refine hv_idiv (pn := 4) X d_Of_byteOf_3 (by decide) ?_
  obtain ⟨v1, hv1, hf⟩ := bd_E hf
  refine hv_iald (pn := 5) X d_Of_byteOf_4 hv1 ?_
  refine hv_bipush (pn := 7) (v := 24) X d_Of_byteOf_5 ?_
  refine hv_bipush (pn := 9) (v := 8) X d_Of_byteOf_7 ?_
  refine hv_iload_n (pn := 10) X d_Of_byteOf_9 ?_
  refine hv_iconst (pn := 11) (v := 4) X d_Of_byteOf_10 ?_
  refine hv_irem (pn := 12) X d_Of_byteOf_11 (by decide) ?_
  refine hv_imul (pn := 13) X d_Of_byteOf_12 ?_
  refine hv_isub (pn := 14) X d_Of_byteOf_13 ?_
  refine hv_iushr (pn := 15) X d_Of_byteOf_14 ?_
  refine hv_sipush (pn := 18) (v := 255) X d_Of_byteOf_15 ?_
  refine hv_iand (pn := 19) X d_Of_byteOf_18 ?_
  cases hf
  exact hv_iret X d_Of_byteOf_19 E
set_option maxHeartbeats 4000000 in
set_option maxRecDepth 100000 in
theorem c_Of_wordAt (l : Launch) (G : ho_G) (N : Nat) (σ : ho_H) (a0 : Nat) (x1 : Int32) (r : Int32) (hf : f_Of_wordAt G N σ a0 x1 = some r) : hv_C l G y_Of_wordAt (Cond.code y_Of_wordAt b_Of_wordAt 2 (some (.int)) :: hv_ws) 0 0 [.ref a0, .int x1] σ σ (some (.int r)) := by
  refine hv_met [some (.ref a0), some (.int x1)] (plainFor_of_name (by decide +kernel)) (by intro v hv; simp at hv; rcases hv with rfl | rfl <;> rfl) (Nat.le_of_ble_eq_true rfl) rfl ?_
  intro k X hkl hkG E
  subst hkl
  subst hkG
  unfold f_Of_wordAt at hf
  refine hv_aload_n (pn := 1) X d_Of_wordAt_0 ?_
  refine hv_iload_n (pn := 2) X d_Of_wordAt_1 ?_
  obtain ⟨v1, hv1, hf⟩ := bd_E hf
  refine hv_iald (pn := 3) X d_Of_wordAt_2 hv1 ?_
  refine hv_bipush (pn := 5) (v := 24) X d_Of_wordAt_3 ?_
  refine hv_ishl (pn := 6) X d_Of_wordAt_5 ?_
  refine hv_aload_n (pn := 7) X d_Of_wordAt_6 ?_
  refine hv_iload_n (pn := 8) X d_Of_wordAt_7 ?_
  refine hv_iconst (pn := 9) (v := 1) X d_Of_wordAt_8 ?_
  refine hv_iadd (pn := 10) X d_Of_wordAt_9 ?_
  obtain ⟨v2, hv2, hf⟩ := bd_E hf
  refine hv_iald (pn := 11) X d_Of_wordAt_10 hv2 ?_
  refine hv_bipush (pn := 13) (v := 16) X d_Of_wordAt_11 ?_
  refine hv_ishl (pn := 14) X d_Of_wordAt_13 ?_
  refine hv_ior (pn := 15) X d_Of_wordAt_14 ?_
  refine hv_aload_n (pn := 16) X d_Of_wordAt_15 ?_
  refine hv_iload_n (pn := 17) X d_Of_wordAt_16 ?_
  refine hv_iconst (pn := 18) (v := 2) X d_Of_wordAt_17 ?_
  refine hv_iadd (pn := 19) X d_Of_wordAt_18 ?_
  obtain ⟨v3, hv3, hf⟩ := bd_E hf
  refine hv_iald (pn := 20) X d_Of_wordAt_19 hv3 ?_
  refine hv_bipush (pn := 22) (v := 8) X d_Of_wordAt_20 ?_
  refine hv_ishl (pn := 23) X d_Of_wordAt_22 ?_
  refine hv_ior (pn := 24) X d_Of_wordAt_23 ?_
  refine hv_aload_n (pn := 25) X d_Of_wordAt_24 ?_
  refine hv_iload_n (pn := 26) X d_Of_wordAt_25 ?_
  refine hv_iconst (pn := 27) (v := 3) X d_Of_wordAt_26 ?_
  refine hv_iadd (pn := 28) X d_Of_wordAt_27 ?_
  obtain ⟨v4, hv4, hf⟩ := bd_E hf
  refine hv_iald (pn := 29) X d_Of_wordAt_28 hv4 ?_
  refine hv_ior (pn := 30) X d_Of_wordAt_29 ?_
  cases hf
  exact hv_iret X d_Of_wordAt_30 E
set_option maxHeartbeats 4000000 in
set_option maxRecDepth 100000 in
theorem c_Of_chainOf (l : Launch) (G : ho_G) (N : Nat) (σ : ho_H) (x0 : Int32) (r : Int32) (hf : f_Of_chainOf G N σ x0 = some r) : hv_C l G y_Of_chainOf (Cond.code y_Of_chainOf b_Of_chainOf 1 (some (.int)) :: hv_ws) 0 0 [.int x0] σ σ (some (.int r)) := by
  refine hv_met [some (.int x0)] (plainFor_of_name (by decide +kernel)) (by intro v hv; simp at hv; rcases hv with rfl <;> rfl) (Nat.le_of_ble_eq_true rfl) rfl ?_
  intro k X hkl hkG E
  subst hkl
  subst hkG
  unfold f_Of_chainOf at hf
  refine hv_iload_n (pn := 1) X d_Of_chainOf_0 ?_
  refine hv_iconst (pn := 2) (v := 1) X d_Of_chainOf_1 ?_
  refine hv_isub (pn := 3) X d_Of_chainOf_2 ?_
  refine hv_bipush (pn := 5) (v := 64) X d_Of_chainOf_3 ?_
  refine hv_idiv (pn := 6) X d_Of_chainOf_5 (by decide) ?_
  cases hf
  exact hv_iret X d_Of_chainOf_6 E
set_option maxHeartbeats 4000000 in
set_option maxRecDepth 100000 in
theorem c_Of_numberInChain (l : Launch) (G : ho_G) (N : Nat) (σ : ho_H) (x0 : Int32) (r : Int32) (hf : f_Of_numberInChain G N σ x0 = some r) : hv_C l G y_Of_numberInChain (Cond.code y_Of_numberInChain b_Of_numberInChain 1 (some (.int)) :: hv_ws) 0 0 [.int x0] σ σ (some (.int r)) := by
  refine hv_met [some (.int x0)] (plainFor_of_name (by decide +kernel)) (by intro v hv; simp at hv; rcases hv with rfl <;> rfl) (Nat.le_of_ble_eq_true rfl) rfl ?_
  intro k X hkl hkG E
  subst hkl
  subst hkG
  unfold f_Of_numberInChain at hf
  refine hv_iload_n (pn := 1) X d_Of_numberInChain_0 ?_
  refine hv_iconst (pn := 2) (v := 1) X d_Of_numberInChain_1 ?_
  refine hv_isub (pn := 3) X d_Of_numberInChain_2 ?_
  refine hv_bipush (pn := 5) (v := 64) X d_Of_numberInChain_3 ?_
  refine hv_irem (pn := 6) X d_Of_numberInChain_5 (by decide) ?_
  refine hv_iconst (pn := 7) (v := 1) X d_Of_numberInChain_6 ?_
  refine hv_iadd (pn := 8) X d_Of_numberInChain_7 ?_
  cases hf
  exact hv_iret X d_Of_numberInChain_8 E
set_option maxHeartbeats 4000000 in
set_option maxRecDepth 100000 in
theorem w_Mt_floorMod_j18 {k : mk_T} (X : hv_X k b_Mt_floorMod y_Mt_floorMod.cls 3 0 0 (some (.int)) y_Mt_floorMod.name) (N : Nat) (σ : ho_H) (x2 : Int32)  (r : Int32) (hf : f_Mt_floorMod_j18 k.2.1 N σ x2 = some r) (E : hv_end k σ (some (.int r))) : hv_V k σ 18 [none, none, some (.int x2)] [] := by
  unfold f_Mt_floorMod_j18 at hf
  refine hv_iload_n (pn := 19) X d_Mt_floorMod_18 ?_
  cases hf
  exact hv_iret X d_Mt_floorMod_19 E
set_option maxHeartbeats 4000000 in
set_option maxRecDepth 100000 in
theorem c_Mt_floorMod (l : Launch) (G : ho_G) (N : Nat) (σ : ho_H) (x0 : Int32) (x1 : Int32) (r : Int32) (hf : f_Mt_floorMod G N σ x0 x1 = some r) : hv_C l G y_Mt_floorMod (Cond.code y_Mt_floorMod b_Mt_floorMod 3 (some (.int)) :: hv_ws) 0 0 [.int x0, .int x1] σ σ (some (.int r)) := by
  refine hv_met [some (.int x0), some (.int x1), none] (by decide +kernel) (by intro v hv; simp at hv; rcases hv with rfl | rfl <;> rfl) (Nat.le_of_ble_eq_true rfl) rfl ?_
  intro k X hkl hkG E
  subst hkl
  subst hkG
  unfold f_Mt_floorMod at hf
  refine hv_iload_n (pn := 1) X d_Mt_floorMod_0 ?_
  refine hv_iload_n (pn := 2) X d_Mt_floorMod_1 ?_
  obtain ⟨_, hz, hf⟩ := bd_E hf
  refine hv_irem (pn := 3) X d_Mt_floorMod_2 (ho_nz_E hz) ?_
  refine hv_istore_n (pn := 4) (i := 2) (lo' := [some (.int x0), some (.int x1), some (.int (ho_rm x0 x1))]) X d_Mt_floorMod_3 ?_
  refine hv_iload_n (pn := 5) X d_Mt_floorMod_4 ?_
  refine hv_iload_n (pn := 6) X d_Mt_floorMod_5 ?_
  refine hv_ixor (pn := 7) X d_Mt_floorMod_6 ?_
  refine hv_if_ge (pn := 10) (tgt := 18) X d_Mt_floorMod_7 (by decide) (fun hc => ?_) (fun hc => ?_)
  · rw [if_pos hc] at hf
    refine hv_drop (i := 0) (lo' := [none, some (.int x1), some (.int (ho_rm x0 x1))]) ?_
    refine hv_drop (i := 1) (lo' := [none, none, some (.int (ho_rm x0 x1))]) ?_
    exact w_Mt_floorMod_j18 X N σ (ho_rm x0 x1)  _ hf E
  · rw [if_neg hc] at hf
    refine hv_iload_n (pn := 11) X d_Mt_floorMod_10 ?_
    refine hv_if_eq (pn := 14) (tgt := 18) X d_Mt_floorMod_11 (by decide) (fun hc => ?_) (fun hc => ?_)
    · rw [if_pos hc] at hf
      refine hv_drop (i := 0) (lo' := [none, some (.int x1), some (.int (ho_rm x0 x1))]) ?_
      refine hv_drop (i := 1) (lo' := [none, none, some (.int (ho_rm x0 x1))]) ?_
      exact w_Mt_floorMod_j18 X N σ (ho_rm x0 x1)  _ hf E
    · rw [if_neg hc] at hf
      refine hv_iload_n (pn := 15) X d_Mt_floorMod_14 ?_
      refine hv_iload_n (pn := 16) X d_Mt_floorMod_15 ?_
      refine hv_iadd (pn := 17) X d_Mt_floorMod_16 ?_
      cases hf
      exact hv_iret X d_Mt_floorMod_17 E
set_option maxHeartbeats 4000000 in
set_option maxRecDepth 100000 in
theorem w_Ar_fill_l5 {k : mk_T} (X : hv_X k b_Ar_fill y_Ar_fill.cls 4 0 0 none y_Ar_fill.name) (N : Nat) (a0 : Nat) (x1 : Int32) (x3 : Int32) (σ : ho_H) (x2 : Int32) (r : (ho_H × Int32) ⊕ (ho_H)) (hf : f_Ar_fill_l5 k.2.1 N a0 x1 x3 (σ, x2) = some r) (E : sm (fun s => hv_V k s.1 5 [some (.ref a0), some (.int x1), some (.int s.2), some (.int x3)] []) (fun s => hv_V k s 20 [none, none, none, none] []) r) : hv_V k σ 5 [some (.ref a0), some (.int x1), some (.int x2), some (.int x3)] [] := by
  unfold f_Ar_fill_l5 at hf
  try dsimp only at hf
  refine hv_iload_n (pn := 6) X d_Ar_fill_5 ?_
  refine hv_iload_n (pn := 7) X d_Ar_fill_6 ?_
  refine hv_icmp_ge (pn := 10) (tgt := 20) X d_Ar_fill_7 (by decide) (fun hc => ?_) (fun hc => ?_)
  · rw [if_pos hc] at hf
    refine hv_drop (i := 0) (lo' := [none, some (.int x1), some (.int x2), some (.int x3)]) ?_
    refine hv_drop (i := 1) (lo' := [none, none, some (.int x2), some (.int x3)]) ?_
    refine hv_drop (i := 2) (lo' := [none, none, none, some (.int x3)]) ?_
    refine hv_drop (i := 3) (lo' := [none, none, none, none]) ?_
    cases hf
    exact E
  · rw [if_neg hc] at hf
    refine hv_aload_n (pn := 11) X d_Ar_fill_10 ?_
    refine hv_iload_n (pn := 12) X d_Ar_fill_11 ?_
    refine hv_iload_n (pn := 13) X d_Ar_fill_12 ?_
    obtain ⟨σ2, hσ2, hf⟩ := bd_E hf
    refine hv_iast (pn := 14) X d_Ar_fill_13 hσ2 ?_
    refine hv_iinc (pn := 17) (i := 2) (v := x2 + 1) (lo' := [some (.ref a0), some (.int x1), some (.int (x2 + 1)), some (.int x3)]) X d_Ar_fill_14 ?_
    refine hv_goto (tgt := 5) X d_Ar_fill_17 (by decide) ?_
    cases hf
    exact E
set_option maxHeartbeats 4000000 in
set_option maxRecDepth 100000 in
theorem c_Ar_fill (l : Launch) (G : ho_G) (N : Nat) (σ : ho_H) (a0 : Nat) (x1 : Int32) (σ' : ho_H) (hf : f_Ar_fill G N σ a0 x1 = some σ') : hv_C l G y_Ar_fill (Cond.code y_Ar_fill b_Ar_fill 4 none :: hv_ws) 0 0 [.ref a0, .int x1] σ σ' (none) := by
  refine hv_met [some (.ref a0), some (.int x1), none, none] (plainFor_of_name (by decide +kernel)) (by intro v hv; simp at hv; rcases hv with rfl | rfl <;> rfl) (Nat.le_of_ble_eq_true rfl) rfl ?_
  intro k X hkl hkG E
  subst hkl
  subst hkG
  unfold f_Ar_fill at hf
  refine hv_iconst (pn := 1) (v := 0) X d_Ar_fill_0 ?_
  refine hv_istore_n (pn := 2) (i := 2) (lo' := [some (.ref a0), some (.int x1), some (.int 0), none]) X d_Ar_fill_1 ?_
  refine hv_aload_n (pn := 3) X d_Ar_fill_2 ?_
  obtain ⟨v1, hv1, hf⟩ := bd_E hf
  refine hv_alenI (pn := 4) X d_Ar_fill_3 hv1 ?_
  refine hv_istore_n (pn := 5) (i := 3) (lo' := [some (.ref a0), some (.int x1), some (.int 0), some (.int v1)]) X d_Ar_fill_4 ?_
  obtain ⟨σ3, he5, hf⟩ := bd_E hf
  refine hv_loop (P := fun s => hv_V k s.1 5 [some (.ref a0), some (.int x1), some (.int s.2), some (.int v1)] []) (Z := fun s => hv_V k s 20 [none, none, none, none] []) (fun s r h1 h2 => by obtain ⟨σ, x2⟩ := s; exact w_Ar_fill_l5 X N a0 x1 v1 σ x2 r h1 h2) N (σ, 0) _ he5 ?_
  try dsimp only at hf ⊢
  cases hf
  exact hv_vret X d_Ar_fill_20 E
set_option maxHeartbeats 4000000 in
set_option maxRecDepth 100000 in
theorem c_Sl_clear (l : Launch) (G : ho_G) (N : Nat) (σ : ho_H) (a0 : Nat) (σ' : ho_H) (hf : f_Sl_clear G N σ a0 = some σ') : hv_C l G y_Sl_clear (Cond.code y_Sl_clear b_Sl_clear 1 none :: hv_ws) 1 23 [.ref a0] σ σ' (none) := by
  refine hv_met [some (.ref a0)] (plainFor_of_name (by decide +kernel)) (by intro v hv; simp at hv; rcases hv with rfl <;> rfl) (Nat.le_of_ble_eq_true rfl) rfl ?_
  intro k X hkl hkG E
  subst hkl
  subst hkG
  unfold f_Sl_clear at hf
  refine hv_aload_n (pn := 1) X d_Sl_clear_0 ?_
  obtain ⟨b1, hb1, hf⟩ := bd_E hf
  refine hv_getR (pn := 4) X d_Sl_clear_1 fa_Sl_16 hb1 ?_
  refine hv_iconst (pn := 5) (v := 0) X d_Sl_clear_4 ?_
  obtain ⟨σ2, hσ2, hf⟩ := bd_E hf
  obtain ⟨hσ2, mσ2⟩ := ho_cv_E hσ2
  refine hv_callS (pn := 8) X d_Sl_clear_5 (c_Ar_fill _ _ N σ b1 0 _ hσ2) cs_Sl_22 q_2_64 (by decide) (by decide) mσ2 (Nat.le_of_ble_eq_true rfl) ?_
  refine hv_aload_n (pn := 9) X d_Sl_clear_8 ?_
  refine hv_iconst (pn := 10) (v := 0) X d_Sl_clear_9 ?_
  obtain ⟨σ3, hσ3, hf⟩ := bd_E hf
  refine hv_put (pn := 13) X d_Sl_clear_10 fp_Sl_28 hσ3 ?_
  cases hf
  exact hv_vret X d_Sl_clear_13 E
set_option maxHeartbeats 4000000 in
set_option maxRecDepth 100000 in
theorem w_Sl_addByte_j47 {k : mk_T} (X : hv_X k b_Sl_addByte y_Sl_addByte.cls 2 0 0 none y_Sl_addByte.name) (N : Nat) (σ : ho_H)   (r : ho_H) (hf : f_Sl_addByte_j47 k.2.1 N σ  = some r) (E : hv_end k r none) : hv_V k σ 47 [none, none] [] := by
  unfold f_Sl_addByte_j47 at hf
  cases hf
  exact hv_vret X d_Sl_addByte_47 E
set_option maxHeartbeats 4000000 in
set_option maxRecDepth 100000 in
theorem c_Sl_addByte (l : Launch) (G : ho_G) (N : Nat) (σ : ho_H) (a0 : Nat) (x1 : Int32) (σ' : ho_H) (hf : f_Sl_addByte G N σ a0 x1 = some σ') : hv_C l G y_Sl_addByte (Cond.code y_Sl_addByte b_Sl_addByte 2 none :: hv_ws) 0 0 [.ref a0, .int x1] σ σ' (none) := by
  refine hv_met [some (.ref a0), some (.int x1)] (plainFor_of_name (by decide +kernel)) (by intro v hv; simp at hv; rcases hv with rfl | rfl <;> rfl) (Nat.le_of_ble_eq_true rfl) rfl ?_
  intro k X hkl hkG E
  subst hkl
  subst hkG
  unfold f_Sl_addByte at hf
  refine hv_aload_n (pn := 1) X d_Sl_addByte_0 ?_
  obtain ⟨v1, hv1, hf⟩ := bd_E hf
  refine hv_getI (pn := 4) X d_Sl_addByte_1 fa_Sl_28 hv1 ?_
  refine hv_bipush (pn := 6) (v := 120) X d_Sl_addByte_4 ?_
  refine hv_icmp_ge (pn := 9) (tgt := 47) X d_Sl_addByte_6 (by decide) (fun hc => ?_) (fun hc => ?_)
  · rw [if_pos hc] at hf
    refine hv_drop (i := 0) (lo' := [none, some (.int x1)]) ?_
    refine hv_drop (i := 1) (lo' := [none, none]) ?_
    exact w_Sl_addByte_j47 X N σ   _ hf E
  · rw [if_neg hc] at hf
    refine hv_aload_n (pn := 10) X d_Sl_addByte_9 ?_
    obtain ⟨b2, hb2, hf⟩ := bd_E hf
    refine hv_getR (pn := 13) X d_Sl_addByte_10 fa_Sl_16 hb2 ?_
    refine hv_aload_n (pn := 14) X d_Sl_addByte_13 ?_
    obtain ⟨v3, hv3, hf⟩ := bd_E hf
    refine hv_getI (pn := 17) X d_Sl_addByte_14 fa_Sl_28 hv3 ?_
    refine hv_iconst (pn := 18) (v := 4) X d_Sl_addByte_17 ?_
    refine hv_idiv (pn := 19) X d_Sl_addByte_18 (by decide) ?_
    refine hv_dup2 (pn := 20) X d_Sl_addByte_19 rfl rfl ?_
    obtain ⟨v4, hv4, hf⟩ := bd_E hf
    refine hv_iald (pn := 21) X d_Sl_addByte_20 hv4 ?_
    refine hv_iload_n (pn := 22) X d_Sl_addByte_21 ?_
    refine hv_bipush (pn := 24) (v := 24) X d_Sl_addByte_22 ?_
    refine hv_bipush (pn := 26) (v := 8) X d_Sl_addByte_24 ?_
    refine hv_aload_n (pn := 27) X d_Sl_addByte_26 ?_
    obtain ⟨v5, hv5, hf⟩ := bd_E hf
    refine hv_getI (pn := 30) X d_Sl_addByte_27 fa_Sl_28 hv5 ?_
    refine hv_iconst (pn := 31) (v := 4) X d_Sl_addByte_30 ?_
    refine hv_irem (pn := 32) X d_Sl_addByte_31 (by decide) ?_
    refine hv_imul (pn := 33) X d_Sl_addByte_32 ?_
    refine hv_isub (pn := 34) X d_Sl_addByte_33 ?_
    refine hv_ishl (pn := 35) X d_Sl_addByte_34 ?_
    refine hv_ior (pn := 36) X d_Sl_addByte_35 ?_
    obtain ⟨σ6, hσ6, hf⟩ := bd_E hf
    refine hv_iast (pn := 37) X d_Sl_addByte_36 hσ6 ?_
    refine hv_aload_n (pn := 38) X d_Sl_addByte_37 ?_
    refine hv_dup (pn := 39) X d_Sl_addByte_38 rfl ?_
    obtain ⟨v7, hv7, hf⟩ := bd_E hf
    refine hv_getI (pn := 42) X d_Sl_addByte_39 fa_Sl_28 hv7 ?_
    refine hv_iconst (pn := 43) (v := 1) X d_Sl_addByte_42 ?_
    refine hv_iadd (pn := 44) X d_Sl_addByte_43 ?_
    obtain ⟨σ8, hσ8, hf⟩ := bd_E hf
    refine hv_put (pn := 47) X d_Sl_addByte_44 fp_Sl_28 hσ8 ?_
    refine hv_drop (i := 0) (lo' := [none, some (.int x1)]) ?_
    refine hv_drop (i := 1) (lo' := [none, none]) ?_
    exact w_Sl_addByte_j47 X N σ8   _ hf E
set_option maxHeartbeats 4000000 in
set_option maxRecDepth 100000 in
theorem w_Sl_spreadBlock_l18 {k : mk_T} (X : hv_X k b_Sl_spreadBlock y_Sl_spreadBlock.cls 7 1 60 none y_Sl_spreadBlock.name) (N : Nat) (a0 : Nat) (σ : ho_H) (x2 : Int32) (r : (ho_H × Int32) ⊕ (ho_H)) (hf : f_Sl_spreadBlock_l18 k.2.1 N a0 (σ, x2) = some r) (E : sm (fun s => hv_V k s.1 18 [some (.ref a0), none, some (.int s.2), none, none, none, none] []) (fun s => hv_V k s 137 [none, none, none, none, none, none, none] []) r) : hv_V k σ 18 [some (.ref a0), none, some (.int x2), none, none, none, none] [] := by
  unfold f_Sl_spreadBlock_l18 at hf
  try dsimp only at hf
  refine hv_iload_n (pn := 19) X d_Sl_spreadBlock_18 ?_
  refine hv_bipush (pn := 21) (v := 64) X d_Sl_spreadBlock_19 ?_
  refine hv_icmp_ge (pn := 24) (tgt := 137) X d_Sl_spreadBlock_21 (by decide) (fun hc => ?_) (fun hc => ?_)
  · rw [if_pos hc] at hf
    refine hv_drop (i := 0) (lo' := [none, none, some (.int x2), none, none, none, none]) ?_
    refine hv_drop (i := 2) (lo' := [none, none, none, none, none, none, none]) ?_
    cases hf
    exact E
  · rw [if_neg hc] at hf
    refine hv_aload_n (pn := 25) X d_Sl_spreadBlock_24 ?_
    obtain ⟨b4, hb4, hf⟩ := bd_E hf
    refine hv_getR (pn := 28) X d_Sl_spreadBlock_25 fa_Sl_19 hb4 ?_
    refine hv_iload_n (pn := 29) X d_Sl_spreadBlock_28 ?_
    refine hv_bipush (pn := 31) (v := 15) X d_Sl_spreadBlock_29 ?_
    refine hv_isub (pn := 32) X d_Sl_spreadBlock_31 ?_
    obtain ⟨v5, hv5, hf⟩ := bd_E hf
    refine hv_iald (pn := 33) X d_Sl_spreadBlock_32 hv5 ?_
    refine hv_istore_n (pn := 34) (i := 3) (lo' := [some (.ref a0), none, some (.int x2), some (.int v5), none, none, none]) X d_Sl_spreadBlock_33 ?_
    refine hv_aload_n (pn := 35) X d_Sl_spreadBlock_34 ?_
    obtain ⟨b6, hb6, hf⟩ := bd_E hf
    refine hv_getR (pn := 38) X d_Sl_spreadBlock_35 fa_Sl_19 hb6 ?_
    refine hv_iload_n (pn := 39) X d_Sl_spreadBlock_38 ?_
    refine hv_iconst (pn := 40) (v := 2) X d_Sl_spreadBlock_39 ?_
    refine hv_isub (pn := 41) X d_Sl_spreadBlock_40 ?_
    obtain ⟨v7, hv7, hf⟩ := bd_E hf
    refine hv_iald (pn := 42) X d_Sl_spreadBlock_41 hv7 ?_
    refine hv_istore (pn := 44) (i := 4) (lo' := [some (.ref a0), none, some (.int x2), some (.int v5), some (.int v7), none, none]) X d_Sl_spreadBlock_42 ?_
    refine hv_iload_n (pn := 45) X d_Sl_spreadBlock_44 ?_
    refine hv_bipush (pn := 47) (v := 7) X d_Sl_spreadBlock_45 ?_
    refine hv_iushr (pn := 48) X d_Sl_spreadBlock_47 ?_
    refine hv_iload_n (pn := 49) X d_Sl_spreadBlock_48 ?_
    refine hv_bipush (pn := 51) (v := 25) X d_Sl_spreadBlock_49 ?_
    refine hv_ishl (pn := 52) X d_Sl_spreadBlock_51 ?_
    refine hv_ior (pn := 53) X d_Sl_spreadBlock_52 ?_
    refine hv_iload_n (pn := 54) X d_Sl_spreadBlock_53 ?_
    refine hv_bipush (pn := 56) (v := 18) X d_Sl_spreadBlock_54 ?_
    refine hv_iushr (pn := 57) X d_Sl_spreadBlock_56 ?_
    refine hv_iload_n (pn := 58) X d_Sl_spreadBlock_57 ?_
    refine hv_bipush (pn := 60) (v := 14) X d_Sl_spreadBlock_58 ?_
    refine hv_ishl (pn := 61) X d_Sl_spreadBlock_60 ?_
    refine hv_ior (pn := 62) X d_Sl_spreadBlock_61 ?_
    refine hv_ixor (pn := 63) X d_Sl_spreadBlock_62 ?_
    refine hv_iload_n (pn := 64) X d_Sl_spreadBlock_63 ?_
    refine hv_iconst (pn := 65) (v := 3) X d_Sl_spreadBlock_64 ?_
    refine hv_iushr (pn := 66) X d_Sl_spreadBlock_65 ?_
    refine hv_ixor (pn := 67) X d_Sl_spreadBlock_66 ?_
    obtain ⟨v8, hv8, hf⟩ := nm_E hf
    refine hv_topi hv8 ?_
    refine hv_istore (pn := 69) (i := 5) (lo' := [some (.ref a0), none, some (.int x2), some (.int v5), some (.int v7), some (.int v8), none]) X d_Sl_spreadBlock_67 ?_
    refine hv_iload (pn := 71) X d_Sl_spreadBlock_69 ?_
    refine hv_bipush (pn := 73) (v := 17) X d_Sl_spreadBlock_71 ?_
    refine hv_iushr (pn := 74) X d_Sl_spreadBlock_73 ?_
    refine hv_iload (pn := 76) X d_Sl_spreadBlock_74 ?_
    refine hv_bipush (pn := 78) (v := 15) X d_Sl_spreadBlock_76 ?_
    refine hv_ishl (pn := 79) X d_Sl_spreadBlock_78 ?_
    refine hv_ior (pn := 80) X d_Sl_spreadBlock_79 ?_
    refine hv_iload (pn := 82) X d_Sl_spreadBlock_80 ?_
    refine hv_bipush (pn := 84) (v := 19) X d_Sl_spreadBlock_82 ?_
    refine hv_iushr (pn := 85) X d_Sl_spreadBlock_84 ?_
    refine hv_iload (pn := 87) X d_Sl_spreadBlock_85 ?_
    refine hv_bipush (pn := 89) (v := 13) X d_Sl_spreadBlock_87 ?_
    refine hv_ishl (pn := 90) X d_Sl_spreadBlock_89 ?_
    refine hv_ior (pn := 91) X d_Sl_spreadBlock_90 ?_
    refine hv_ixor (pn := 92) X d_Sl_spreadBlock_91 ?_
    refine hv_iload (pn := 94) X d_Sl_spreadBlock_92 ?_
    refine hv_bipush (pn := 96) (v := 10) X d_Sl_spreadBlock_94 ?_
    refine hv_iushr (pn := 97) X d_Sl_spreadBlock_96 ?_
    refine hv_ixor (pn := 98) X d_Sl_spreadBlock_97 ?_
    obtain ⟨v9, hv9, hf⟩ := nm_E hf
    refine hv_topi hv9 ?_
    refine hv_istore (pn := 100) (i := 6) (lo' := [some (.ref a0), none, some (.int x2), some (.int v5), some (.int v7), some (.int v8), some (.int v9)]) X d_Sl_spreadBlock_98 ?_
    refine hv_aload_n (pn := 101) X d_Sl_spreadBlock_100 ?_
    obtain ⟨b10, hb10, hf⟩ := bd_E hf
    refine hv_getR (pn := 104) X d_Sl_spreadBlock_101 fa_Sl_19 hb10 ?_
    refine hv_iload_n (pn := 105) X d_Sl_spreadBlock_104 ?_
    refine hv_aload_n (pn := 106) X d_Sl_spreadBlock_105 ?_
    obtain ⟨b11, hb11, hf⟩ := bd_E hf
    refine hv_getR (pn := 109) X d_Sl_spreadBlock_106 fa_Sl_19 hb11 ?_
    refine hv_iload_n (pn := 110) X d_Sl_spreadBlock_109 ?_
    refine hv_bipush (pn := 112) (v := 16) X d_Sl_spreadBlock_110 ?_
    refine hv_isub (pn := 113) X d_Sl_spreadBlock_112 ?_
    obtain ⟨v12, hv12, hf⟩ := bd_E hf
    refine hv_iald (pn := 114) X d_Sl_spreadBlock_113 hv12 ?_
    refine hv_aload_n (pn := 115) X d_Sl_spreadBlock_114 ?_
    obtain ⟨b13, hb13, hf⟩ := bd_E hf
    refine hv_getR (pn := 118) X d_Sl_spreadBlock_115 fa_Sl_19 hb13 ?_
    refine hv_iload_n (pn := 119) X d_Sl_spreadBlock_118 ?_
    refine hv_bipush (pn := 121) (v := 7) X d_Sl_spreadBlock_119 ?_
    refine hv_isub (pn := 122) X d_Sl_spreadBlock_121 ?_
    obtain ⟨v14, hv14, hf⟩ := bd_E hf
    refine hv_iald (pn := 123) X d_Sl_spreadBlock_122 hv14 ?_
    refine hv_iadd (pn := 124) X d_Sl_spreadBlock_123 ?_
    refine hv_iload (pn := 126) X d_Sl_spreadBlock_124 ?_
    refine hv_iadd (pn := 127) X d_Sl_spreadBlock_126 ?_
    refine hv_iload (pn := 129) X d_Sl_spreadBlock_127 ?_
    refine hv_iadd (pn := 130) X d_Sl_spreadBlock_129 ?_
    obtain ⟨σ15, hσ15, hf⟩ := bd_E hf
    refine hv_iast (pn := 131) X d_Sl_spreadBlock_130 hσ15 ?_
    refine hv_iinc (pn := 134) (i := 2) (v := x2 + 1) (lo' := [some (.ref a0), none, some (.int (x2 + 1)), some (.int v5), some (.int v7), some (.int v8), some (.int v9)]) X d_Sl_spreadBlock_131 ?_
    refine hv_goto (tgt := 18) X d_Sl_spreadBlock_134 (by decide) ?_
    refine hv_drop (i := 3) (lo' := [some (.ref a0), none, some (.int (x2 + 1)), none, some (.int v7), some (.int v8), some (.int v9)]) ?_
    refine hv_drop (i := 4) (lo' := [some (.ref a0), none, some (.int (x2 + 1)), none, none, some (.int v8), some (.int v9)]) ?_
    refine hv_drop (i := 5) (lo' := [some (.ref a0), none, some (.int (x2 + 1)), none, none, none, some (.int v9)]) ?_
    refine hv_drop (i := 6) (lo' := [some (.ref a0), none, some (.int (x2 + 1)), none, none, none, none]) ?_
    cases hf
    exact E
set_option maxHeartbeats 4000000 in
set_option maxRecDepth 100000 in
theorem c_Sl_spreadBlock (l : Launch) (G : ho_G) (N : Nat) (σ : ho_H) (a0 : Nat) (x1 : Int32) (σ' : ho_H) (hf : f_Sl_spreadBlock G N σ a0 x1 = some σ') : hv_C l G y_Sl_spreadBlock (Cond.code y_Sl_spreadBlock b_Sl_spreadBlock 7 none :: hv_ws) 1 60 [.ref a0, .int x1] σ σ' (none) := by
  refine hv_met [some (.ref a0), some (.int x1), none, none, none, none, none] (plainFor_of_name (by decide +kernel)) (by intro v hv; simp at hv; rcases hv with rfl | rfl <;> rfl) (Nat.le_of_ble_eq_true rfl) rfl ?_
  intro k X hkl hkG E
  subst hkl
  subst hkG
  unfold f_Sl_spreadBlock at hf
  refine hv_aload_n (pn := 1) X d_Sl_spreadBlock_0 ?_
  obtain ⟨b1, hb1, hf⟩ := bd_E hf
  refine hv_getR (pn := 4) X d_Sl_spreadBlock_1 fa_Sl_16 hb1 ?_
  refine hv_iload_n (pn := 5) X d_Sl_spreadBlock_4 ?_
  refine hv_aload_n (pn := 6) X d_Sl_spreadBlock_5 ?_
  obtain ⟨b2, hb2, hf⟩ := bd_E hf
  refine hv_getR (pn := 9) X d_Sl_spreadBlock_6 fa_Sl_19 hb2 ?_
  refine hv_iconst (pn := 10) (v := 0) X d_Sl_spreadBlock_9 ?_
  refine hv_bipush (pn := 12) (v := 16) X d_Sl_spreadBlock_10 ?_
  obtain ⟨σ3, hσ3, hf⟩ := bd_E hf
  refine hv_cpI (pn := 15) X d_Sl_spreadBlock_12 q_2_76 q_2_78 q_2_77 q_1_16 hσ3 (by decide) (by decide +kernel) (Nat.le_of_ble_eq_true rfl) ?_
  refine hv_bipush (pn := 17) (v := 16) X d_Sl_spreadBlock_15 ?_
  refine hv_istore_n (pn := 18) (i := 2) (lo' := [some (.ref a0), some (.int x1), some (.int 16), none, none, none, none]) X d_Sl_spreadBlock_17 ?_
  refine hv_drop (i := 1) (lo' := [some (.ref a0), none, some (.int 16), none, none, none, none]) ?_
  obtain ⟨σ16, he18, hf⟩ := bd_E hf
  refine hv_loop (P := fun s => hv_V k s.1 18 [some (.ref a0), none, some (.int s.2), none, none, none, none] []) (Z := fun s => hv_V k s 137 [none, none, none, none, none, none, none] []) (fun s r h1 h2 => by obtain ⟨σ, x2⟩ := s; exact w_Sl_spreadBlock_l18 X N a0 σ x2 r h1 h2) N (σ3, 16) _ he18 ?_
  try dsimp only at hf ⊢
  cases hf
  exact hv_vret X d_Sl_spreadBlock_137 E
set_option maxHeartbeats 4000000 in
set_option maxRecDepth 100000 in
theorem w_Sl_mixBlock_l66 {k : mk_T} (X : hv_X k b_Sl_mixBlock y_Sl_mixBlock.cls 12 0 0 none y_Sl_mixBlock.name) (N : Nat) (σ : ho_H) (a0 : Nat) (x1 : Int32) (x2 : Int32) (x3 : Int32) (x4 : Int32) (x5 : Int32) (x6 : Int32) (x7 : Int32) (x8 : Int32) (x9 : Int32) (r : (Int32 × Int32 × Int32 × Int32 × Int32 × Int32 × Int32 × Int32 × Int32) ⊕ (Int32 × Int32 × Int32 × Int32 × Int32 × Int32 × Int32 × Int32)) (hf : f_Sl_mixBlock_l66 k.2.1 N σ a0 (x1, x2, x3, x4, x5, x6, x7, x8, x9) = some r) (E : sm (fun s => hv_V k σ 66 [some (.ref a0), some (.int s.1), some (.int s.2.1), some (.int s.2.2.1), some (.int s.2.2.2.1), some (.int s.2.2.2.2.1), some (.int s.2.2.2.2.2.1), some (.int s.2.2.2.2.2.2.1), some (.int s.2.2.2.2.2.2.2.1), some (.int s.2.2.2.2.2.2.2.2), none, none] []) (fun s => hv_V k σ 222 [some (.ref a0), some (.int s.1), some (.int s.2.1), some (.int s.2.2.1), some (.int s.2.2.2.1), some (.int s.2.2.2.2.1), some (.int s.2.2.2.2.2.1), some (.int s.2.2.2.2.2.2.1), some (.int s.2.2.2.2.2.2.2), none, none, none] []) r) : hv_V k σ 66 [some (.ref a0), some (.int x1), some (.int x2), some (.int x3), some (.int x4), some (.int x5), some (.int x6), some (.int x7), some (.int x8), some (.int x9), none, none] [] := by
  unfold f_Sl_mixBlock_l66 at hf
  try dsimp only at hf
  refine hv_iload (pn := 68) X d_Sl_mixBlock_66 ?_
  refine hv_bipush (pn := 70) (v := 64) X d_Sl_mixBlock_68 ?_
  refine hv_icmp_ge (pn := 73) (tgt := 222) X d_Sl_mixBlock_70 (by decide) (fun hc => ?_) (fun hc => ?_)
  · rw [if_pos hc] at hf
    refine hv_drop (i := 9) (lo' := [some (.ref a0), some (.int x1), some (.int x2), some (.int x3), some (.int x4), some (.int x5), some (.int x6), some (.int x7), some (.int x8), none, none, none]) ?_
    cases hf
    exact E
  · rw [if_neg hc] at hf
    refine hv_iload (pn := 75) X d_Sl_mixBlock_73 ?_
    refine hv_iload (pn := 77) X d_Sl_mixBlock_75 ?_
    refine hv_bipush (pn := 79) (v := 6) X d_Sl_mixBlock_77 ?_
    refine hv_iushr (pn := 80) X d_Sl_mixBlock_79 ?_
    refine hv_iload (pn := 82) X d_Sl_mixBlock_80 ?_
    refine hv_bipush (pn := 84) (v := 26) X d_Sl_mixBlock_82 ?_
    refine hv_ishl (pn := 85) X d_Sl_mixBlock_84 ?_
    refine hv_ior (pn := 86) X d_Sl_mixBlock_85 ?_
    refine hv_iload (pn := 88) X d_Sl_mixBlock_86 ?_
    refine hv_bipush (pn := 90) (v := 11) X d_Sl_mixBlock_88 ?_
    refine hv_iushr (pn := 91) X d_Sl_mixBlock_90 ?_
    refine hv_iload (pn := 93) X d_Sl_mixBlock_91 ?_
    refine hv_bipush (pn := 95) (v := 21) X d_Sl_mixBlock_93 ?_
    refine hv_ishl (pn := 96) X d_Sl_mixBlock_95 ?_
    refine hv_ior (pn := 97) X d_Sl_mixBlock_96 ?_
    refine hv_ixor (pn := 98) X d_Sl_mixBlock_97 ?_
    refine hv_iload (pn := 100) X d_Sl_mixBlock_98 ?_
    refine hv_bipush (pn := 102) (v := 25) X d_Sl_mixBlock_100 ?_
    refine hv_iushr (pn := 103) X d_Sl_mixBlock_102 ?_
    refine hv_iload (pn := 105) X d_Sl_mixBlock_103 ?_
    refine hv_bipush (pn := 107) (v := 7) X d_Sl_mixBlock_105 ?_
    refine hv_ishl (pn := 108) X d_Sl_mixBlock_107 ?_
    refine hv_ior (pn := 109) X d_Sl_mixBlock_108 ?_
    refine hv_ixor (pn := 110) X d_Sl_mixBlock_109 ?_
    refine hv_iadd (pn := 111) X d_Sl_mixBlock_110 ?_
    refine hv_iload (pn := 113) X d_Sl_mixBlock_111 ?_
    refine hv_iload (pn := 115) X d_Sl_mixBlock_113 ?_
    refine hv_iand (pn := 116) X d_Sl_mixBlock_115 ?_
    refine hv_iload (pn := 118) X d_Sl_mixBlock_116 ?_
    refine hv_iconst (pn := 119) (v := (-1)) X d_Sl_mixBlock_118 ?_
    refine hv_ixor (pn := 120) X d_Sl_mixBlock_119 ?_
    refine hv_iload (pn := 122) X d_Sl_mixBlock_120 ?_
    refine hv_iand (pn := 123) X d_Sl_mixBlock_122 ?_
    refine hv_ior (pn := 124) X d_Sl_mixBlock_123 ?_
    refine hv_iadd (pn := 125) X d_Sl_mixBlock_124 ?_
    refine hv_gets (pn := 128) X d_Sl_mixBlock_125 (i := 1) rfl q_2_87 (Or.inl rfl) ?_
    refine hv_iload (pn := 130) X d_Sl_mixBlock_128 ?_
    obtain ⟨v17, hv17, hf⟩ := bd_E hf
    refine hv_iald (pn := 131) X d_Sl_mixBlock_130 hv17 ?_
    refine hv_iadd (pn := 132) X d_Sl_mixBlock_131 ?_
    refine hv_aload_n (pn := 133) X d_Sl_mixBlock_132 ?_
    obtain ⟨b18, hb18, hf⟩ := bd_E hf
    refine hv_getR (pn := 136) X d_Sl_mixBlock_133 fa_Sl_19 hb18 ?_
    refine hv_iload (pn := 138) X d_Sl_mixBlock_136 ?_
    obtain ⟨v19, hv19, hf⟩ := bd_E hf
    refine hv_iald (pn := 139) X d_Sl_mixBlock_138 hv19 ?_
    refine hv_iadd (pn := 140) X d_Sl_mixBlock_139 ?_
    obtain ⟨v20, hv20, hf⟩ := nm_E hf
    refine hv_topi hv20 ?_
    refine hv_istore (pn := 142) (i := 10) (lo' := [some (.ref a0), some (.int x1), some (.int x2), some (.int x3), some (.int x4), some (.int x5), some (.int x6), some (.int x7), some (.int x8), some (.int x9), some (.int v20), none]) X d_Sl_mixBlock_140 ?_
    refine hv_iload_n (pn := 143) X d_Sl_mixBlock_142 ?_
    refine hv_iconst (pn := 144) (v := 2) X d_Sl_mixBlock_143 ?_
    refine hv_iushr (pn := 145) X d_Sl_mixBlock_144 ?_
    refine hv_iload_n (pn := 146) X d_Sl_mixBlock_145 ?_
    refine hv_bipush (pn := 148) (v := 30) X d_Sl_mixBlock_146 ?_
    refine hv_ishl (pn := 149) X d_Sl_mixBlock_148 ?_
    refine hv_ior (pn := 150) X d_Sl_mixBlock_149 ?_
    refine hv_iload_n (pn := 151) X d_Sl_mixBlock_150 ?_
    refine hv_bipush (pn := 153) (v := 13) X d_Sl_mixBlock_151 ?_
    refine hv_iushr (pn := 154) X d_Sl_mixBlock_153 ?_
    refine hv_iload_n (pn := 155) X d_Sl_mixBlock_154 ?_
    refine hv_bipush (pn := 157) (v := 19) X d_Sl_mixBlock_155 ?_
    refine hv_ishl (pn := 158) X d_Sl_mixBlock_157 ?_
    refine hv_ior (pn := 159) X d_Sl_mixBlock_158 ?_
    refine hv_ixor (pn := 160) X d_Sl_mixBlock_159 ?_
    refine hv_iload_n (pn := 161) X d_Sl_mixBlock_160 ?_
    refine hv_bipush (pn := 163) (v := 22) X d_Sl_mixBlock_161 ?_
    refine hv_iushr (pn := 164) X d_Sl_mixBlock_163 ?_
    refine hv_iload_n (pn := 165) X d_Sl_mixBlock_164 ?_
    refine hv_bipush (pn := 167) (v := 10) X d_Sl_mixBlock_165 ?_
    refine hv_ishl (pn := 168) X d_Sl_mixBlock_167 ?_
    refine hv_ior (pn := 169) X d_Sl_mixBlock_168 ?_
    refine hv_ixor (pn := 170) X d_Sl_mixBlock_169 ?_
    refine hv_iload_n (pn := 171) X d_Sl_mixBlock_170 ?_
    refine hv_iload_n (pn := 172) X d_Sl_mixBlock_171 ?_
    refine hv_iand (pn := 173) X d_Sl_mixBlock_172 ?_
    refine hv_iload_n (pn := 174) X d_Sl_mixBlock_173 ?_
    refine hv_iload_n (pn := 175) X d_Sl_mixBlock_174 ?_
    refine hv_iand (pn := 176) X d_Sl_mixBlock_175 ?_
    refine hv_ixor (pn := 177) X d_Sl_mixBlock_176 ?_
    refine hv_iload_n (pn := 178) X d_Sl_mixBlock_177 ?_
    refine hv_iload_n (pn := 179) X d_Sl_mixBlock_178 ?_
    refine hv_iand (pn := 180) X d_Sl_mixBlock_179 ?_
    refine hv_ixor (pn := 181) X d_Sl_mixBlock_180 ?_
    refine hv_iadd (pn := 182) X d_Sl_mixBlock_181 ?_
    obtain ⟨v21, hv21, hf⟩ := nm_E hf
    refine hv_topi hv21 ?_
    refine hv_istore (pn := 184) (i := 11) (lo' := [some (.ref a0), some (.int x1), some (.int x2), some (.int x3), some (.int x4), some (.int x5), some (.int x6), some (.int x7), some (.int x8), some (.int x9), some (.int v20), some (.int v21)]) X d_Sl_mixBlock_182 ?_
    refine hv_iload (pn := 186) X d_Sl_mixBlock_184 ?_
    refine hv_istore (pn := 188) (i := 8) (lo' := [some (.ref a0), some (.int x1), some (.int x2), some (.int x3), some (.int x4), some (.int x5), some (.int x6), some (.int x7), some (.int x7), some (.int x9), some (.int v20), some (.int v21)]) X d_Sl_mixBlock_186 ?_
    refine hv_iload (pn := 190) X d_Sl_mixBlock_188 ?_
    refine hv_istore (pn := 192) (i := 7) (lo' := [some (.ref a0), some (.int x1), some (.int x2), some (.int x3), some (.int x4), some (.int x5), some (.int x6), some (.int x6), some (.int x7), some (.int x9), some (.int v20), some (.int v21)]) X d_Sl_mixBlock_190 ?_
    refine hv_iload (pn := 194) X d_Sl_mixBlock_192 ?_
    refine hv_istore (pn := 196) (i := 6) (lo' := [some (.ref a0), some (.int x1), some (.int x2), some (.int x3), some (.int x4), some (.int x5), some (.int x5), some (.int x6), some (.int x7), some (.int x9), some (.int v20), some (.int v21)]) X d_Sl_mixBlock_194 ?_
    refine hv_iload (pn := 198) X d_Sl_mixBlock_196 ?_
    refine hv_iload (pn := 200) X d_Sl_mixBlock_198 ?_
    refine hv_iadd (pn := 201) X d_Sl_mixBlock_200 ?_
    refine hv_istore (pn := 203) (i := 5) (lo' := [some (.ref a0), some (.int x1), some (.int x2), some (.int x3), some (.int x4), some (.int (x4 + v20)), some (.int x5), some (.int x6), some (.int x7), some (.int x9), some (.int v20), some (.int v21)]) X d_Sl_mixBlock_201 ?_
    refine hv_iload_n (pn := 204) X d_Sl_mixBlock_203 ?_
    refine hv_istore (pn := 206) (i := 4) (lo' := [some (.ref a0), some (.int x1), some (.int x2), some (.int x3), some (.int x3), some (.int (x4 + v20)), some (.int x5), some (.int x6), some (.int x7), some (.int x9), some (.int v20), some (.int v21)]) X d_Sl_mixBlock_204 ?_
    refine hv_iload_n (pn := 207) X d_Sl_mixBlock_206 ?_
    refine hv_istore_n (pn := 208) (i := 3) (lo' := [some (.ref a0), some (.int x1), some (.int x2), some (.int x2), some (.int x3), some (.int (x4 + v20)), some (.int x5), some (.int x6), some (.int x7), some (.int x9), some (.int v20), some (.int v21)]) X d_Sl_mixBlock_207 ?_
    refine hv_iload_n (pn := 209) X d_Sl_mixBlock_208 ?_
    refine hv_istore_n (pn := 210) (i := 2) (lo' := [some (.ref a0), some (.int x1), some (.int x1), some (.int x2), some (.int x3), some (.int (x4 + v20)), some (.int x5), some (.int x6), some (.int x7), some (.int x9), some (.int v20), some (.int v21)]) X d_Sl_mixBlock_209 ?_
    refine hv_iload (pn := 212) X d_Sl_mixBlock_210 ?_
    refine hv_iload (pn := 214) X d_Sl_mixBlock_212 ?_
    refine hv_iadd (pn := 215) X d_Sl_mixBlock_214 ?_
    refine hv_istore_n (pn := 216) (i := 1) (lo' := [some (.ref a0), some (.int (v20 + v21)), some (.int x1), some (.int x2), some (.int x3), some (.int (x4 + v20)), some (.int x5), some (.int x6), some (.int x7), some (.int x9), some (.int v20), some (.int v21)]) X d_Sl_mixBlock_215 ?_
    refine hv_iinc (pn := 219) (i := 9) (v := x9 + 1) (lo' := [some (.ref a0), some (.int (v20 + v21)), some (.int x1), some (.int x2), some (.int x3), some (.int (x4 + v20)), some (.int x5), some (.int x6), some (.int x7), some (.int (x9 + 1)), some (.int v20), some (.int v21)]) X d_Sl_mixBlock_216 ?_
    refine hv_goto (tgt := 66) X d_Sl_mixBlock_219 (by decide) ?_
    refine hv_drop (i := 10) (lo' := [some (.ref a0), some (.int (v20 + v21)), some (.int x1), some (.int x2), some (.int x3), some (.int (x4 + v20)), some (.int x5), some (.int x6), some (.int x7), some (.int (x9 + 1)), none, some (.int v21)]) ?_
    refine hv_drop (i := 11) (lo' := [some (.ref a0), some (.int (v20 + v21)), some (.int x1), some (.int x2), some (.int x3), some (.int (x4 + v20)), some (.int x5), some (.int x6), some (.int x7), some (.int (x9 + 1)), none, none]) ?_
    cases hf
    exact E
set_option maxHeartbeats 4000000 in
set_option maxRecDepth 100000 in
theorem c_Sl_mixBlock (l : Launch) (G : ho_G) (N : Nat) (σ : ho_H) (a0 : Nat) (σ' : ho_H) (hf : f_Sl_mixBlock G N σ a0 = some σ') : hv_C l G y_Sl_mixBlock (Cond.code y_Sl_mixBlock b_Sl_mixBlock 12 none :: hv_ws) 0 0 [.ref a0] σ σ' (none) := by
  refine hv_met [some (.ref a0), none, none, none, none, none, none, none, none, none, none, none] (plainFor_of_name (by decide +kernel)) (by intro v hv; simp at hv; rcases hv with rfl <;> rfl) (Nat.le_of_ble_eq_true rfl) rfl ?_
  intro k X hkl hkG E
  subst hkl
  subst hkG
  unfold f_Sl_mixBlock at hf
  refine hv_aload_n (pn := 1) X d_Sl_mixBlock_0 ?_
  obtain ⟨b1, hb1, hf⟩ := bd_E hf
  refine hv_getR (pn := 4) X d_Sl_mixBlock_1 fa_Sl_9 hb1 ?_
  refine hv_iconst (pn := 5) (v := 0) X d_Sl_mixBlock_4 ?_
  obtain ⟨v2, hv2, hf⟩ := bd_E hf
  refine hv_iald (pn := 6) X d_Sl_mixBlock_5 hv2 ?_
  refine hv_istore_n (pn := 7) (i := 1) (lo' := [some (.ref a0), some (.int v2), none, none, none, none, none, none, none, none, none, none]) X d_Sl_mixBlock_6 ?_
  refine hv_aload_n (pn := 8) X d_Sl_mixBlock_7 ?_
  obtain ⟨b3, hb3, hf⟩ := bd_E hf
  refine hv_getR (pn := 11) X d_Sl_mixBlock_8 fa_Sl_9 hb3 ?_
  refine hv_iconst (pn := 12) (v := 1) X d_Sl_mixBlock_11 ?_
  obtain ⟨v4, hv4, hf⟩ := bd_E hf
  refine hv_iald (pn := 13) X d_Sl_mixBlock_12 hv4 ?_
  refine hv_istore_n (pn := 14) (i := 2) (lo' := [some (.ref a0), some (.int v2), some (.int v4), none, none, none, none, none, none, none, none, none]) X d_Sl_mixBlock_13 ?_
  refine hv_aload_n (pn := 15) X d_Sl_mixBlock_14 ?_
  obtain ⟨b5, hb5, hf⟩ := bd_E hf
  refine hv_getR (pn := 18) X d_Sl_mixBlock_15 fa_Sl_9 hb5 ?_
  refine hv_iconst (pn := 19) (v := 2) X d_Sl_mixBlock_18 ?_
  obtain ⟨v6, hv6, hf⟩ := bd_E hf
  refine hv_iald (pn := 20) X d_Sl_mixBlock_19 hv6 ?_
  refine hv_istore_n (pn := 21) (i := 3) (lo' := [some (.ref a0), some (.int v2), some (.int v4), some (.int v6), none, none, none, none, none, none, none, none]) X d_Sl_mixBlock_20 ?_
  refine hv_aload_n (pn := 22) X d_Sl_mixBlock_21 ?_
  obtain ⟨b7, hb7, hf⟩ := bd_E hf
  refine hv_getR (pn := 25) X d_Sl_mixBlock_22 fa_Sl_9 hb7 ?_
  refine hv_iconst (pn := 26) (v := 3) X d_Sl_mixBlock_25 ?_
  obtain ⟨v8, hv8, hf⟩ := bd_E hf
  refine hv_iald (pn := 27) X d_Sl_mixBlock_26 hv8 ?_
  refine hv_istore (pn := 29) (i := 4) (lo' := [some (.ref a0), some (.int v2), some (.int v4), some (.int v6), some (.int v8), none, none, none, none, none, none, none]) X d_Sl_mixBlock_27 ?_
  refine hv_aload_n (pn := 30) X d_Sl_mixBlock_29 ?_
  obtain ⟨b9, hb9, hf⟩ := bd_E hf
  refine hv_getR (pn := 33) X d_Sl_mixBlock_30 fa_Sl_9 hb9 ?_
  refine hv_iconst (pn := 34) (v := 4) X d_Sl_mixBlock_33 ?_
  obtain ⟨v10, hv10, hf⟩ := bd_E hf
  refine hv_iald (pn := 35) X d_Sl_mixBlock_34 hv10 ?_
  refine hv_istore (pn := 37) (i := 5) (lo' := [some (.ref a0), some (.int v2), some (.int v4), some (.int v6), some (.int v8), some (.int v10), none, none, none, none, none, none]) X d_Sl_mixBlock_35 ?_
  refine hv_aload_n (pn := 38) X d_Sl_mixBlock_37 ?_
  obtain ⟨b11, hb11, hf⟩ := bd_E hf
  refine hv_getR (pn := 41) X d_Sl_mixBlock_38 fa_Sl_9 hb11 ?_
  refine hv_iconst (pn := 42) (v := 5) X d_Sl_mixBlock_41 ?_
  obtain ⟨v12, hv12, hf⟩ := bd_E hf
  refine hv_iald (pn := 43) X d_Sl_mixBlock_42 hv12 ?_
  refine hv_istore (pn := 45) (i := 6) (lo' := [some (.ref a0), some (.int v2), some (.int v4), some (.int v6), some (.int v8), some (.int v10), some (.int v12), none, none, none, none, none]) X d_Sl_mixBlock_43 ?_
  refine hv_aload_n (pn := 46) X d_Sl_mixBlock_45 ?_
  obtain ⟨b13, hb13, hf⟩ := bd_E hf
  refine hv_getR (pn := 49) X d_Sl_mixBlock_46 fa_Sl_9 hb13 ?_
  refine hv_bipush (pn := 51) (v := 6) X d_Sl_mixBlock_49 ?_
  obtain ⟨v14, hv14, hf⟩ := bd_E hf
  refine hv_iald (pn := 52) X d_Sl_mixBlock_51 hv14 ?_
  refine hv_istore (pn := 54) (i := 7) (lo' := [some (.ref a0), some (.int v2), some (.int v4), some (.int v6), some (.int v8), some (.int v10), some (.int v12), some (.int v14), none, none, none, none]) X d_Sl_mixBlock_52 ?_
  refine hv_aload_n (pn := 55) X d_Sl_mixBlock_54 ?_
  obtain ⟨b15, hb15, hf⟩ := bd_E hf
  refine hv_getR (pn := 58) X d_Sl_mixBlock_55 fa_Sl_9 hb15 ?_
  refine hv_bipush (pn := 60) (v := 7) X d_Sl_mixBlock_58 ?_
  obtain ⟨v16, hv16, hf⟩ := bd_E hf
  refine hv_iald (pn := 61) X d_Sl_mixBlock_60 hv16 ?_
  refine hv_istore (pn := 63) (i := 8) (lo' := [some (.ref a0), some (.int v2), some (.int v4), some (.int v6), some (.int v8), some (.int v10), some (.int v12), some (.int v14), some (.int v16), none, none, none]) X d_Sl_mixBlock_61 ?_
  refine hv_iconst (pn := 64) (v := 0) X d_Sl_mixBlock_63 ?_
  refine hv_istore (pn := 66) (i := 9) (lo' := [some (.ref a0), some (.int v2), some (.int v4), some (.int v6), some (.int v8), some (.int v10), some (.int v12), some (.int v14), some (.int v16), some (.int 0), none, none]) X d_Sl_mixBlock_64 ?_
  obtain ⟨⟨x22, x23, x24, x25, x26, x27, x28, x29⟩, he55, hf⟩ := bd_E hf
  refine hv_loop (P := fun s => hv_V k σ 66 [some (.ref a0), some (.int s.1), some (.int s.2.1), some (.int s.2.2.1), some (.int s.2.2.2.1), some (.int s.2.2.2.2.1), some (.int s.2.2.2.2.2.1), some (.int s.2.2.2.2.2.2.1), some (.int s.2.2.2.2.2.2.2.1), some (.int s.2.2.2.2.2.2.2.2), none, none] []) (Z := fun s => hv_V k σ 222 [some (.ref a0), some (.int s.1), some (.int s.2.1), some (.int s.2.2.1), some (.int s.2.2.2.1), some (.int s.2.2.2.2.1), some (.int s.2.2.2.2.2.1), some (.int s.2.2.2.2.2.2.1), some (.int s.2.2.2.2.2.2.2), none, none, none] []) (fun s r h1 h2 => by obtain ⟨x1, x2, x3, x4, x5, x6, x7, x8, x9⟩ := s; exact w_Sl_mixBlock_l66 X N σ a0 x1 x2 x3 x4 x5 x6 x7 x8 x9 r h1 h2) N (v2, v4, v6, v8, v10, v12, v14, v16, 0) _ he55 ?_
  try dsimp only at hf ⊢
  refine hv_aload_n (pn := 223) X d_Sl_mixBlock_222 ?_
  obtain ⟨b30, hb30, hf⟩ := bd_E hf
  refine hv_getR (pn := 226) X d_Sl_mixBlock_223 fa_Sl_9 hb30 ?_
  refine hv_iconst (pn := 227) (v := 0) X d_Sl_mixBlock_226 ?_
  refine hv_dup2 (pn := 228) X d_Sl_mixBlock_227 rfl rfl ?_
  obtain ⟨v31, hv31, hf⟩ := bd_E hf
  refine hv_iald (pn := 229) X d_Sl_mixBlock_228 hv31 ?_
  refine hv_iload_n (pn := 230) X d_Sl_mixBlock_229 ?_
  refine hv_iadd (pn := 231) X d_Sl_mixBlock_230 ?_
  obtain ⟨σ32, hσ32, hf⟩ := bd_E hf
  refine hv_iast (pn := 232) X d_Sl_mixBlock_231 hσ32 ?_
  refine hv_aload_n (pn := 233) X d_Sl_mixBlock_232 ?_
  obtain ⟨b33, hb33, hf⟩ := bd_E hf
  refine hv_getR (pn := 236) X d_Sl_mixBlock_233 fa_Sl_9 hb33 ?_
  refine hv_iconst (pn := 237) (v := 1) X d_Sl_mixBlock_236 ?_
  refine hv_dup2 (pn := 238) X d_Sl_mixBlock_237 rfl rfl ?_
  obtain ⟨v34, hv34, hf⟩ := bd_E hf
  refine hv_iald (pn := 239) X d_Sl_mixBlock_238 hv34 ?_
  refine hv_iload_n (pn := 240) X d_Sl_mixBlock_239 ?_
  refine hv_iadd (pn := 241) X d_Sl_mixBlock_240 ?_
  obtain ⟨σ35, hσ35, hf⟩ := bd_E hf
  refine hv_iast (pn := 242) X d_Sl_mixBlock_241 hσ35 ?_
  refine hv_aload_n (pn := 243) X d_Sl_mixBlock_242 ?_
  obtain ⟨b36, hb36, hf⟩ := bd_E hf
  refine hv_getR (pn := 246) X d_Sl_mixBlock_243 fa_Sl_9 hb36 ?_
  refine hv_iconst (pn := 247) (v := 2) X d_Sl_mixBlock_246 ?_
  refine hv_dup2 (pn := 248) X d_Sl_mixBlock_247 rfl rfl ?_
  obtain ⟨v37, hv37, hf⟩ := bd_E hf
  refine hv_iald (pn := 249) X d_Sl_mixBlock_248 hv37 ?_
  refine hv_iload_n (pn := 250) X d_Sl_mixBlock_249 ?_
  refine hv_iadd (pn := 251) X d_Sl_mixBlock_250 ?_
  obtain ⟨σ38, hσ38, hf⟩ := bd_E hf
  refine hv_iast (pn := 252) X d_Sl_mixBlock_251 hσ38 ?_
  refine hv_aload_n (pn := 253) X d_Sl_mixBlock_252 ?_
  obtain ⟨b39, hb39, hf⟩ := bd_E hf
  refine hv_getR (pn := 256) X d_Sl_mixBlock_253 fa_Sl_9 hb39 ?_
  refine hv_iconst (pn := 257) (v := 3) X d_Sl_mixBlock_256 ?_
  refine hv_dup2 (pn := 258) X d_Sl_mixBlock_257 rfl rfl ?_
  obtain ⟨v40, hv40, hf⟩ := bd_E hf
  refine hv_iald (pn := 259) X d_Sl_mixBlock_258 hv40 ?_
  refine hv_iload (pn := 261) X d_Sl_mixBlock_259 ?_
  refine hv_iadd (pn := 262) X d_Sl_mixBlock_261 ?_
  obtain ⟨σ41, hσ41, hf⟩ := bd_E hf
  refine hv_iast (pn := 263) X d_Sl_mixBlock_262 hσ41 ?_
  refine hv_aload_n (pn := 264) X d_Sl_mixBlock_263 ?_
  obtain ⟨b42, hb42, hf⟩ := bd_E hf
  refine hv_getR (pn := 267) X d_Sl_mixBlock_264 fa_Sl_9 hb42 ?_
  refine hv_iconst (pn := 268) (v := 4) X d_Sl_mixBlock_267 ?_
  refine hv_dup2 (pn := 269) X d_Sl_mixBlock_268 rfl rfl ?_
  obtain ⟨v43, hv43, hf⟩ := bd_E hf
  refine hv_iald (pn := 270) X d_Sl_mixBlock_269 hv43 ?_
  refine hv_iload (pn := 272) X d_Sl_mixBlock_270 ?_
  refine hv_iadd (pn := 273) X d_Sl_mixBlock_272 ?_
  obtain ⟨σ44, hσ44, hf⟩ := bd_E hf
  refine hv_iast (pn := 274) X d_Sl_mixBlock_273 hσ44 ?_
  refine hv_aload_n (pn := 275) X d_Sl_mixBlock_274 ?_
  obtain ⟨b45, hb45, hf⟩ := bd_E hf
  refine hv_getR (pn := 278) X d_Sl_mixBlock_275 fa_Sl_9 hb45 ?_
  refine hv_iconst (pn := 279) (v := 5) X d_Sl_mixBlock_278 ?_
  refine hv_dup2 (pn := 280) X d_Sl_mixBlock_279 rfl rfl ?_
  obtain ⟨v46, hv46, hf⟩ := bd_E hf
  refine hv_iald (pn := 281) X d_Sl_mixBlock_280 hv46 ?_
  refine hv_iload (pn := 283) X d_Sl_mixBlock_281 ?_
  refine hv_iadd (pn := 284) X d_Sl_mixBlock_283 ?_
  obtain ⟨σ47, hσ47, hf⟩ := bd_E hf
  refine hv_iast (pn := 285) X d_Sl_mixBlock_284 hσ47 ?_
  refine hv_aload_n (pn := 286) X d_Sl_mixBlock_285 ?_
  obtain ⟨b48, hb48, hf⟩ := bd_E hf
  refine hv_getR (pn := 289) X d_Sl_mixBlock_286 fa_Sl_9 hb48 ?_
  refine hv_bipush (pn := 291) (v := 6) X d_Sl_mixBlock_289 ?_
  refine hv_dup2 (pn := 292) X d_Sl_mixBlock_291 rfl rfl ?_
  obtain ⟨v49, hv49, hf⟩ := bd_E hf
  refine hv_iald (pn := 293) X d_Sl_mixBlock_292 hv49 ?_
  refine hv_iload (pn := 295) X d_Sl_mixBlock_293 ?_
  refine hv_iadd (pn := 296) X d_Sl_mixBlock_295 ?_
  obtain ⟨σ50, hσ50, hf⟩ := bd_E hf
  refine hv_iast (pn := 297) X d_Sl_mixBlock_296 hσ50 ?_
  refine hv_aload_n (pn := 298) X d_Sl_mixBlock_297 ?_
  obtain ⟨b51, hb51, hf⟩ := bd_E hf
  refine hv_getR (pn := 301) X d_Sl_mixBlock_298 fa_Sl_9 hb51 ?_
  refine hv_bipush (pn := 303) (v := 7) X d_Sl_mixBlock_301 ?_
  refine hv_dup2 (pn := 304) X d_Sl_mixBlock_303 rfl rfl ?_
  obtain ⟨v52, hv52, hf⟩ := bd_E hf
  refine hv_iald (pn := 305) X d_Sl_mixBlock_304 hv52 ?_
  refine hv_iload (pn := 307) X d_Sl_mixBlock_305 ?_
  refine hv_iadd (pn := 308) X d_Sl_mixBlock_307 ?_
  obtain ⟨σ53, hσ53, hf⟩ := bd_E hf
  refine hv_iast (pn := 309) X d_Sl_mixBlock_308 hσ53 ?_
  cases hf
  exact hv_vret X d_Sl_mixBlock_309 E
set_option maxHeartbeats 4000000 in
set_option maxRecDepth 100000 in
theorem w_Sl_startWithKey_j36_in7 {k : mk_T} (X : hv_X k b_Sl_startWithKey y_Sl_startWithKey.cls 6 2 43 none y_Sl_startWithKey.name) (N : Nat) (σ : ho_H) (a0 : Nat) (a1 : Nat) (x2 : Int32) (x3 : Int32) (x4 : Int32) (x5 : Int32) (y0 : Int32) (y1 : Int32) (c2 : Nat)  (r : (ho_H × Int32) ⊕ (ho_H)) (hf : f_Sl_startWithKey_j36_in7 k.2.1 N σ a0 a1 x2 x3 x4 x5 y0 y1 c2 = some r) (E : sm (fun s => hv_V k s.1 7 [some (.ref a0), some (.ref a1), some (.int x2), some (.int x3), some (.int x4), some (.int s.2)] []) (fun s => hv_V k s 46 [some (.ref a0), none, none, none, none, none] []) r) : hv_V k σ 36 [some (.ref a0), some (.ref a1), some (.int x2), some (.int x3), some (.int x4), some (.int x5)] [.int y0, .int y1, .ref c2] := by
  unfold f_Sl_startWithKey_j36_in7 at hf
  refine hv_iload (pn := 38) X d_Sl_startWithKey_36 ?_
  refine hv_ixor (pn := 39) X d_Sl_startWithKey_38 ?_
  obtain ⟨σ4, hσ4, hf⟩ := bd_E hf
  refine hv_iast (pn := 40) X d_Sl_startWithKey_39 hσ4 ?_
  refine hv_iinc (pn := 43) (i := 5) (v := x5 + 1) (lo' := [some (.ref a0), some (.ref a1), some (.int x2), some (.int x3), some (.int x4), some (.int (x5 + 1))]) X d_Sl_startWithKey_40 ?_
  refine hv_goto (tgt := 7) X d_Sl_startWithKey_43 (by decide) ?_
  cases hf
  exact E
set_option maxHeartbeats 4000000 in
set_option maxRecDepth 100000 in
theorem w_Sl_startWithKey_l7 {k : mk_T} (X : hv_X k b_Sl_startWithKey y_Sl_startWithKey.cls 6 2 43 none y_Sl_startWithKey.name) (N : Nat) (a0 : Nat) (a1 : Nat) (x2 : Int32) (x3 : Int32) (x4 : Int32) (σ : ho_H) (x5 : Int32) (r : (ho_H × Int32) ⊕ (ho_H)) (hf : f_Sl_startWithKey_l7 k.2.1 N a0 a1 x2 x3 x4 (σ, x5) = some r) (E : sm (fun s => hv_V k s.1 7 [some (.ref a0), some (.ref a1), some (.int x2), some (.int x3), some (.int x4), some (.int s.2)] []) (fun s => hv_V k s 46 [some (.ref a0), none, none, none, none, none] []) r) : hv_V k σ 7 [some (.ref a0), some (.ref a1), some (.int x2), some (.int x3), some (.int x4), some (.int x5)] [] := by
  unfold f_Sl_startWithKey_l7 at hf
  try dsimp only at hf
  refine hv_iload (pn := 9) X d_Sl_startWithKey_7 ?_
  refine hv_bipush (pn := 11) (v := 16) X d_Sl_startWithKey_9 ?_
  refine hv_icmp_ge (pn := 14) (tgt := 46) X d_Sl_startWithKey_11 (by decide) (fun hc => ?_) (fun hc => ?_)
  · rw [if_pos hc] at hf
    refine hv_drop (i := 1) (lo' := [some (.ref a0), none, some (.int x2), some (.int x3), some (.int x4), some (.int x5)]) ?_
    refine hv_drop (i := 2) (lo' := [some (.ref a0), none, none, some (.int x3), some (.int x4), some (.int x5)]) ?_
    refine hv_drop (i := 3) (lo' := [some (.ref a0), none, none, none, some (.int x4), some (.int x5)]) ?_
    refine hv_drop (i := 4) (lo' := [some (.ref a0), none, none, none, none, some (.int x5)]) ?_
    refine hv_drop (i := 5) (lo' := [some (.ref a0), none, none, none, none, none]) ?_
    cases hf
    exact E
  · rw [if_neg hc] at hf
    refine hv_aload_n (pn := 15) X d_Sl_startWithKey_14 ?_
    obtain ⟨b3, hb3, hf⟩ := bd_E hf
    refine hv_getR (pn := 18) X d_Sl_startWithKey_15 fa_Sl_16 hb3 ?_
    refine hv_iload (pn := 20) X d_Sl_startWithKey_18 ?_
    refine hv_iload (pn := 22) X d_Sl_startWithKey_20 ?_
    refine hv_iload_n (pn := 23) X d_Sl_startWithKey_22 ?_
    refine hv_icmp_ge (pn := 26) (tgt := 35) X d_Sl_startWithKey_23 (by decide) (fun hc => ?_) (fun hc => ?_)
    · rw [if_pos hc] at hf
      refine hv_iconst (pn := 36) (v := 0) X d_Sl_startWithKey_35 ?_
      exact w_Sl_startWithKey_j36_in7 X N σ a0 a1 x2 x3 x4 x5 0 x5 b3  _ hf E
    · rw [if_neg hc] at hf
      refine hv_aload_n (pn := 27) X d_Sl_startWithKey_26 ?_
      refine hv_iload_n (pn := 28) X d_Sl_startWithKey_27 ?_
      refine hv_iload (pn := 30) X d_Sl_startWithKey_28 ?_
      refine hv_iadd (pn := 31) X d_Sl_startWithKey_30 ?_
      obtain ⟨v5, hv5, hf⟩ := bd_E hf
      refine hv_iald (pn := 32) X d_Sl_startWithKey_31 hv5 ?_
      refine hv_goto (tgt := 36) X d_Sl_startWithKey_32 (by decide) ?_
      exact w_Sl_startWithKey_j36_in7 X N σ a0 a1 x2 x3 x4 x5 v5 x5 b3  _ hf E
set_option maxHeartbeats 4000000 in
set_option maxRecDepth 100000 in
theorem c_Sl_startWithKey (l : Launch) (G : ho_G) (N : Nat) (σ : ho_H) (a0 : Nat) (a1 : Nat) (x2 : Int32) (x3 : Int32) (x4 : Int32) (σ' : ho_H) (hf : f_Sl_startWithKey G N σ a0 a1 x2 x3 x4 = some σ') : hv_C l G y_Sl_startWithKey (Cond.code y_Sl_startWithKey b_Sl_startWithKey 6 none :: hv_ws) 2 43 [.ref a0, .ref a1, .int x2, .int x3, .int x4] σ σ' (none) := by
  refine hv_met [some (.ref a0), some (.ref a1), some (.int x2), some (.int x3), some (.int x4), none] (plainFor_of_name (by decide +kernel)) (by intro v hv; simp at hv; rcases hv with rfl | rfl | rfl | rfl | rfl <;> rfl) (Nat.le_of_ble_eq_true rfl) rfl ?_
  intro k X hkl hkG E
  subst hkl
  subst hkG
  unfold f_Sl_startWithKey at hf
  refine hv_aload_n (pn := 1) X d_Sl_startWithKey_0 ?_
  obtain ⟨_, hr1, hf⟩ := bd_E hf
  obtain ⟨σ2, hσ2, hf⟩ := bd_E hf
  obtain ⟨hσ2, mσ2⟩ := ho_cv_E hσ2
  refine hv_callV (pn := 4) X d_Sl_startWithKey_1 (c_Sl_clear _ _ N σ a0 _ hσ2) cs_Sl_60 q_2_60 rfl q_2_61 hr1 (by decide) (by decide) mσ2 (Nat.le_of_ble_eq_true rfl) ?_
  refine hv_iconst (pn := 5) (v := 0) X d_Sl_startWithKey_4 ?_
  refine hv_istore (pn := 7) (i := 5) (lo' := [some (.ref a0), some (.ref a1), some (.int x2), some (.int x3), some (.int x4), some (.int 0)]) X d_Sl_startWithKey_5 ?_
  obtain ⟨σ6, he9, hf⟩ := bd_E hf
  refine hv_loop (P := fun s => hv_V k s.1 7 [some (.ref a0), some (.ref a1), some (.int x2), some (.int x3), some (.int x4), some (.int s.2)] []) (Z := fun s => hv_V k s 46 [some (.ref a0), none, none, none, none, none] []) (fun s r h1 h2 => by obtain ⟨σ, x5⟩ := s; exact w_Sl_startWithKey_l7 X N a0 a1 x2 x3 x4 σ x5 r h1 h2) N (σ2, 0) _ he9 ?_
  try dsimp only at hf ⊢
  refine hv_aload_n (pn := 47) X d_Sl_startWithKey_46 ?_
  refine hv_bipush (pn := 49) (v := 64) X d_Sl_startWithKey_47 ?_
  obtain ⟨σ7, hσ7, hf⟩ := bd_E hf
  refine hv_put (pn := 52) X d_Sl_startWithKey_49 fp_Sl_28 hσ7 ?_
  cases hf
  exact hv_vret X d_Sl_startWithKey_52 E
set_option maxHeartbeats 4000000 in
set_option maxRecDepth 100000 in
theorem w_Sl_finish_l59 {k : mk_T} (X : hv_X k b_Sl_finish y_Sl_finish.cls 4 2 86 none y_Sl_finish.name) (N : Nat) (a0 : Nat) (x2 : Int32) (σ : ho_H) (x3 : Int32) (r : (ho_H × Int32) ⊕ (ho_H)) (hf : f_Sl_finish_l59 k.2.1 N a0 x2 (σ, x3) = some r) (E : sm (fun s => hv_V k s.1 59 [some (.ref a0), none, some (.int x2), some (.int s.2)] []) (fun s => hv_V k s 82 [none, none, none, none] []) r) : hv_V k σ 59 [some (.ref a0), none, some (.int x2), some (.int x3)] [] := by
  unfold f_Sl_finish_l59 at hf
  try dsimp only at hf
  refine hv_iload_n (pn := 60) X d_Sl_finish_59 ?_
  refine hv_iload_n (pn := 61) X d_Sl_finish_60 ?_
  refine hv_icmp_ge (pn := 64) (tgt := 82) X d_Sl_finish_61 (by decide) (fun hc => ?_) (fun hc => ?_)
  · rw [if_pos hc] at hf
    refine hv_drop (i := 0) (lo' := [none, none, some (.int x2), some (.int x3)]) ?_
    refine hv_drop (i := 2) (lo' := [none, none, none, some (.int x3)]) ?_
    refine hv_drop (i := 3) (lo' := [none, none, none, none]) ?_
    cases hf
    exact E
  · rw [if_neg hc] at hf
    refine hv_aload_n (pn := 65) X d_Sl_finish_64 ?_
    refine hv_iload_n (pn := 66) X d_Sl_finish_65 ?_
    refine hv_bipush (pn := 68) (v := 16) X d_Sl_finish_66 ?_
    refine hv_imul (pn := 69) X d_Sl_finish_68 ?_
    obtain ⟨_, hr9, hf⟩ := bd_E hf
    obtain ⟨σ10, hσ10, hf⟩ := bd_E hf
    obtain ⟨hσ10, mσ10⟩ := ho_cv_E hσ10
    refine hv_callV (pn := 72) X d_Sl_finish_69 (c_Sl_spreadBlock _ _ N σ a0 (x3 * 16) _ hσ10) cs_Sl_45 q_2_81 rfl qs_Sl_spreadBlock hr9 (by decide) (by decide) mσ10 (Nat.le_of_ble_eq_true rfl) ?_
    refine hv_aload_n (pn := 73) X d_Sl_finish_72 ?_
    obtain ⟨_, hr11, hf⟩ := bd_E hf
    obtain ⟨σ12, hσ12, hf⟩ := bd_E hf
    obtain ⟨hσ12, mσ12⟩ := ho_cv_E hσ12
    refine hv_callV (pn := 76) X d_Sl_finish_73 (c_Sl_mixBlock _ _ N σ10 a0 _ hσ12) cs_Sl_48 q_2_85 rfl qs_Sl_mixBlock hr11 (by decide) (by decide) mσ12 (Nat.le_of_ble_eq_true rfl) ?_
    refine hv_iinc (pn := 79) (i := 3) (v := x3 + 1) (lo' := [some (.ref a0), none, some (.int x2), some (.int (x3 + 1))]) X d_Sl_finish_76 ?_
    refine hv_goto (tgt := 59) X d_Sl_finish_79 (by decide) ?_
    cases hf
    exact E
set_option maxHeartbeats 4000000 in
set_option maxRecDepth 100000 in
theorem c_Sl_finish (l : Launch) (G : ho_G) (N : Nat) (σ : ho_H) (a0 : Nat) (σ' : ho_H) (hf : f_Sl_finish G N σ a0 = some σ') : hv_C l G y_Sl_finish (Cond.code y_Sl_finish b_Sl_finish 4 none :: hv_ws) 2 86 [.ref a0] σ σ' (none) := by
  refine hv_met [some (.ref a0), none, none, none] (plainFor_of_name (by decide +kernel)) (by intro v hv; simp at hv; rcases hv with rfl <;> rfl) (Nat.le_of_ble_eq_true rfl) rfl ?_
  intro k X hkl hkG E
  subst hkl
  subst hkG
  unfold f_Sl_finish at hf
  refine hv_bipush (pn := 2) (v := 8) X d_Sl_finish_0 ?_
  refine hv_aload_n (pn := 3) X d_Sl_finish_2 ?_
  obtain ⟨v1, hv1, hf⟩ := bd_E hf
  refine hv_getI (pn := 6) X d_Sl_finish_3 fa_Sl_28 hv1 ?_
  refine hv_imul (pn := 7) X d_Sl_finish_6 ?_
  refine hv_istore_n (pn := 8) (i := 1) (lo' := [some (.ref a0), some (.int (8 * v1)), none, none]) X d_Sl_finish_7 ?_
  refine hv_aload_n (pn := 9) X d_Sl_finish_8 ?_
  refine hv_sipush (pn := 12) (v := 128) X d_Sl_finish_9 ?_
  obtain ⟨_, hr2, hf⟩ := bd_E hf
  obtain ⟨σ3, hσ3, hf⟩ := bd_E hf
  obtain ⟨hσ3, mσ3⟩ := ho_cv_E hσ3
  refine hv_callV (pn := 15) X d_Sl_finish_12 (c_Sl_addByte _ _ N σ a0 128 _ hσ3) cs_Sl_32 q_2_67 rfl q_2_68 hr2 (by decide) (by decide) mσ3 (Nat.le_of_ble_eq_true rfl) ?_
  refine hv_aload_n (pn := 16) X d_Sl_finish_15 ?_
  obtain ⟨v4, hv4, hf⟩ := bd_E hf
  refine hv_getI (pn := 19) X d_Sl_finish_16 fa_Sl_28 hv4 ?_
  refine hv_bipush (pn := 21) (v := 8) X d_Sl_finish_19 ?_
  refine hv_iadd (pn := 22) X d_Sl_finish_21 ?_
  refine hv_bipush (pn := 24) (v := 64) X d_Sl_finish_22 ?_
  refine hv_iadd (pn := 25) X d_Sl_finish_24 ?_
  refine hv_iconst (pn := 26) (v := 1) X d_Sl_finish_25 ?_
  refine hv_isub (pn := 27) X d_Sl_finish_26 ?_
  refine hv_bipush (pn := 29) (v := 64) X d_Sl_finish_27 ?_
  refine hv_idiv (pn := 30) X d_Sl_finish_29 (by decide) ?_
  refine hv_istore_n (pn := 31) (i := 2) (lo' := [some (.ref a0), some (.int (8 * v1)), some (.int ((((v4 + 8) + 64) - 1) / 64)), none]) X d_Sl_finish_30 ?_
  refine hv_aload_n (pn := 32) X d_Sl_finish_31 ?_
  obtain ⟨b5, hb5, hf⟩ := bd_E hf
  refine hv_getR (pn := 35) X d_Sl_finish_32 fa_Sl_16 hb5 ?_
  refine hv_iload_n (pn := 36) X d_Sl_finish_35 ?_
  refine hv_bipush (pn := 38) (v := 16) X d_Sl_finish_36 ?_
  refine hv_imul (pn := 39) X d_Sl_finish_38 ?_
  refine hv_iconst (pn := 40) (v := 1) X d_Sl_finish_39 ?_
  refine hv_isub (pn := 41) X d_Sl_finish_40 ?_
  refine hv_iload_n (pn := 42) X d_Sl_finish_41 ?_
  obtain ⟨σ6, hσ6, hf⟩ := bd_E hf
  refine hv_iast (pn := 43) X d_Sl_finish_42 hσ6 ?_
  refine hv_gets (pn := 46) X d_Sl_finish_43 (i := 0) rfl q_2_74 (Or.inl rfl) ?_
  refine hv_iconst (pn := 47) (v := 0) X d_Sl_finish_46 ?_
  refine hv_aload_n (pn := 48) X d_Sl_finish_47 ?_
  obtain ⟨b7, hb7, hf⟩ := bd_E hf
  refine hv_getR (pn := 51) X d_Sl_finish_48 fa_Sl_9 hb7 ?_
  refine hv_iconst (pn := 52) (v := 0) X d_Sl_finish_51 ?_
  refine hv_bipush (pn := 54) (v := 8) X d_Sl_finish_52 ?_
  obtain ⟨σ8, hσ8, hf⟩ := bd_E hf
  refine hv_cpI (pn := 57) X d_Sl_finish_54 q_2_76 q_2_78 q_2_77 q_1_16 hσ8 (by decide) (by decide +kernel) (Nat.le_of_ble_eq_true rfl) ?_
  refine hv_iconst (pn := 58) (v := 0) X d_Sl_finish_57 ?_
  refine hv_istore_n (pn := 59) (i := 3) (lo' := [some (.ref a0), some (.int (8 * v1)), some (.int ((((v4 + 8) + 64) - 1) / 64)), some (.int 0)]) X d_Sl_finish_58 ?_
  refine hv_drop (i := 1) (lo' := [some (.ref a0), none, some (.int ((((v4 + 8) + 64) - 1) / 64)), some (.int 0)]) ?_
  obtain ⟨σ13, he15, hf⟩ := bd_E hf
  refine hv_loop (P := fun s => hv_V k s.1 59 [some (.ref a0), none, some (.int ((((v4 + 8) + 64) - 1) / 64)), some (.int s.2)] []) (Z := fun s => hv_V k s 82 [none, none, none, none] []) (fun s r h1 h2 => by obtain ⟨σ, x3⟩ := s; exact w_Sl_finish_l59 X N a0 ((((v4 + 8) + 64) - 1) / 64) σ x3 r h1 h2) N (σ8, 0) _ he15 ?_
  try dsimp only at hf ⊢
  cases hf
  exact hv_vret X d_Sl_finish_82 E
set_option maxHeartbeats 4000000 in
set_option maxRecDepth 100000 in
theorem w_Sl_seal_l12 {k : mk_T} (X : hv_X k b_Sl_seal y_Sl_seal.cls 7 3 109 none y_Sl_seal.name) (N : Nat) (a0 : Nat) (a1 : Nat) (x2 : Int32) (x3 : Int32) (a4 : Nat) (x5 : Int32) (σ : ho_H) (x6 : Int32) (r : (ho_H × Int32) ⊕ (ho_H)) (hf : f_Sl_seal_l12 k.2.1 N a0 a1 x2 x3 a4 x5 (σ, x6) = some r) (E : sm (fun s => hv_V k s.1 12 [some (.ref a0), some (.ref a1), some (.int x2), some (.int x3), some (.ref a4), some (.int x5), some (.int s.2)] []) (fun s => hv_V k s 34 [some (.ref a0), some (.ref a1), some (.int x2), some (.int x3), none, none, none] []) r) : hv_V k σ 12 [some (.ref a0), some (.ref a1), some (.int x2), some (.int x3), some (.ref a4), some (.int x5), some (.int x6)] [] := by
  unfold f_Sl_seal_l12 at hf
  try dsimp only at hf
  refine hv_iload (pn := 14) X d_Sl_seal_12 ?_
  refine hv_iload (pn := 16) X d_Sl_seal_14 ?_
  refine hv_icmp_ge (pn := 19) (tgt := 34) X d_Sl_seal_16 (by decide) (fun hc => ?_) (fun hc => ?_)
  · rw [if_pos hc] at hf
    refine hv_drop (i := 4) (lo' := [some (.ref a0), some (.ref a1), some (.int x2), some (.int x3), none, some (.int x5), some (.int x6)]) ?_
    refine hv_drop (i := 5) (lo' := [some (.ref a0), some (.ref a1), some (.int x2), some (.int x3), none, none, some (.int x6)]) ?_
    refine hv_drop (i := 6) (lo' := [some (.ref a0), some (.ref a1), some (.int x2), some (.int x3), none, none, none]) ?_
    cases hf
    exact E
  · rw [if_neg hc] at hf
    refine hv_aload_n (pn := 20) X d_Sl_seal_19 ?_
    refine hv_aload (pn := 22) X d_Sl_seal_20 ?_
    refine hv_iload (pn := 24) X d_Sl_seal_22 ?_
    obtain ⟨v3, hv3, hf⟩ := bd_E hf
    refine hv_iald (pn := 25) X d_Sl_seal_24 hv3 ?_
    obtain ⟨_, hr4, hf⟩ := bd_E hf
    obtain ⟨σ5, hσ5, hf⟩ := bd_E hf
    obtain ⟨hσ5, mσ5⟩ := ho_cv_E hσ5
    refine hv_callV (pn := 28) X d_Sl_seal_25 (c_Sl_addByte _ _ N σ a0 v3 _ hσ5) cs_Sl_32 q_2_67 rfl q_2_68 hr4 (by decide) (by decide) mσ5 (Nat.le_of_ble_eq_true rfl) ?_
    refine hv_iinc (pn := 31) (i := 6) (v := x6 + 1) (lo' := [some (.ref a0), some (.ref a1), some (.int x2), some (.int x3), some (.ref a4), some (.int x5), some (.int (x6 + 1))]) X d_Sl_seal_28 ?_
    refine hv_goto (tgt := 12) X d_Sl_seal_31 (by decide) ?_
    cases hf
    exact E
set_option maxHeartbeats 4000000 in
set_option maxRecDepth 100000 in
theorem c_Sl_seal (l : Launch) (G : ho_G) (N : Nat) (σ : ho_H) (a0 : Nat) (a1 : Nat) (x2 : Int32) (x3 : Int32) (a4 : Nat) (x5 : Int32) (σ' : ho_H) (hf : f_Sl_seal G N σ a0 a1 x2 x3 a4 x5 = some σ') : hv_C l G y_Sl_seal (Cond.code y_Sl_seal b_Sl_seal 7 none :: hv_ws) 3 109 [.ref a0, .ref a1, .int x2, .int x3, .ref a4, .int x5] σ σ' (none) := by
  refine hv_met [some (.ref a0), some (.ref a1), some (.int x2), some (.int x3), some (.ref a4), some (.int x5), none] (plainFor_of_name (by decide +kernel)) (by intro v hv; simp at hv; rcases hv with rfl | rfl | rfl | rfl | rfl | rfl <;> rfl) (Nat.le_of_ble_eq_true rfl) rfl ?_
  intro k X hkl hkG E
  subst hkl
  subst hkG
  unfold f_Sl_seal at hf
  refine hv_aload_n (pn := 1) X d_Sl_seal_0 ?_
  refine hv_aload_n (pn := 2) X d_Sl_seal_1 ?_
  refine hv_iload_n (pn := 3) X d_Sl_seal_2 ?_
  refine hv_iload_n (pn := 4) X d_Sl_seal_3 ?_
  refine hv_ldc (pn := 6) X d_Sl_seal_4 q_2_54 ?_
  obtain ⟨_, hr1, hf⟩ := bd_E hf
  obtain ⟨σ2, hσ2, hf⟩ := bd_E hf
  obtain ⟨hσ2, mσ2⟩ := ho_cv_E hσ2
  refine hv_callV (pn := 9) X d_Sl_seal_6 (c_Sl_startWithKey _ _ N σ a0 a1 x2 x3 909522486 _ hσ2) cs_Sl_52 q_2_57 rfl qs_Sl_startWithKey hr1 (by decide) (by decide) mσ2 (Nat.le_of_ble_eq_true rfl) ?_
  refine hv_iconst (pn := 10) (v := 0) X d_Sl_seal_9 ?_
  refine hv_istore (pn := 12) (i := 6) (lo' := [some (.ref a0), some (.ref a1), some (.int x2), some (.int x3), some (.ref a4), some (.int x5), some (.int 0)]) X d_Sl_seal_10 ?_
  obtain ⟨σ6, he19, hf⟩ := bd_E hf
  refine hv_loop (P := fun s => hv_V k s.1 12 [some (.ref a0), some (.ref a1), some (.int x2), some (.int x3), some (.ref a4), some (.int x5), some (.int s.2)] []) (Z := fun s => hv_V k s 34 [some (.ref a0), some (.ref a1), some (.int x2), some (.int x3), none, none, none] []) (fun s r h1 h2 => by obtain ⟨σ, x6⟩ := s; exact w_Sl_seal_l12 X N a0 a1 x2 x3 a4 x5 σ x6 r h1 h2) N (σ2, 0) _ he19 ?_
  try dsimp only at hf ⊢
  refine hv_aload_n (pn := 35) X d_Sl_seal_34 ?_
  obtain ⟨_, hr7, hf⟩ := bd_E hf
  obtain ⟨σ8, hσ8, hf⟩ := bd_E hf
  obtain ⟨hσ8, mσ8⟩ := ho_cv_E hσ8
  refine hv_callV (pn := 38) X d_Sl_seal_35 (c_Sl_finish _ _ N σ6 a0 _ hσ8) cs_Sl_56 q_2_71 rfl q_2_72 hr7 (by decide) (by decide) mσ8 (Nat.le_of_ble_eq_true rfl) ?_
  refine hv_aload_n (pn := 39) X d_Sl_seal_38 ?_
  refine hv_aload_n (pn := 40) X d_Sl_seal_39 ?_
  refine hv_iload_n (pn := 41) X d_Sl_seal_40 ?_
  refine hv_iload_n (pn := 42) X d_Sl_seal_41 ?_
  refine hv_ldc (pn := 44) X d_Sl_seal_42 q_2_89 ?_
  obtain ⟨_, hr9, hf⟩ := bd_E hf
  obtain ⟨σ10, hσ10, hf⟩ := bd_E hf
  obtain ⟨hσ10, mσ10⟩ := ho_cv_E hσ10
  refine hv_callV (pn := 47) X d_Sl_seal_44 (c_Sl_startWithKey _ _ N σ8 a0 a1 x2 x3 1549556828 _ hσ10) cs_Sl_52 q_2_57 rfl qs_Sl_startWithKey hr9 (by decide) (by decide) mσ10 (Nat.le_of_ble_eq_true rfl) ?_
  refine hv_aload_n (pn := 48) X d_Sl_seal_47 ?_
  obtain ⟨b11, hb11, hf⟩ := bd_E hf
  refine hv_getR (pn := 51) X d_Sl_seal_48 fa_Sl_9 hb11 ?_
  refine hv_iconst (pn := 52) (v := 0) X d_Sl_seal_51 ?_
  refine hv_aload_n (pn := 53) X d_Sl_seal_52 ?_
  obtain ⟨b12, hb12, hf⟩ := bd_E hf
  refine hv_getR (pn := 56) X d_Sl_seal_53 fa_Sl_16 hb12 ?_
  refine hv_bipush (pn := 58) (v := 16) X d_Sl_seal_56 ?_
  refine hv_bipush (pn := 60) (v := 8) X d_Sl_seal_58 ?_
  obtain ⟨σ13, hσ13, hf⟩ := bd_E hf
  refine hv_cpI (pn := 63) X d_Sl_seal_60 q_2_76 q_2_78 q_2_77 q_1_16 hσ13 (by decide) (by decide +kernel) (Nat.le_of_ble_eq_true rfl) ?_
  refine hv_aload_n (pn := 64) X d_Sl_seal_63 ?_
  refine hv_dup (pn := 65) X d_Sl_seal_64 rfl ?_
  obtain ⟨v14, hv14, hf⟩ := bd_E hf
  refine hv_getI (pn := 68) X d_Sl_seal_65 fa_Sl_28 hv14 ?_
  refine hv_bipush (pn := 70) (v := 32) X d_Sl_seal_68 ?_
  refine hv_iadd (pn := 71) X d_Sl_seal_70 ?_
  obtain ⟨σ15, hσ15, hf⟩ := bd_E hf
  refine hv_put (pn := 74) X d_Sl_seal_71 fp_Sl_28 hσ15 ?_
  refine hv_aload_n (pn := 75) X d_Sl_seal_74 ?_
  obtain ⟨_, hr16, hf⟩ := bd_E hf
  obtain ⟨σ17, hσ17, hf⟩ := bd_E hf
  obtain ⟨hσ17, mσ17⟩ := ho_cv_E hσ17
  refine hv_callV (pn := 78) X d_Sl_seal_75 (c_Sl_finish _ _ N σ15 a0 _ hσ17) cs_Sl_56 q_2_71 rfl q_2_72 hr16 (by decide) (by decide) mσ17 (Nat.le_of_ble_eq_true rfl) ?_
  cases hf
  exact hv_vret X d_Sl_seal_78 E
