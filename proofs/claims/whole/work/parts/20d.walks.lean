set_option maxHeartbeats 4000000 in
set_option maxRecDepth 100000 in
theorem c_Md_modulo (l : Launch) (G : ho_G) (N : Nat) (σ : ho_H) (x0 : Int32) (x1 : Int32) (r : Int32) (hf : f_Md_modulo G N σ x0 x1 = some r) : hv_C l G y_Md_modulo (Cond.code y_Md_modulo b_Md_modulo 2 (some (.int)) :: hv_ws) 0 0 [.int x0, .int x1] σ σ (some (.int r)) := by
  refine hv_met [some (.int x0), some (.int x1)] (plainFor_of_name (by decide +kernel)) (by intro v hv; simp at hv; rcases hv with rfl | rfl <;> rfl) (Nat.le_of_ble_eq_true rfl) rfl ?_
  intro k X hkl hkG E
  subst hkl
  subst hkG
  unfold f_Md_modulo at hf
  refine hv_iload_n (pn := 1) X d_Md_modulo_0 ?_
  refine hv_iload_n (pn := 2) X d_Md_modulo_1 ?_
  obtain ⟨_, hz, hf⟩ := bd_E hf
  refine hv_irem (pn := 3) X d_Md_modulo_2 (ho_nz_E hz) ?_
  refine hv_iload_n (pn := 4) X d_Md_modulo_3 ?_
  refine hv_iadd (pn := 5) X d_Md_modulo_4 ?_
  refine hv_iload_n (pn := 6) X d_Md_modulo_5 ?_
  obtain ⟨_, hz, hf⟩ := bd_E hf
  refine hv_irem (pn := 7) X d_Md_modulo_6 (ho_nz_E hz) ?_
  cases hf
  exact hv_iret X d_Md_modulo_7 E
set_option maxHeartbeats 4000000 in
set_option maxRecDepth 100000 in
theorem c_Md_thrown (l : Launch) (G : ho_G) (N : Nat) (σ : ho_H) (a0 : Nat) (r : Int32) (hf : f_Md_thrown G N σ a0 = some r) : hv_C l G y_Md_thrown (Cond.code y_Md_thrown b_Md_thrown 1 (some (.int)) :: hv_ws) 0 0 [.ref a0] σ σ (some (.int r)) := by
  refine hv_met [some (.ref a0)] (plainFor_of_name (by decide +kernel)) (by intro v hv; simp at hv; rcases hv with rfl <;> rfl) (Nat.le_of_ble_eq_true rfl) rfl ?_
  intro k X hkl hkG E
  subst hkl
  subst hkG
  unfold f_Md_thrown at hf
  refine hv_aload_n (pn := 1) X d_Md_thrown_0 ?_
  obtain ⟨v1, hv1, hf⟩ := bd_E hf
  refine hv_getI (pn := 4) X d_Md_thrown_1 fa_Md_189 hv1 ?_
  cases hf
  exact hv_iret X d_Md_thrown_4 E
set_option maxHeartbeats 4000000 in
set_option maxRecDepth 100000 in
theorem c_Md_fail (l : Launch) (G : ho_G) (N : Nat) (σ : ho_H) (a0 : Nat) (x1 : Int32) (σ' : ho_H) (r : Int32) (hf : f_Md_fail G N σ a0 x1 = some (σ', r)) : hv_C l G y_Md_fail (Cond.code y_Md_fail b_Md_fail 2 (some (.int)) :: hv_ws) 0 0 [.ref a0, .int x1] σ σ' (some (.int r)) := by
  refine hv_met [some (.ref a0), some (.int x1)] (plainFor_of_name (by decide +kernel)) (by intro v hv; simp at hv; rcases hv with rfl | rfl <;> rfl) (Nat.le_of_ble_eq_true rfl) rfl ?_
  intro k X hkl hkG E
  subst hkl
  subst hkG
  unfold f_Md_fail at hf
  refine hv_aload_n (pn := 1) X d_Md_fail_0 ?_
  refine hv_iload_n (pn := 2) X d_Md_fail_1 ?_
  obtain ⟨σ1, hσ1, hf⟩ := bd_E hf
  refine hv_put (pn := 5) X d_Md_fail_2 fp_Md_189 hσ1 ?_
  refine hv_iconst (pn := 6) (v := 0) X d_Md_fail_5 ?_
  cases hf
  exact hv_iret X d_Md_fail_6 E
set_option maxHeartbeats 4000000 in
set_option maxRecDepth 100000 in
theorem c_Md_byteOf (l : Launch) (G : ho_G) (N : Nat) (σ : ho_H) (x0 : Int32) (x1 : Int32) (r : Int32) (hf : f_Md_byteOf G N σ x0 x1 = some r) : hv_C l G y_Md_byteOf (Cond.code y_Md_byteOf b_Md_byteOf 2 (some (.int)) :: hv_ws) 0 0 [.int x0, .int x1] σ σ (some (.int r)) := by
  refine hv_met [some (.int x0), some (.int x1)] (plainFor_of_name (by decide +kernel)) (by intro v hv; simp at hv; rcases hv with rfl | rfl <;> rfl) (Nat.le_of_ble_eq_true rfl) rfl ?_
  intro k X hkl hkG E
  subst hkl
  subst hkG
  unfold f_Md_byteOf at hf
  refine hv_iload_n (pn := 1) X d_Md_byteOf_0 ?_
  refine hv_bipush (pn := 3) (v := 24) X d_Md_byteOf_1 ?_
  refine hv_bipush (pn := 5) (v := 8) X d_Md_byteOf_3 ?_
  refine hv_iload_n (pn := 6) X d_Md_byteOf_5 ?_
  refine hv_imul (pn := 7) X d_Md_byteOf_6 ?_
  refine hv_isub (pn := 8) X d_Md_byteOf_7 ?_
  refine hv_ishr (pn := 9) X d_Md_byteOf_8 ?_
  refine hv_sipush (pn := 12) (v := 255) X d_Md_byteOf_9 ?_
  refine hv_iand (pn := 13) X d_Md_byteOf_12 ?_
  cases hf
  exact hv_iret X d_Md_byteOf_13 E
set_option maxHeartbeats 4000000 in
set_option maxRecDepth 100000 in
theorem c_Md_turned (l : Launch) (G : ho_G) (N : Nat) (σ : ho_H) (x0 : Int32) (x1 : Int32) (r : Int32) (hf : f_Md_turned G N σ x0 x1 = some r) : hv_C l G y_Md_turned (Cond.code y_Md_turned b_Md_turned 2 (some (.int)) :: hv_ws) 0 0 [.int x0, .int x1] σ σ (some (.int r)) := by
  refine hv_met [some (.int x0), some (.int x1)] (plainFor_of_name (by decide +kernel)) (by intro v hv; simp at hv; rcases hv with rfl | rfl <;> rfl) (Nat.le_of_ble_eq_true rfl) rfl ?_
  intro k X hkl hkG E
  subst hkl
  subst hkG
  unfold f_Md_turned at hf
  refine hv_iload_n (pn := 1) X d_Md_turned_0 ?_
  refine hv_iload_n (pn := 2) X d_Md_turned_1 ?_
  refine hv_iushr (pn := 3) X d_Md_turned_2 ?_
  refine hv_iload_n (pn := 4) X d_Md_turned_3 ?_
  refine hv_bipush (pn := 6) (v := 32) X d_Md_turned_4 ?_
  refine hv_iload_n (pn := 7) X d_Md_turned_6 ?_
  refine hv_isub (pn := 8) X d_Md_turned_7 ?_
  refine hv_ishl (pn := 9) X d_Md_turned_8 ?_
  refine hv_ior (pn := 10) X d_Md_turned_9 ?_
  cases hf
  exact hv_iret X d_Md_turned_10 E
set_option maxHeartbeats 4000000 in
set_option maxRecDepth 100000 in
theorem w_Md_within_j15 {k : mk_T} (X : hv_X k b_Md_within y_Md_within.cls 3 0 0 (some (.boolean)) y_Md_within.name) (N : Nat) (σ : ho_H) (y0 : Int32)  (r : Int32) (hf : f_Md_within_j15 k.2.1 N σ y0 = some r) (E : hv_end k σ (some (.int r))) : hv_V k σ 15 [none, none, none] [.int y0] := by
  unfold f_Md_within_j15 at hf
  obtain ⟨_, hz, hf⟩ := bd_E hf
  cases hf
  exact hv_zret X d_Md_within_15 (ho_bz_E hz) E
set_option maxHeartbeats 4000000 in
set_option maxRecDepth 100000 in
theorem w_Md_within_j14 {k : mk_T} (X : hv_X k b_Md_within y_Md_within.cls 3 0 0 (some (.boolean)) y_Md_within.name) (N : Nat) (σ : ho_H)   (r : Int32) (hf : f_Md_within_j14 k.2.1 N σ  = some r) (E : hv_end k σ (some (.int r))) : hv_V k σ 14 [none, none, none] [] := by
  unfold f_Md_within_j14 at hf
  refine hv_iconst (pn := 15) (v := 0) X d_Md_within_14 ?_
  exact w_Md_within_j15 X N σ 0  _ hf E
set_option maxHeartbeats 4000000 in
set_option maxRecDepth 100000 in
theorem c_Md_within (l : Launch) (G : ho_G) (N : Nat) (σ : ho_H) (x0 : Int32) (x1 : Int32) (x2 : Int32) (r : Int32) (hf : f_Md_within G N σ x0 x1 x2 = some r) : hv_C l G y_Md_within (Cond.code y_Md_within b_Md_within 3 (some (.boolean)) :: hv_ws) 0 0 [.int x0, .int x1, .int x2] σ σ (some (.int r)) := by
  refine hv_met [some (.int x0), some (.int x1), some (.int x2)] (plainFor_of_name (by decide +kernel)) (by intro v hv; simp at hv; rcases hv with rfl | rfl | rfl <;> rfl) (Nat.le_of_ble_eq_true rfl) rfl ?_
  intro k X hkl hkG E
  subst hkl
  subst hkG
  unfold f_Md_within at hf
  refine hv_iload_n (pn := 1) X d_Md_within_0 ?_
  refine hv_iload_n (pn := 2) X d_Md_within_1 ?_
  refine hv_icmp_lt (pn := 5) (tgt := 14) X d_Md_within_2 (by decide) (fun hc => ?_) (fun hc => ?_)
  · rw [if_pos hc] at hf
    refine hv_drop (i := 0) (lo' := [none, some (.int x1), some (.int x2)]) ?_
    refine hv_drop (i := 1) (lo' := [none, none, some (.int x2)]) ?_
    refine hv_drop (i := 2) (lo' := [none, none, none]) ?_
    exact w_Md_within_j14 X N σ   _ hf E
  · rw [if_neg hc] at hf
    refine hv_iload_n (pn := 6) X d_Md_within_5 ?_
    refine hv_iload_n (pn := 7) X d_Md_within_6 ?_
    refine hv_icmp_gt (pn := 10) (tgt := 14) X d_Md_within_7 (by decide) (fun hc => ?_) (fun hc => ?_)
    · rw [if_pos hc] at hf
      refine hv_drop (i := 0) (lo' := [none, some (.int x1), some (.int x2)]) ?_
      refine hv_drop (i := 1) (lo' := [none, none, some (.int x2)]) ?_
      refine hv_drop (i := 2) (lo' := [none, none, none]) ?_
      exact w_Md_within_j14 X N σ   _ hf E
    · rw [if_neg hc] at hf
      refine hv_iconst (pn := 11) (v := 1) X d_Md_within_10 ?_
      refine hv_goto (tgt := 15) X d_Md_within_11 (by decide) ?_
      refine hv_drop (i := 0) (lo' := [none, some (.int x1), some (.int x2)]) ?_
      refine hv_drop (i := 1) (lo' := [none, none, some (.int x2)]) ?_
      refine hv_drop (i := 2) (lo' := [none, none, none]) ?_
      exact w_Md_within_j15 X N σ 1  _ hf E
set_option maxHeartbeats 4000000 in
set_option maxRecDepth 100000 in
theorem c_Md_interval (l : Launch) (G : ho_G) (N : Nat) (σ : ho_H) (a0 : Nat) (r : Int32) (hf : f_Md_interval G N σ a0 = some r) : hv_C l G y_Md_interval (Cond.code y_Md_interval b_Md_interval 1 (some (.int)) :: hv_ws) 0 0 [.ref a0] σ σ (some (.int r)) := by
  refine hv_met [some (.ref a0)] (plainFor_of_name (by decide +kernel)) (by intro v hv; simp at hv; rcases hv with rfl <;> rfl) (Nat.le_of_ble_eq_true rfl) rfl ?_
  intro k X hkl hkG E
  subst hkl
  subst hkG
  unfold f_Md_interval at hf
  refine hv_aload_n (pn := 1) X d_Md_interval_0 ?_
  obtain ⟨v1, hv1, hf⟩ := bd_E hf
  refine hv_getI (pn := 4) X d_Md_interval_1 fa_Md_217 hv1 ?_
  refine hv_aload_n (pn := 5) X d_Md_interval_4 ?_
  obtain ⟨v2, hv2, hf⟩ := bd_E hf
  refine hv_getI (pn := 8) X d_Md_interval_5 fa_Md_183 hv2 ?_
  obtain ⟨_, hz, hf⟩ := bd_E hf
  refine hv_idiv (pn := 9) X d_Md_interval_8 (ho_nz_E hz) ?_
  refine hv_iconst (pn := 10) (v := 1) X d_Md_interval_9 ?_
  refine hv_iadd (pn := 11) X d_Md_interval_10 ?_
  cases hf
  exact hv_iret X d_Md_interval_11 E
set_option maxHeartbeats 4000000 in
set_option maxRecDepth 100000 in
theorem c_Md_chainOf (l : Launch) (G : ho_G) (N : Nat) (σ : ho_H) (x0 : Int32) (r : Int32) (hf : f_Md_chainOf G N σ x0 = some r) : hv_C l G y_Md_chainOf (Cond.code y_Md_chainOf b_Md_chainOf 1 (some (.int)) :: hv_ws) 0 0 [.int x0] σ σ (some (.int r)) := by
  refine hv_met [some (.int x0)] (plainFor_of_name (by decide +kernel)) (by intro v hv; simp at hv; rcases hv with rfl <;> rfl) (Nat.le_of_ble_eq_true rfl) rfl ?_
  intro k X hkl hkG E
  subst hkl
  subst hkG
  unfold f_Md_chainOf at hf
  refine hv_iload_n (pn := 1) X d_Md_chainOf_0 ?_
  refine hv_iconst (pn := 2) (v := 1) X d_Md_chainOf_1 ?_
  refine hv_isub (pn := 3) X d_Md_chainOf_2 ?_
  refine hv_bipush (pn := 5) (v := 64) X d_Md_chainOf_3 ?_
  refine hv_idiv (pn := 6) X d_Md_chainOf_5 (by decide) ?_
  cases hf
  exact hv_iret X d_Md_chainOf_6 E
set_option maxHeartbeats 4000000 in
set_option maxRecDepth 100000 in
theorem c_Md_keyAt (l : Launch) (G : ho_G) (N : Nat) (σ : ho_H) (a0 : Nat) (x1 : Int32) (x2 : Int32) (x3 : Int32) (r : Int32) (hf : f_Md_keyAt G N σ a0 x1 x2 x3 = some r) : hv_C l G y_Md_keyAt (Cond.code y_Md_keyAt b_Md_keyAt 4 (some (.int)) :: hv_ws) 0 0 [.ref a0, .int x1, .int x2, .int x3] σ σ (some (.int r)) := by
  refine hv_met [some (.ref a0), some (.int x1), some (.int x2), some (.int x3)] (plainFor_of_name (by decide +kernel)) (by intro v hv; simp at hv; rcases hv with rfl | rfl | rfl | rfl <;> rfl) (Nat.le_of_ble_eq_true rfl) rfl ?_
  intro k X hkl hkG E
  subst hkl
  subst hkG
  unfold f_Md_keyAt at hf
  refine hv_aload_n (pn := 1) X d_Md_keyAt_0 ?_
  obtain ⟨b1, hb1, hf⟩ := bd_E hf
  refine hv_getR (pn := 4) X d_Md_keyAt_1 fa_Md_112 hb1 ?_
  refine hv_sipush (pn := 7) (v := 1300) X d_Md_keyAt_4 ?_
  refine hv_iload_n (pn := 8) X d_Md_keyAt_7 ?_
  refine hv_imul (pn := 9) X d_Md_keyAt_8 ?_
  refine hv_bipush (pn := 11) (v := 20) X d_Md_keyAt_9 ?_
  refine hv_iload_n (pn := 12) X d_Md_keyAt_11 ?_
  refine hv_imul (pn := 13) X d_Md_keyAt_12 ?_
  refine hv_iadd (pn := 14) X d_Md_keyAt_13 ?_
  refine hv_iload_n (pn := 15) X d_Md_keyAt_14 ?_
  refine hv_iadd (pn := 16) X d_Md_keyAt_15 ?_
  obtain ⟨v2, hv2, hf⟩ := bd_E hf
  refine hv_iald (pn := 17) X d_Md_keyAt_16 hv2 ?_
  cases hf
  exact hv_iret X d_Md_keyAt_17 E
set_option maxHeartbeats 4000000 in
set_option maxRecDepth 100000 in
theorem w_Md_block_j156_in2 {k : mk_T} (X : hv_X k b_Md_block y_Md_block.cls 8 1 21 none y_Md_block.name) (N : Nat) (σ : ho_H) (a0 : Nat) (x1 : Int32) (x2 : Int32)  (r : (ho_H × Int32) ⊕ (ho_H)) (hf : f_Md_block_j156_in2 k.2.1 N σ a0 x1 x2 = some r) (E : sm (fun s => hv_V k s.1 2 [some (.ref a0), some (.int x1), some (.int s.2), none, none, none, none, none] []) (fun s => hv_V k s 162 [some (.ref a0), none, none, none, none, none, none, none] []) r) : hv_V k σ 156 [some (.ref a0), some (.int x1), some (.int x2), none, none, none, none, none] [] := by
  unfold f_Md_block_j156_in2 at hf
  refine hv_iinc (pn := 159) (i := 2) (v := x2 + 1) (lo' := [some (.ref a0), some (.int x1), some (.int (x2 + 1)), none, none, none, none, none]) X d_Md_block_156 ?_
  refine hv_goto (tgt := 2) X d_Md_block_159 (by decide) ?_
  cases hf
  exact E
set_option maxHeartbeats 4000000 in
set_option maxRecDepth 100000 in
theorem w_Md_block_l2 {k : mk_T} (X : hv_X k b_Md_block y_Md_block.cls 8 1 21 none y_Md_block.name) (N : Nat) (a0 : Nat) (x1 : Int32) (σ : ho_H) (x2 : Int32) (r : (ho_H × Int32) ⊕ (ho_H)) (hf : f_Md_block_l2 k.2.1 N a0 x1 (σ, x2) = some r) (E : sm (fun s => hv_V k s.1 2 [some (.ref a0), some (.int x1), some (.int s.2), none, none, none, none, none] []) (fun s => hv_V k s 162 [some (.ref a0), none, none, none, none, none, none, none] []) r) : hv_V k σ 2 [some (.ref a0), some (.int x1), some (.int x2), none, none, none, none, none] [] := by
  unfold f_Md_block_l2 at hf
  try dsimp only at hf
  refine hv_iload_n (pn := 3) X d_Md_block_2 ?_
  refine hv_bipush (pn := 5) (v := 64) X d_Md_block_3 ?_
  refine hv_icmp_ge (pn := 8) (tgt := 162) X d_Md_block_5 (by decide) (fun hc => ?_) (fun hc => ?_)
  · rw [if_pos hc] at hf
    refine hv_drop (i := 1) (lo' := [some (.ref a0), none, some (.int x2), none, none, none, none, none]) ?_
    refine hv_drop (i := 2) (lo' := [some (.ref a0), none, none, none, none, none, none, none]) ?_
    cases hf
    exact E
  · rw [if_neg hc] at hf
    refine hv_iload_n (pn := 9) X d_Md_block_8 ?_
    refine hv_bipush (pn := 11) (v := 16) X d_Md_block_9 ?_
    refine hv_icmp_ge (pn := 14) (tgt := 71) X d_Md_block_11 (by decide) (fun hc => ?_) (fun hc => ?_)
    · rw [if_pos hc] at hf
      refine hv_aload_n (pn := 72) X d_Md_block_71 ?_
      obtain ⟨b1, hb1, hf⟩ := bd_E hf
      refine hv_getR (pn := 75) X d_Md_block_72 fa_Md_88 hb1 ?_
      refine hv_iload_n (pn := 76) X d_Md_block_75 ?_
      refine hv_bipush (pn := 78) (v := 15) X d_Md_block_76 ?_
      refine hv_isub (pn := 79) X d_Md_block_78 ?_
      obtain ⟨v2, hv2, hf⟩ := bd_E hf
      refine hv_iald (pn := 80) X d_Md_block_79 hv2 ?_
      refine hv_istore_n (pn := 81) (i := 3) (lo' := [some (.ref a0), some (.int x1), some (.int x2), some (.int v2), none, none, none, none]) X d_Md_block_80 ?_
      refine hv_aload_n (pn := 82) X d_Md_block_81 ?_
      obtain ⟨b3, hb3, hf⟩ := bd_E hf
      refine hv_getR (pn := 85) X d_Md_block_82 fa_Md_88 hb3 ?_
      refine hv_iload_n (pn := 86) X d_Md_block_85 ?_
      refine hv_iconst (pn := 87) (v := 2) X d_Md_block_86 ?_
      refine hv_isub (pn := 88) X d_Md_block_87 ?_
      obtain ⟨v4, hv4, hf⟩ := bd_E hf
      refine hv_iald (pn := 89) X d_Md_block_88 hv4 ?_
      refine hv_istore (pn := 91) (i := 4) (lo' := [some (.ref a0), some (.int x1), some (.int x2), some (.int v2), some (.int v4), none, none, none]) X d_Md_block_89 ?_
      refine hv_aload_n (pn := 92) X d_Md_block_91 ?_
      obtain ⟨b5, hb5, hf⟩ := bd_E hf
      refine hv_getR (pn := 95) X d_Md_block_92 fa_Md_88 hb5 ?_
      refine hv_iload_n (pn := 96) X d_Md_block_95 ?_
      refine hv_aload_n (pn := 97) X d_Md_block_96 ?_
      obtain ⟨b6, hb6, hf⟩ := bd_E hf
      refine hv_getR (pn := 100) X d_Md_block_97 fa_Md_88 hb6 ?_
      refine hv_iload_n (pn := 101) X d_Md_block_100 ?_
      refine hv_bipush (pn := 103) (v := 16) X d_Md_block_101 ?_
      refine hv_isub (pn := 104) X d_Md_block_103 ?_
      obtain ⟨v7, hv7, hf⟩ := bd_E hf
      refine hv_iald (pn := 105) X d_Md_block_104 hv7 ?_
      refine hv_aload_n (pn := 106) X d_Md_block_105 ?_
      obtain ⟨b8, hb8, hf⟩ := bd_E hf
      refine hv_getR (pn := 109) X d_Md_block_106 fa_Md_88 hb8 ?_
      refine hv_iload_n (pn := 110) X d_Md_block_109 ?_
      refine hv_bipush (pn := 112) (v := 7) X d_Md_block_110 ?_
      refine hv_isub (pn := 113) X d_Md_block_112 ?_
      obtain ⟨v9, hv9, hf⟩ := bd_E hf
      refine hv_iald (pn := 114) X d_Md_block_113 hv9 ?_
      refine hv_iadd (pn := 115) X d_Md_block_114 ?_
      refine hv_iload_n (pn := 116) X d_Md_block_115 ?_
      refine hv_bipush (pn := 118) (v := 7) X d_Md_block_116 ?_
      obtain ⟨v10, hv10, hf⟩ := bd_E hf
      refine hv_callS (pn := 121) X d_Md_block_118 (c_Md_turned _ _ N σ v2 7 _ hv10) cs_Md_192 q_5_25 (by decide) (by decide) ⟨Nat.le_refl _, Nat.le_refl _⟩ (Nat.le_of_ble_eq_true rfl) ?_
      refine hv_iload_n (pn := 122) X d_Md_block_121 ?_
      refine hv_bipush (pn := 124) (v := 18) X d_Md_block_122 ?_
      obtain ⟨v11, hv11, hf⟩ := bd_E hf
      refine hv_callS (pn := 127) X d_Md_block_124 (c_Md_turned _ _ N σ v2 18 _ hv11) cs_Md_192 q_5_25 (by decide) (by decide) ⟨Nat.le_refl _, Nat.le_refl _⟩ (Nat.le_of_ble_eq_true rfl) ?_
      refine hv_ixor (pn := 128) X d_Md_block_127 ?_
      refine hv_iload_n (pn := 129) X d_Md_block_128 ?_
      refine hv_iconst (pn := 130) (v := 3) X d_Md_block_129 ?_
      refine hv_iushr (pn := 131) X d_Md_block_130 ?_
      refine hv_ixor (pn := 132) X d_Md_block_131 ?_
      refine hv_iadd (pn := 133) X d_Md_block_132 ?_
      refine hv_iload (pn := 135) X d_Md_block_133 ?_
      refine hv_bipush (pn := 137) (v := 17) X d_Md_block_135 ?_
      obtain ⟨v12, hv12, hf⟩ := bd_E hf
      refine hv_callS (pn := 140) X d_Md_block_137 (c_Md_turned _ _ N σ v4 17 _ hv12) cs_Md_192 q_5_25 (by decide) (by decide) ⟨Nat.le_refl _, Nat.le_refl _⟩ (Nat.le_of_ble_eq_true rfl) ?_
      refine hv_iload (pn := 142) X d_Md_block_140 ?_
      refine hv_bipush (pn := 144) (v := 19) X d_Md_block_142 ?_
      obtain ⟨v13, hv13, hf⟩ := bd_E hf
      refine hv_callS (pn := 147) X d_Md_block_144 (c_Md_turned _ _ N σ v4 19 _ hv13) cs_Md_192 q_5_25 (by decide) (by decide) ⟨Nat.le_refl _, Nat.le_refl _⟩ (Nat.le_of_ble_eq_true rfl) ?_
      refine hv_ixor (pn := 148) X d_Md_block_147 ?_
      refine hv_iload (pn := 150) X d_Md_block_148 ?_
      refine hv_bipush (pn := 152) (v := 10) X d_Md_block_150 ?_
      refine hv_iushr (pn := 153) X d_Md_block_152 ?_
      refine hv_ixor (pn := 154) X d_Md_block_153 ?_
      refine hv_iadd (pn := 155) X d_Md_block_154 ?_
      obtain ⟨σ14, hσ14, hf⟩ := bd_E hf
      refine hv_iast (pn := 156) X d_Md_block_155 hσ14 ?_
      refine hv_drop (i := 3) (lo' := [some (.ref a0), some (.int x1), some (.int x2), none, some (.int v4), none, none, none]) ?_
      refine hv_drop (i := 4) (lo' := [some (.ref a0), some (.int x1), some (.int x2), none, none, none, none, none]) ?_
      exact w_Md_block_j156_in2 X N σ14 a0 x1 x2  _ hf E
    · rw [if_neg hc] at hf
      refine hv_iload_n (pn := 15) X d_Md_block_14 ?_
      refine hv_iconst (pn := 16) (v := 4) X d_Md_block_15 ?_
      refine hv_iload_n (pn := 17) X d_Md_block_16 ?_
      refine hv_imul (pn := 18) X d_Md_block_17 ?_
      refine hv_iadd (pn := 19) X d_Md_block_18 ?_
      refine hv_istore_n (pn := 20) (i := 3) (lo' := [some (.ref a0), some (.int x1), some (.int x2), some (.int (x1 + (4 * x2))), none, none, none, none]) X d_Md_block_19 ?_
      refine hv_aload_n (pn := 21) X d_Md_block_20 ?_
      obtain ⟨b15, hb15, hf⟩ := bd_E hf
      refine hv_getR (pn := 24) X d_Md_block_21 fa_Md_88 hb15 ?_
      refine hv_iload_n (pn := 25) X d_Md_block_24 ?_
      refine hv_aload_n (pn := 26) X d_Md_block_25 ?_
      obtain ⟨b16, hb16, hf⟩ := bd_E hf
      refine hv_getR (pn := 29) X d_Md_block_26 fa_Md_97 hb16 ?_
      refine hv_iload_n (pn := 30) X d_Md_block_29 ?_
      obtain ⟨v17, hv17, hf⟩ := bd_E hf
      refine hv_iald (pn := 31) X d_Md_block_30 hv17 ?_
      refine hv_bipush (pn := 33) (v := 24) X d_Md_block_31 ?_
      refine hv_ishl (pn := 34) X d_Md_block_33 ?_
      refine hv_aload_n (pn := 35) X d_Md_block_34 ?_
      obtain ⟨b18, hb18, hf⟩ := bd_E hf
      refine hv_getR (pn := 38) X d_Md_block_35 fa_Md_97 hb18 ?_
      refine hv_iload_n (pn := 39) X d_Md_block_38 ?_
      refine hv_iconst (pn := 40) (v := 1) X d_Md_block_39 ?_
      refine hv_iadd (pn := 41) X d_Md_block_40 ?_
      obtain ⟨v19, hv19, hf⟩ := bd_E hf
      refine hv_iald (pn := 42) X d_Md_block_41 hv19 ?_
      refine hv_bipush (pn := 44) (v := 16) X d_Md_block_42 ?_
      refine hv_ishl (pn := 45) X d_Md_block_44 ?_
      refine hv_ior (pn := 46) X d_Md_block_45 ?_
      refine hv_aload_n (pn := 47) X d_Md_block_46 ?_
      obtain ⟨b20, hb20, hf⟩ := bd_E hf
      refine hv_getR (pn := 50) X d_Md_block_47 fa_Md_97 hb20 ?_
      refine hv_iload_n (pn := 51) X d_Md_block_50 ?_
      refine hv_iconst (pn := 52) (v := 2) X d_Md_block_51 ?_
      refine hv_iadd (pn := 53) X d_Md_block_52 ?_
      obtain ⟨v21, hv21, hf⟩ := bd_E hf
      refine hv_iald (pn := 54) X d_Md_block_53 hv21 ?_
      refine hv_bipush (pn := 56) (v := 8) X d_Md_block_54 ?_
      refine hv_ishl (pn := 57) X d_Md_block_56 ?_
      refine hv_ior (pn := 58) X d_Md_block_57 ?_
      refine hv_aload_n (pn := 59) X d_Md_block_58 ?_
      obtain ⟨b22, hb22, hf⟩ := bd_E hf
      refine hv_getR (pn := 62) X d_Md_block_59 fa_Md_97 hb22 ?_
      refine hv_iload_n (pn := 63) X d_Md_block_62 ?_
      refine hv_iconst (pn := 64) (v := 3) X d_Md_block_63 ?_
      refine hv_iadd (pn := 65) X d_Md_block_64 ?_
      obtain ⟨v23, hv23, hf⟩ := bd_E hf
      refine hv_iald (pn := 66) X d_Md_block_65 hv23 ?_
      refine hv_ior (pn := 67) X d_Md_block_66 ?_
      obtain ⟨σ24, hσ24, hf⟩ := bd_E hf
      refine hv_iast (pn := 68) X d_Md_block_67 hσ24 ?_
      refine hv_goto (tgt := 156) X d_Md_block_68 (by decide) ?_
      refine hv_drop (i := 3) (lo' := [some (.ref a0), some (.int x1), some (.int x2), none, none, none, none, none]) ?_
      exact w_Md_block_j156_in2 X N σ24 a0 x1 x2  _ hf E
set_option maxHeartbeats 4000000 in
set_option maxRecDepth 100000 in
theorem w_Md_block_l164 {k : mk_T} (X : hv_X k b_Md_block y_Md_block.cls 8 1 21 none y_Md_block.name) (N : Nat) (a0 : Nat) (σ : ho_H) (x2 : Int32) (r : (ho_H × Int32) ⊕ (ho_H)) (hf : f_Md_block_l164 k.2.1 N a0 (σ, x2) = some r) (E : sm (fun s => hv_V k s.1 164 [some (.ref a0), none, some (.int s.2), none, none, none, none, none] []) (fun s => hv_V k s 188 [some (.ref a0), none, none, none, none, none, none, none] []) r) : hv_V k σ 164 [some (.ref a0), none, some (.int x2), none, none, none, none, none] [] := by
  unfold f_Md_block_l164 at hf
  try dsimp only at hf
  refine hv_iload_n (pn := 165) X d_Md_block_164 ?_
  refine hv_bipush (pn := 167) (v := 8) X d_Md_block_165 ?_
  refine hv_icmp_ge (pn := 170) (tgt := 188) X d_Md_block_167 (by decide) (fun hc => ?_) (fun hc => ?_)
  · rw [if_pos hc] at hf
    refine hv_drop (i := 2) (lo' := [some (.ref a0), none, none, none, none, none, none, none]) ?_
    cases hf
    exact E
  · rw [if_neg hc] at hf
    refine hv_aload_n (pn := 171) X d_Md_block_170 ?_
    obtain ⟨b26, hb26, hf⟩ := bd_E hf
    refine hv_getR (pn := 174) X d_Md_block_171 fa_Md_94 hb26 ?_
    refine hv_iload_n (pn := 175) X d_Md_block_174 ?_
    refine hv_aload_n (pn := 176) X d_Md_block_175 ?_
    obtain ⟨b27, hb27, hf⟩ := bd_E hf
    refine hv_getR (pn := 179) X d_Md_block_176 fa_Md_91 hb27 ?_
    refine hv_iload_n (pn := 180) X d_Md_block_179 ?_
    obtain ⟨v28, hv28, hf⟩ := bd_E hf
    refine hv_iald (pn := 181) X d_Md_block_180 hv28 ?_
    obtain ⟨σ29, hσ29, hf⟩ := bd_E hf
    refine hv_iast (pn := 182) X d_Md_block_181 hσ29 ?_
    refine hv_iinc (pn := 185) (i := 2) (v := x2 + 1) (lo' := [some (.ref a0), none, some (.int (x2 + 1)), none, none, none, none, none]) X d_Md_block_182 ?_
    refine hv_goto (tgt := 164) X d_Md_block_185 (by decide) ?_
    cases hf
    exact E
set_option maxHeartbeats 4000000 in
set_option maxRecDepth 100000 in
theorem w_Md_block_l338_in190 {k : mk_T} (X : hv_X k b_Md_block y_Md_block.cls 8 1 21 none y_Md_block.name) (N : Nat) (a0 : Nat) (x2 : Int32) (x5 : Int32) (x6 : Int32) (σ : ho_H) (x7 : Int32) (r : (ho_H × Int32) ⊕ (ho_H)) (hf : f_Md_block_l338_in190 k.2.1 N a0 x2 x5 x6 (σ, x7) = some r) (E : sm (fun s => hv_V k s.1 338 [some (.ref a0), none, some (.int x2), none, none, some (.int x5), some (.int x6), some (.int s.2)] []) (fun s => hv_V k s 365 [some (.ref a0), none, some (.int x2), none, none, some (.int x5), some (.int x6), none] []) r) : hv_V k σ 338 [some (.ref a0), none, some (.int x2), none, none, some (.int x5), some (.int x6), some (.int x7)] [] := by
  unfold f_Md_block_l338_in190 at hf
  try dsimp only at hf
  refine hv_iload (pn := 340) X d_Md_block_338 ?_
  refine hv_if_le (pn := 343) (tgt := 365) X d_Md_block_340 (by decide) (fun hc => ?_) (fun hc => ?_)
  · rw [if_pos hc] at hf
    refine hv_drop (i := 7) (lo' := [some (.ref a0), none, some (.int x2), none, none, some (.int x5), some (.int x6), none]) ?_
    cases hf
    exact E
  · rw [if_neg hc] at hf
    refine hv_aload_n (pn := 344) X d_Md_block_343 ?_
    obtain ⟨b61, hb61, hf⟩ := bd_E hf
    refine hv_getR (pn := 347) X d_Md_block_344 fa_Md_94 hb61 ?_
    refine hv_iload (pn := 349) X d_Md_block_347 ?_
    refine hv_aload_n (pn := 350) X d_Md_block_349 ?_
    obtain ⟨b62, hb62, hf⟩ := bd_E hf
    refine hv_getR (pn := 353) X d_Md_block_350 fa_Md_94 hb62 ?_
    refine hv_iload (pn := 355) X d_Md_block_353 ?_
    refine hv_iconst (pn := 356) (v := 1) X d_Md_block_355 ?_
    refine hv_isub (pn := 357) X d_Md_block_356 ?_
    obtain ⟨v63, hv63, hf⟩ := bd_E hf
    refine hv_iald (pn := 358) X d_Md_block_357 hv63 ?_
    obtain ⟨σ64, hσ64, hf⟩ := bd_E hf
    refine hv_iast (pn := 359) X d_Md_block_358 hσ64 ?_
    refine hv_iinc (pn := 362) (i := 7) (v := x7 + (-1)) (lo' := [some (.ref a0), none, some (.int x2), none, none, some (.int x5), some (.int x6), some (.int (x7 + (-1)))]) X d_Md_block_359 ?_
    refine hv_goto (tgt := 338) X d_Md_block_362 (by decide) ?_
    cases hf
    exact E
set_option maxHeartbeats 4000000 in
set_option maxRecDepth 100000 in
theorem w_Md_block_l190 {k : mk_T} (X : hv_X k b_Md_block y_Md_block.cls 8 1 21 none y_Md_block.name) (N : Nat) (a0 : Nat) (σ : ho_H) (x2 : Int32) (r : (ho_H × Int32) ⊕ (ho_H)) (hf : f_Md_block_l190 k.2.1 N a0 (σ, x2) = some r) (E : sm (fun s => hv_V k s.1 190 [some (.ref a0), none, some (.int s.2), none, none, none, none, none] []) (fun s => hv_V k s 393 [some (.ref a0), none, none, none, none, none, none, none] []) r) : hv_V k σ 190 [some (.ref a0), none, some (.int x2), none, none, none, none, none] [] := by
  unfold f_Md_block_l190 at hf
  try dsimp only at hf
  refine hv_iload_n (pn := 191) X d_Md_block_190 ?_
  refine hv_bipush (pn := 193) (v := 64) X d_Md_block_191 ?_
  refine hv_icmp_ge (pn := 196) (tgt := 393) X d_Md_block_193 (by decide) (fun hc => ?_) (fun hc => ?_)
  · rw [if_pos hc] at hf
    refine hv_drop (i := 2) (lo' := [some (.ref a0), none, none, none, none, none, none, none]) ?_
    cases hf
    exact E
  · rw [if_neg hc] at hf
    refine hv_aload_n (pn := 197) X d_Md_block_196 ?_
    obtain ⟨b31, hb31, hf⟩ := bd_E hf
    refine hv_getR (pn := 200) X d_Md_block_197 fa_Md_94 hb31 ?_
    refine hv_iconst (pn := 201) (v := 0) X d_Md_block_200 ?_
    obtain ⟨v32, hv32, hf⟩ := bd_E hf
    refine hv_iald (pn := 202) X d_Md_block_201 hv32 ?_
    refine hv_istore_n (pn := 203) (i := 3) (lo' := [some (.ref a0), none, some (.int x2), some (.int v32), none, none, none, none]) X d_Md_block_202 ?_
    refine hv_aload_n (pn := 204) X d_Md_block_203 ?_
    obtain ⟨b33, hb33, hf⟩ := bd_E hf
    refine hv_getR (pn := 207) X d_Md_block_204 fa_Md_94 hb33 ?_
    refine hv_iconst (pn := 208) (v := 4) X d_Md_block_207 ?_
    obtain ⟨v34, hv34, hf⟩ := bd_E hf
    refine hv_iald (pn := 209) X d_Md_block_208 hv34 ?_
    refine hv_istore (pn := 211) (i := 4) (lo' := [some (.ref a0), none, some (.int x2), some (.int v32), some (.int v34), none, none, none]) X d_Md_block_209 ?_
    refine hv_aload_n (pn := 212) X d_Md_block_211 ?_
    obtain ⟨b35, hb35, hf⟩ := bd_E hf
    refine hv_getR (pn := 215) X d_Md_block_212 fa_Md_94 hb35 ?_
    refine hv_bipush (pn := 217) (v := 7) X d_Md_block_215 ?_
    obtain ⟨v36, hv36, hf⟩ := bd_E hf
    refine hv_iald (pn := 218) X d_Md_block_217 hv36 ?_
    refine hv_iload (pn := 220) X d_Md_block_218 ?_
    refine hv_bipush (pn := 222) (v := 6) X d_Md_block_220 ?_
    obtain ⟨v37, hv37, hf⟩ := bd_E hf
    refine hv_callS (pn := 225) X d_Md_block_222 (c_Md_turned _ _ N σ v34 6 _ hv37) cs_Md_192 q_5_25 (by decide) (by decide) ⟨Nat.le_refl _, Nat.le_refl _⟩ (Nat.le_of_ble_eq_true rfl) ?_
    refine hv_iload (pn := 227) X d_Md_block_225 ?_
    refine hv_bipush (pn := 229) (v := 11) X d_Md_block_227 ?_
    obtain ⟨v38, hv38, hf⟩ := bd_E hf
    refine hv_callS (pn := 232) X d_Md_block_229 (c_Md_turned _ _ N σ v34 11 _ hv38) cs_Md_192 q_5_25 (by decide) (by decide) ⟨Nat.le_refl _, Nat.le_refl _⟩ (Nat.le_of_ble_eq_true rfl) ?_
    refine hv_ixor (pn := 233) X d_Md_block_232 ?_
    refine hv_iload (pn := 235) X d_Md_block_233 ?_
    refine hv_bipush (pn := 237) (v := 25) X d_Md_block_235 ?_
    obtain ⟨v39, hv39, hf⟩ := bd_E hf
    refine hv_callS (pn := 240) X d_Md_block_237 (c_Md_turned _ _ N σ v34 25 _ hv39) cs_Md_192 q_5_25 (by decide) (by decide) ⟨Nat.le_refl _, Nat.le_refl _⟩ (Nat.le_of_ble_eq_true rfl) ?_
    refine hv_ixor (pn := 241) X d_Md_block_240 ?_
    refine hv_iadd (pn := 242) X d_Md_block_241 ?_
    refine hv_iload (pn := 244) X d_Md_block_242 ?_
    refine hv_aload_n (pn := 245) X d_Md_block_244 ?_
    obtain ⟨b40, hb40, hf⟩ := bd_E hf
    refine hv_getR (pn := 248) X d_Md_block_245 fa_Md_94 hb40 ?_
    refine hv_iconst (pn := 249) (v := 5) X d_Md_block_248 ?_
    obtain ⟨v41, hv41, hf⟩ := bd_E hf
    refine hv_iald (pn := 250) X d_Md_block_249 hv41 ?_
    refine hv_iand (pn := 251) X d_Md_block_250 ?_
    refine hv_iload (pn := 253) X d_Md_block_251 ?_
    refine hv_iconst (pn := 254) (v := (-1)) X d_Md_block_253 ?_
    refine hv_ixor (pn := 255) X d_Md_block_254 ?_
    refine hv_aload_n (pn := 256) X d_Md_block_255 ?_
    obtain ⟨b42, hb42, hf⟩ := bd_E hf
    refine hv_getR (pn := 259) X d_Md_block_256 fa_Md_94 hb42 ?_
    refine hv_bipush (pn := 261) (v := 6) X d_Md_block_259 ?_
    obtain ⟨v43, hv43, hf⟩ := bd_E hf
    refine hv_iald (pn := 262) X d_Md_block_261 hv43 ?_
    refine hv_iand (pn := 263) X d_Md_block_262 ?_
    refine hv_ior (pn := 264) X d_Md_block_263 ?_
    refine hv_iadd (pn := 265) X d_Md_block_264 ?_
    refine hv_aload_n (pn := 266) X d_Md_block_265 ?_
    obtain ⟨b44, hb44, hf⟩ := bd_E hf
    refine hv_getR (pn := 269) X d_Md_block_266 fa_Md_71 hb44 ?_
    refine hv_iload_n (pn := 270) X d_Md_block_269 ?_
    obtain ⟨v45, hv45, hf⟩ := bd_E hf
    refine hv_iald (pn := 271) X d_Md_block_270 hv45 ?_
    refine hv_iadd (pn := 272) X d_Md_block_271 ?_
    refine hv_aload_n (pn := 273) X d_Md_block_272 ?_
    obtain ⟨b46, hb46, hf⟩ := bd_E hf
    refine hv_getR (pn := 276) X d_Md_block_273 fa_Md_88 hb46 ?_
    refine hv_iload_n (pn := 277) X d_Md_block_276 ?_
    obtain ⟨v47, hv47, hf⟩ := bd_E hf
    refine hv_iald (pn := 278) X d_Md_block_277 hv47 ?_
    refine hv_iadd (pn := 279) X d_Md_block_278 ?_
    obtain ⟨v48, hv48, hf⟩ := nm_E hf
    refine hv_topi hv48 ?_
    refine hv_istore (pn := 281) (i := 5) (lo' := [some (.ref a0), none, some (.int x2), some (.int v32), some (.int v34), some (.int v48), none, none]) X d_Md_block_279 ?_
    refine hv_iload_n (pn := 282) X d_Md_block_281 ?_
    refine hv_iconst (pn := 283) (v := 2) X d_Md_block_282 ?_
    obtain ⟨v49, hv49, hf⟩ := bd_E hf
    refine hv_callS (pn := 286) X d_Md_block_283 (c_Md_turned _ _ N σ v32 2 _ hv49) cs_Md_192 q_5_25 (by decide) (by decide) ⟨Nat.le_refl _, Nat.le_refl _⟩ (Nat.le_of_ble_eq_true rfl) ?_
    refine hv_iload_n (pn := 287) X d_Md_block_286 ?_
    refine hv_bipush (pn := 289) (v := 13) X d_Md_block_287 ?_
    obtain ⟨v50, hv50, hf⟩ := bd_E hf
    refine hv_callS (pn := 292) X d_Md_block_289 (c_Md_turned _ _ N σ v32 13 _ hv50) cs_Md_192 q_5_25 (by decide) (by decide) ⟨Nat.le_refl _, Nat.le_refl _⟩ (Nat.le_of_ble_eq_true rfl) ?_
    refine hv_ixor (pn := 293) X d_Md_block_292 ?_
    refine hv_iload_n (pn := 294) X d_Md_block_293 ?_
    refine hv_bipush (pn := 296) (v := 22) X d_Md_block_294 ?_
    obtain ⟨v51, hv51, hf⟩ := bd_E hf
    refine hv_callS (pn := 299) X d_Md_block_296 (c_Md_turned _ _ N σ v32 22 _ hv51) cs_Md_192 q_5_25 (by decide) (by decide) ⟨Nat.le_refl _, Nat.le_refl _⟩ (Nat.le_of_ble_eq_true rfl) ?_
    refine hv_ixor (pn := 300) X d_Md_block_299 ?_
    refine hv_iload_n (pn := 301) X d_Md_block_300 ?_
    refine hv_aload_n (pn := 302) X d_Md_block_301 ?_
    obtain ⟨b52, hb52, hf⟩ := bd_E hf
    refine hv_getR (pn := 305) X d_Md_block_302 fa_Md_94 hb52 ?_
    refine hv_iconst (pn := 306) (v := 1) X d_Md_block_305 ?_
    obtain ⟨v53, hv53, hf⟩ := bd_E hf
    refine hv_iald (pn := 307) X d_Md_block_306 hv53 ?_
    refine hv_iand (pn := 308) X d_Md_block_307 ?_
    refine hv_iload_n (pn := 309) X d_Md_block_308 ?_
    refine hv_aload_n (pn := 310) X d_Md_block_309 ?_
    obtain ⟨b54, hb54, hf⟩ := bd_E hf
    refine hv_getR (pn := 313) X d_Md_block_310 fa_Md_94 hb54 ?_
    refine hv_iconst (pn := 314) (v := 2) X d_Md_block_313 ?_
    obtain ⟨v55, hv55, hf⟩ := bd_E hf
    refine hv_iald (pn := 315) X d_Md_block_314 hv55 ?_
    refine hv_iand (pn := 316) X d_Md_block_315 ?_
    refine hv_ixor (pn := 317) X d_Md_block_316 ?_
    refine hv_aload_n (pn := 318) X d_Md_block_317 ?_
    obtain ⟨b56, hb56, hf⟩ := bd_E hf
    refine hv_getR (pn := 321) X d_Md_block_318 fa_Md_94 hb56 ?_
    refine hv_iconst (pn := 322) (v := 1) X d_Md_block_321 ?_
    obtain ⟨v57, hv57, hf⟩ := bd_E hf
    refine hv_iald (pn := 323) X d_Md_block_322 hv57 ?_
    refine hv_aload_n (pn := 324) X d_Md_block_323 ?_
    obtain ⟨b58, hb58, hf⟩ := bd_E hf
    refine hv_getR (pn := 327) X d_Md_block_324 fa_Md_94 hb58 ?_
    refine hv_iconst (pn := 328) (v := 2) X d_Md_block_327 ?_
    obtain ⟨v59, hv59, hf⟩ := bd_E hf
    refine hv_iald (pn := 329) X d_Md_block_328 hv59 ?_
    refine hv_iand (pn := 330) X d_Md_block_329 ?_
    refine hv_ixor (pn := 331) X d_Md_block_330 ?_
    refine hv_iadd (pn := 332) X d_Md_block_331 ?_
    obtain ⟨v60, hv60, hf⟩ := nm_E hf
    refine hv_topi hv60 ?_
    refine hv_istore (pn := 334) (i := 6) (lo' := [some (.ref a0), none, some (.int x2), some (.int v32), some (.int v34), some (.int v48), some (.int v60), none]) X d_Md_block_332 ?_
    refine hv_bipush (pn := 336) (v := 7) X d_Md_block_334 ?_
    refine hv_istore (pn := 338) (i := 7) (lo' := [some (.ref a0), none, some (.int x2), some (.int v32), some (.int v34), some (.int v48), some (.int v60), some (.int 7)]) X d_Md_block_336 ?_
    refine hv_drop (i := 3) (lo' := [some (.ref a0), none, some (.int x2), none, some (.int v34), some (.int v48), some (.int v60), some (.int 7)]) ?_
    refine hv_drop (i := 4) (lo' := [some (.ref a0), none, some (.int x2), none, none, some (.int v48), some (.int v60), some (.int 7)]) ?_
    obtain ⟨σ65, he72, hf⟩ := bd_E hf
    refine hv_loop (P := fun s => hv_V k s.1 338 [some (.ref a0), none, some (.int x2), none, none, some (.int v48), some (.int v60), some (.int s.2)] []) (Z := fun s => hv_V k s 365 [some (.ref a0), none, some (.int x2), none, none, some (.int v48), some (.int v60), none] []) (fun s r h1 h2 => by obtain ⟨σ, x7⟩ := s; exact w_Md_block_l338_in190 X N a0 x2 v48 v60 σ x7 r h1 h2) N (σ, 7) _ he72 ?_
    try dsimp only at hf ⊢
    refine hv_aload_n (pn := 366) X d_Md_block_365 ?_
    obtain ⟨b66, hb66, hf⟩ := bd_E hf
    refine hv_getR (pn := 369) X d_Md_block_366 fa_Md_94 hb66 ?_
    refine hv_iconst (pn := 370) (v := 4) X d_Md_block_369 ?_
    refine hv_dup2 (pn := 371) X d_Md_block_370 rfl rfl ?_
    obtain ⟨v67, hv67, hf⟩ := bd_E hf
    refine hv_iald (pn := 372) X d_Md_block_371 hv67 ?_
    refine hv_iload (pn := 374) X d_Md_block_372 ?_
    refine hv_iadd (pn := 375) X d_Md_block_374 ?_
    obtain ⟨σ68, hσ68, hf⟩ := bd_E hf
    refine hv_iast (pn := 376) X d_Md_block_375 hσ68 ?_
    refine hv_aload_n (pn := 377) X d_Md_block_376 ?_
    obtain ⟨b69, hb69, hf⟩ := bd_E hf
    refine hv_getR (pn := 380) X d_Md_block_377 fa_Md_94 hb69 ?_
    refine hv_iconst (pn := 381) (v := 0) X d_Md_block_380 ?_
    refine hv_iload (pn := 383) X d_Md_block_381 ?_
    refine hv_iload (pn := 385) X d_Md_block_383 ?_
    refine hv_iadd (pn := 386) X d_Md_block_385 ?_
    obtain ⟨σ70, hσ70, hf⟩ := bd_E hf
    refine hv_iast (pn := 387) X d_Md_block_386 hσ70 ?_
    refine hv_iinc (pn := 390) (i := 2) (v := x2 + 1) (lo' := [some (.ref a0), none, some (.int (x2 + 1)), none, none, some (.int v48), some (.int v60), none]) X d_Md_block_387 ?_
    refine hv_goto (tgt := 190) X d_Md_block_390 (by decide) ?_
    refine hv_drop (i := 5) (lo' := [some (.ref a0), none, some (.int (x2 + 1)), none, none, none, some (.int v60), none]) ?_
    refine hv_drop (i := 6) (lo' := [some (.ref a0), none, some (.int (x2 + 1)), none, none, none, none, none]) ?_
    cases hf
    exact E
set_option maxHeartbeats 4000000 in
set_option maxRecDepth 100000 in
theorem w_Md_block_l395 {k : mk_T} (X : hv_X k b_Md_block y_Md_block.cls 8 1 21 none y_Md_block.name) (N : Nat) (a0 : Nat) (σ : ho_H) (x2 : Int32) (r : (ho_H × Int32) ⊕ (ho_H)) (hf : f_Md_block_l395 k.2.1 N a0 (σ, x2) = some r) (E : sm (fun s => hv_V k s.1 395 [some (.ref a0), none, some (.int s.2), none, none, none, none, none] []) (fun s => hv_V k s 422 [none, none, none, none, none, none, none, none] []) r) : hv_V k σ 395 [some (.ref a0), none, some (.int x2), none, none, none, none, none] [] := by
  unfold f_Md_block_l395 at hf
  try dsimp only at hf
  refine hv_iload_n (pn := 396) X d_Md_block_395 ?_
  refine hv_bipush (pn := 398) (v := 8) X d_Md_block_396 ?_
  refine hv_icmp_ge (pn := 401) (tgt := 422) X d_Md_block_398 (by decide) (fun hc => ?_) (fun hc => ?_)
  · rw [if_pos hc] at hf
    refine hv_drop (i := 0) (lo' := [none, none, some (.int x2), none, none, none, none, none]) ?_
    refine hv_drop (i := 2) (lo' := [none, none, none, none, none, none, none, none]) ?_
    cases hf
    exact E
  · rw [if_neg hc] at hf
    refine hv_aload_n (pn := 402) X d_Md_block_401 ?_
    obtain ⟨b74, hb74, hf⟩ := bd_E hf
    refine hv_getR (pn := 405) X d_Md_block_402 fa_Md_91 hb74 ?_
    refine hv_iload_n (pn := 406) X d_Md_block_405 ?_
    refine hv_dup2 (pn := 407) X d_Md_block_406 rfl rfl ?_
    obtain ⟨v75, hv75, hf⟩ := bd_E hf
    refine hv_iald (pn := 408) X d_Md_block_407 hv75 ?_
    refine hv_aload_n (pn := 409) X d_Md_block_408 ?_
    obtain ⟨b76, hb76, hf⟩ := bd_E hf
    refine hv_getR (pn := 412) X d_Md_block_409 fa_Md_94 hb76 ?_
    refine hv_iload_n (pn := 413) X d_Md_block_412 ?_
    obtain ⟨v77, hv77, hf⟩ := bd_E hf
    refine hv_iald (pn := 414) X d_Md_block_413 hv77 ?_
    refine hv_iadd (pn := 415) X d_Md_block_414 ?_
    obtain ⟨σ78, hσ78, hf⟩ := bd_E hf
    refine hv_iast (pn := 416) X d_Md_block_415 hσ78 ?_
    refine hv_iinc (pn := 419) (i := 2) (v := x2 + 1) (lo' := [some (.ref a0), none, some (.int (x2 + 1)), none, none, none, none, none]) X d_Md_block_416 ?_
    refine hv_goto (tgt := 395) X d_Md_block_419 (by decide) ?_
    cases hf
    exact E
set_option maxHeartbeats 4000000 in
set_option maxRecDepth 100000 in
theorem c_Md_block (l : Launch) (G : ho_G) (N : Nat) (σ : ho_H) (a0 : Nat) (x1 : Int32) (σ' : ho_H) (hf : f_Md_block G N σ a0 x1 = some σ') : hv_C l G y_Md_block (Cond.code y_Md_block b_Md_block 8 none :: hv_ws) 1 21 [.ref a0, .int x1] σ σ' (none) := by
  refine hv_met [some (.ref a0), some (.int x1), none, none, none, none, none, none] (plainFor_of_name (by decide +kernel)) (by intro v hv; simp at hv; rcases hv with rfl | rfl <;> rfl) (Nat.le_of_ble_eq_true rfl) rfl ?_
  intro k X hkl hkG E
  subst hkl
  subst hkG
  unfold f_Md_block at hf
  refine hv_iconst (pn := 1) (v := 0) X d_Md_block_0 ?_
  refine hv_istore_n (pn := 2) (i := 2) (lo' := [some (.ref a0), some (.int x1), some (.int 0), none, none, none, none, none]) X d_Md_block_1 ?_
  obtain ⟨σ25, he87, hf⟩ := bd_E hf
  refine hv_loop (P := fun s => hv_V k s.1 2 [some (.ref a0), some (.int x1), some (.int s.2), none, none, none, none, none] []) (Z := fun s => hv_V k s 162 [some (.ref a0), none, none, none, none, none, none, none] []) (fun s r h1 h2 => by obtain ⟨σ, x2⟩ := s; exact w_Md_block_l2 X N a0 x1 σ x2 r h1 h2) N (σ, 0) _ he87 ?_
  try dsimp only at hf ⊢
  refine hv_iconst (pn := 163) (v := 0) X d_Md_block_162 ?_
  refine hv_istore_n (pn := 164) (i := 2) (lo' := [some (.ref a0), none, some (.int 0), none, none, none, none, none]) X d_Md_block_163 ?_
  obtain ⟨σ30, he85, hf⟩ := bd_E hf
  refine hv_loop (P := fun s => hv_V k s.1 164 [some (.ref a0), none, some (.int s.2), none, none, none, none, none] []) (Z := fun s => hv_V k s 188 [some (.ref a0), none, none, none, none, none, none, none] []) (fun s r h1 h2 => by obtain ⟨σ, x2⟩ := s; exact w_Md_block_l164 X N a0 σ x2 r h1 h2) N (σ25, 0) _ he85 ?_
  try dsimp only at hf ⊢
  refine hv_iconst (pn := 189) (v := 0) X d_Md_block_188 ?_
  refine hv_istore_n (pn := 190) (i := 2) (lo' := [some (.ref a0), none, some (.int 0), none, none, none, none, none]) X d_Md_block_189 ?_
  obtain ⟨σ73, he83, hf⟩ := bd_E hf
  refine hv_loop (P := fun s => hv_V k s.1 190 [some (.ref a0), none, some (.int s.2), none, none, none, none, none] []) (Z := fun s => hv_V k s 393 [some (.ref a0), none, none, none, none, none, none, none] []) (fun s r h1 h2 => by obtain ⟨σ, x2⟩ := s; exact w_Md_block_l190 X N a0 σ x2 r h1 h2) N (σ30, 0) _ he83 ?_
  try dsimp only at hf ⊢
  refine hv_iconst (pn := 394) (v := 0) X d_Md_block_393 ?_
  refine hv_istore_n (pn := 395) (i := 2) (lo' := [some (.ref a0), none, some (.int 0), none, none, none, none, none]) X d_Md_block_394 ?_
  obtain ⟨σ79, he81, hf⟩ := bd_E hf
  refine hv_loop (P := fun s => hv_V k s.1 395 [some (.ref a0), none, some (.int s.2), none, none, none, none, none] []) (Z := fun s => hv_V k s 422 [none, none, none, none, none, none, none, none] []) (fun s r h1 h2 => by obtain ⟨σ, x2⟩ := s; exact w_Md_block_l395 X N a0 σ x2 r h1 h2) N (σ73, 0) _ he81 ?_
  try dsimp only at hf ⊢
  cases hf
  exact hv_vret X d_Md_block_422 E
set_option maxHeartbeats 4000000 in
set_option maxRecDepth 100000 in
theorem w_Md_digestRow_l2 {k : mk_T} (X : hv_X k b_Md_digestRow y_Md_digestRow.cls 4 2 48 none y_Md_digestRow.name) (N : Nat) (a0 : Nat) (σ : ho_H) (x1 : Int32) (r : (ho_H × Int32) ⊕ (ho_H)) (hf : f_Md_digestRow_l2 k.2.1 N a0 (σ, x1) = some r) (E : sm (fun s => hv_V k s.1 2 [some (.ref a0), some (.int s.2), none, none] []) (fun s => hv_V k s 26 [some (.ref a0), none, none, none] []) r) : hv_V k σ 2 [some (.ref a0), some (.int x1), none, none] [] := by
  unfold f_Md_digestRow_l2 at hf
  try dsimp only at hf
  refine hv_iload_n (pn := 3) X d_Md_digestRow_2 ?_
  refine hv_bipush (pn := 5) (v := 8) X d_Md_digestRow_3 ?_
  refine hv_icmp_ge (pn := 8) (tgt := 26) X d_Md_digestRow_5 (by decide) (fun hc => ?_) (fun hc => ?_)
  · rw [if_pos hc] at hf
    refine hv_drop (i := 1) (lo' := [some (.ref a0), none, none, none]) ?_
    cases hf
    exact E
  · rw [if_neg hc] at hf
    refine hv_aload_n (pn := 9) X d_Md_digestRow_8 ?_
    obtain ⟨b1, hb1, hf⟩ := bd_E hf
    refine hv_getR (pn := 12) X d_Md_digestRow_9 fa_Md_91 hb1 ?_
    refine hv_iload_n (pn := 13) X d_Md_digestRow_12 ?_
    refine hv_aload_n (pn := 14) X d_Md_digestRow_13 ?_
    obtain ⟨b2, hb2, hf⟩ := bd_E hf
    refine hv_getR (pn := 17) X d_Md_digestRow_14 fa_Md_85 hb2 ?_
    refine hv_iload_n (pn := 18) X d_Md_digestRow_17 ?_
    obtain ⟨v3, hv3, hf⟩ := bd_E hf
    refine hv_iald (pn := 19) X d_Md_digestRow_18 hv3 ?_
    obtain ⟨σ4, hσ4, hf⟩ := bd_E hf
    refine hv_iast (pn := 20) X d_Md_digestRow_19 hσ4 ?_
    refine hv_iinc (pn := 23) (i := 1) (v := x1 + 1) (lo' := [some (.ref a0), some (.int (x1 + 1)), none, none]) X d_Md_digestRow_20 ?_
    refine hv_goto (tgt := 2) X d_Md_digestRow_23 (by decide) ?_
    cases hf
    exact E
set_option maxHeartbeats 4000000 in
set_option maxRecDepth 100000 in
theorem w_Md_digestRow_l53 {k : mk_T} (X : hv_X k b_Md_digestRow y_Md_digestRow.cls 4 2 48 none y_Md_digestRow.name) (N : Nat) (a0 : Nat) (x1 : Int32) (σ : ho_H) (x2 : Int32) (r : (ho_H × Int32) ⊕ (ho_H × Int32)) (hf : f_Md_digestRow_l53 k.2.1 N a0 x1 (σ, x2) = some r) (E : sm (fun s => hv_V k s.1 53 [some (.ref a0), some (.int x1), some (.int s.2), none] []) (fun s => hv_V k s.1 75 [some (.ref a0), some (.int x1), some (.int s.2), none] []) r) : hv_V k σ 53 [some (.ref a0), some (.int x1), some (.int x2), none] [] := by
  unfold f_Md_digestRow_l53 at hf
  try dsimp only at hf
  refine hv_iload_n (pn := 54) X d_Md_digestRow_53 ?_
  refine hv_bipush (pn := 56) (v := 64) X d_Md_digestRow_54 ?_
  refine hv_irem (pn := 57) X d_Md_digestRow_56 (by decide) ?_
  refine hv_bipush (pn := 59) (v := 56) X d_Md_digestRow_57 ?_
  refine hv_icmp_eq (pn := 62) (tgt := 75) X d_Md_digestRow_59 (by decide) (fun hc => ?_) (fun hc => ?_)
  · rw [if_pos hc] at hf
    cases hf
    exact E
  · rw [if_neg hc] at hf
    refine hv_aload_n (pn := 63) X d_Md_digestRow_62 ?_
    obtain ⟨b11, hb11, hf⟩ := bd_E hf
    refine hv_getR (pn := 66) X d_Md_digestRow_63 fa_Md_97 hb11 ?_
    refine hv_iload_n (pn := 67) X d_Md_digestRow_66 ?_
    refine hv_iconst (pn := 68) (v := 0) X d_Md_digestRow_67 ?_
    obtain ⟨σ12, hσ12, hf⟩ := bd_E hf
    refine hv_iast (pn := 69) X d_Md_digestRow_68 hσ12 ?_
    refine hv_iinc (pn := 72) (i := 2) (v := x2 + 1) (lo' := [some (.ref a0), some (.int x1), some (.int (x2 + 1)), none]) X d_Md_digestRow_69 ?_
    refine hv_goto (tgt := 53) X d_Md_digestRow_72 (by decide) ?_
    cases hf
    exact E
set_option maxHeartbeats 4000000 in
set_option maxRecDepth 100000 in
theorem w_Md_digestRow_j112_in77 {k : mk_T} (X : hv_X k b_Md_digestRow y_Md_digestRow.cls 4 2 48 none y_Md_digestRow.name) (N : Nat) (σ : ho_H) (a0 : Nat) (x1 : Int32) (x2 : Int32) (x3 : Int32) (y0 : Int32) (y1 : Int32) (c2 : Nat)  (r : (ho_H × Int32) ⊕ (ho_H)) (hf : f_Md_digestRow_j112_in77 k.2.1 N σ a0 x1 x2 x3 y0 y1 c2 = some r) (E : sm (fun s => hv_V k s.1 77 [some (.ref a0), some (.int x1), some (.int x2), some (.int s.2)] []) (fun s => hv_V k s 119 [some (.ref a0), none, some (.int x2), none] []) r) : hv_V k σ 112 [some (.ref a0), some (.int x1), some (.int x2), some (.int x3)] [.int y0, .int y1, .ref c2] := by
  unfold f_Md_digestRow_j112_in77 at hf
  obtain ⟨σ16, hσ16, hf⟩ := bd_E hf
  refine hv_iast (pn := 113) X d_Md_digestRow_112 hσ16 ?_
  refine hv_iinc (pn := 116) (i := 3) (v := x3 + 1) (lo' := [some (.ref a0), some (.int x1), some (.int x2), some (.int (x3 + 1))]) X d_Md_digestRow_113 ?_
  refine hv_goto (tgt := 77) X d_Md_digestRow_116 (by decide) ?_
  cases hf
  exact E
set_option maxHeartbeats 4000000 in
set_option maxRecDepth 100000 in
theorem w_Md_digestRow_l77 {k : mk_T} (X : hv_X k b_Md_digestRow y_Md_digestRow.cls 4 2 48 none y_Md_digestRow.name) (N : Nat) (a0 : Nat) (x1 : Int32) (x2 : Int32) (σ : ho_H) (x3 : Int32) (r : (ho_H × Int32) ⊕ (ho_H)) (hf : f_Md_digestRow_l77 k.2.1 N a0 x1 x2 (σ, x3) = some r) (E : sm (fun s => hv_V k s.1 77 [some (.ref a0), some (.int x1), some (.int x2), some (.int s.2)] []) (fun s => hv_V k s 119 [some (.ref a0), none, some (.int x2), none] []) r) : hv_V k σ 77 [some (.ref a0), some (.int x1), some (.int x2), some (.int x3)] [] := by
  unfold f_Md_digestRow_l77 at hf
  try dsimp only at hf
  refine hv_iload_n (pn := 78) X d_Md_digestRow_77 ?_
  refine hv_bipush (pn := 80) (v := 8) X d_Md_digestRow_78 ?_
  refine hv_icmp_ge (pn := 83) (tgt := 119) X d_Md_digestRow_80 (by decide) (fun hc => ?_) (fun hc => ?_)
  · rw [if_pos hc] at hf
    refine hv_drop (i := 1) (lo' := [some (.ref a0), none, some (.int x2), some (.int x3)]) ?_
    refine hv_drop (i := 3) (lo' := [some (.ref a0), none, some (.int x2), none]) ?_
    cases hf
    exact E
  · rw [if_neg hc] at hf
    refine hv_aload_n (pn := 84) X d_Md_digestRow_83 ?_
    obtain ⟨b15, hb15, hf⟩ := bd_E hf
    refine hv_getR (pn := 87) X d_Md_digestRow_84 fa_Md_97 hb15 ?_
    refine hv_iload_n (pn := 88) X d_Md_digestRow_87 ?_
    refine hv_iload_n (pn := 89) X d_Md_digestRow_88 ?_
    refine hv_iadd (pn := 90) X d_Md_digestRow_89 ?_
    refine hv_iload_n (pn := 91) X d_Md_digestRow_90 ?_
    refine hv_iconst (pn := 92) (v := 4) X d_Md_digestRow_91 ?_
    refine hv_icmp_ge (pn := 95) (tgt := 99) X d_Md_digestRow_92 (by decide) (fun hc => ?_) (fun hc => ?_)
    · rw [if_pos hc] at hf
      refine hv_iload_n (pn := 100) X d_Md_digestRow_99 ?_
      refine hv_bipush (pn := 102) (v := 8) X d_Md_digestRow_100 ?_
      refine hv_bipush (pn := 104) (v := 7) X d_Md_digestRow_102 ?_
      refine hv_iload_n (pn := 105) X d_Md_digestRow_104 ?_
      refine hv_isub (pn := 106) X d_Md_digestRow_105 ?_
      refine hv_imul (pn := 107) X d_Md_digestRow_106 ?_
      refine hv_ishr (pn := 108) X d_Md_digestRow_107 ?_
      refine hv_sipush (pn := 111) (v := 255) X d_Md_digestRow_108 ?_
      refine hv_iand (pn := 112) X d_Md_digestRow_111 ?_
      exact w_Md_digestRow_j112_in77 X N σ a0 x1 x2 x3 ((ho_sr x1 (8 * (7 - x3))) &&& 255) (x2 + x3) b15  _ hf E
    · rw [if_neg hc] at hf
      refine hv_iconst (pn := 96) (v := 0) X d_Md_digestRow_95 ?_
      refine hv_goto (tgt := 112) X d_Md_digestRow_96 (by decide) ?_
      exact w_Md_digestRow_j112_in77 X N σ a0 x1 x2 x3 0 (x2 + x3) b15  _ hf E
set_option maxHeartbeats 4000000 in
set_option maxRecDepth 100000 in
theorem w_Md_digestRow_l121 {k : mk_T} (X : hv_X k b_Md_digestRow y_Md_digestRow.cls 4 2 48 none y_Md_digestRow.name) (N : Nat) (a0 : Nat) (x2 : Int32) (σ : ho_H) (x3 : Int32) (r : (ho_H × Int32) ⊕ (ho_H)) (hf : f_Md_digestRow_l121 k.2.1 N a0 x2 (σ, x3) = some r) (E : sm (fun s => hv_V k s.1 121 [some (.ref a0), none, some (.int x2), some (.int s.2)] []) (fun s => hv_V k s 140 [none, none, none, none] []) r) : hv_V k σ 121 [some (.ref a0), none, some (.int x2), some (.int x3)] [] := by
  unfold f_Md_digestRow_l121 at hf
  try dsimp only at hf
  refine hv_iload_n (pn := 122) X d_Md_digestRow_121 ?_
  refine hv_iload_n (pn := 123) X d_Md_digestRow_122 ?_
  refine hv_bipush (pn := 125) (v := 8) X d_Md_digestRow_123 ?_
  refine hv_iadd (pn := 126) X d_Md_digestRow_125 ?_
  refine hv_icmp_ge (pn := 129) (tgt := 140) X d_Md_digestRow_126 (by decide) (fun hc => ?_) (fun hc => ?_)
  · rw [if_pos hc] at hf
    refine hv_drop (i := 0) (lo' := [none, none, some (.int x2), some (.int x3)]) ?_
    refine hv_drop (i := 2) (lo' := [none, none, none, some (.int x3)]) ?_
    refine hv_drop (i := 3) (lo' := [none, none, none, none]) ?_
    cases hf
    exact E
  · rw [if_neg hc] at hf
    refine hv_aload_n (pn := 130) X d_Md_digestRow_129 ?_
    refine hv_iload_n (pn := 131) X d_Md_digestRow_130 ?_
    obtain ⟨_, hr18, hf⟩ := bd_E hf
    obtain ⟨σ19, hσ19, hf⟩ := bd_E hf
    obtain ⟨hσ19, mσ19⟩ := ho_cv_E hσ19
    refine hv_callV (pn := 134) X d_Md_digestRow_131 (c_Md_block _ _ N σ a0 x3 _ hσ19) cs_Md_198 q_5_22 rfl qs_Md_block hr18 (by decide) (by decide) mσ19 (Nat.le_of_ble_eq_true rfl) ?_
    refine hv_iinc (pn := 137) (i := 3) (v := x3 + 64) (lo' := [some (.ref a0), none, some (.int x2), some (.int (x3 + 64))]) X d_Md_digestRow_134 ?_
    refine hv_goto (tgt := 121) X d_Md_digestRow_137 (by decide) ?_
    cases hf
    exact E
set_option maxHeartbeats 4000000 in
set_option maxRecDepth 100000 in
theorem c_Md_digestRow (l : Launch) (G : ho_G) (N : Nat) (σ : ho_H) (a0 : Nat) (σ' : ho_H) (hf : f_Md_digestRow G N σ a0 = some σ') : hv_C l G y_Md_digestRow (Cond.code y_Md_digestRow b_Md_digestRow 4 none :: hv_ws) 2 48 [.ref a0] σ σ' (none) := by
  refine hv_met [some (.ref a0), none, none, none] (plainFor_of_name (by decide +kernel)) (by intro v hv; simp at hv; rcases hv with rfl <;> rfl) (Nat.le_of_ble_eq_true rfl) rfl ?_
  intro k X hkl hkG E
  subst hkl
  subst hkG
  unfold f_Md_digestRow at hf
  refine hv_iconst (pn := 1) (v := 0) X d_Md_digestRow_0 ?_
  refine hv_istore_n (pn := 2) (i := 1) (lo' := [some (.ref a0), some (.int 0), none, none]) X d_Md_digestRow_1 ?_
  obtain ⟨σ5, he28, hf⟩ := bd_E hf
  refine hv_loop (P := fun s => hv_V k s.1 2 [some (.ref a0), some (.int s.2), none, none] []) (Z := fun s => hv_V k s 26 [some (.ref a0), none, none, none] []) (fun s r h1 h2 => by obtain ⟨σ, x1⟩ := s; exact w_Md_digestRow_l2 X N a0 σ x1 r h1 h2) N (σ, 0) _ he28 ?_
  try dsimp only at hf ⊢
  refine hv_bipush (pn := 28) (v := 8) X d_Md_digestRow_26 ?_
  refine hv_aload_n (pn := 29) X d_Md_digestRow_28 ?_
  obtain ⟨v6, hv6, hf⟩ := bd_E hf
  refine hv_getI (pn := 32) X d_Md_digestRow_29 fa_Md_195 hv6 ?_
  refine hv_imul (pn := 33) X d_Md_digestRow_32 ?_
  refine hv_istore_n (pn := 34) (i := 1) (lo' := [some (.ref a0), some (.int (8 * v6)), none, none]) X d_Md_digestRow_33 ?_
  refine hv_aload_n (pn := 35) X d_Md_digestRow_34 ?_
  obtain ⟨b7, hb7, hf⟩ := bd_E hf
  refine hv_getR (pn := 38) X d_Md_digestRow_35 fa_Md_97 hb7 ?_
  refine hv_aload_n (pn := 39) X d_Md_digestRow_38 ?_
  obtain ⟨v8, hv8, hf⟩ := bd_E hf
  refine hv_getI (pn := 42) X d_Md_digestRow_39 fa_Md_195 hv8 ?_
  refine hv_sipush (pn := 45) (v := 128) X d_Md_digestRow_42 ?_
  obtain ⟨σ9, hσ9, hf⟩ := bd_E hf
  refine hv_iast (pn := 46) X d_Md_digestRow_45 hσ9 ?_
  refine hv_aload_n (pn := 47) X d_Md_digestRow_46 ?_
  obtain ⟨v10, hv10, hf⟩ := bd_E hf
  refine hv_getI (pn := 50) X d_Md_digestRow_47 fa_Md_195 hv10 ?_
  refine hv_iconst (pn := 51) (v := 1) X d_Md_digestRow_50 ?_
  refine hv_iadd (pn := 52) X d_Md_digestRow_51 ?_
  refine hv_istore_n (pn := 53) (i := 2) (lo' := [some (.ref a0), some (.int (8 * v6)), some (.int (v10 + 1)), none]) X d_Md_digestRow_52 ?_
  obtain ⟨⟨σ13, x14⟩, he26, hf⟩ := bd_E hf
  refine hv_loop (P := fun s => hv_V k s.1 53 [some (.ref a0), some (.int (8 * v6)), some (.int s.2), none] []) (Z := fun s => hv_V k s.1 75 [some (.ref a0), some (.int (8 * v6)), some (.int s.2), none] []) (fun s r h1 h2 => by obtain ⟨σ, x2⟩ := s; exact w_Md_digestRow_l53 X N a0 (8 * v6) σ x2 r h1 h2) N (σ9, v10 + 1) _ he26 ?_
  try dsimp only at hf ⊢
  refine hv_iconst (pn := 76) (v := 0) X d_Md_digestRow_75 ?_
  refine hv_istore_n (pn := 77) (i := 3) (lo' := [some (.ref a0), some (.int (8 * v6)), some (.int x14), some (.int 0)]) X d_Md_digestRow_76 ?_
  obtain ⟨σ17, he24, hf⟩ := bd_E hf
  refine hv_loop (P := fun s => hv_V k s.1 77 [some (.ref a0), some (.int (8 * v6)), some (.int x14), some (.int s.2)] []) (Z := fun s => hv_V k s 119 [some (.ref a0), none, some (.int x14), none] []) (fun s r h1 h2 => by obtain ⟨σ, x3⟩ := s; exact w_Md_digestRow_l77 X N a0 (8 * v6) x14 σ x3 r h1 h2) N (σ13, 0) _ he24 ?_
  try dsimp only at hf ⊢
  refine hv_iconst (pn := 120) (v := 0) X d_Md_digestRow_119 ?_
  refine hv_istore_n (pn := 121) (i := 3) (lo' := [some (.ref a0), none, some (.int x14), some (.int 0)]) X d_Md_digestRow_120 ?_
  obtain ⟨σ20, he22, hf⟩ := bd_E hf
  refine hv_loop (P := fun s => hv_V k s.1 121 [some (.ref a0), none, some (.int x14), some (.int s.2)] []) (Z := fun s => hv_V k s 140 [none, none, none, none] []) (fun s r h1 h2 => by obtain ⟨σ, x3⟩ := s; exact w_Md_digestRow_l121 X N a0 x14 σ x3 r h1 h2) N (σ17, 0) _ he22 ?_
  try dsimp only at hf ⊢
  cases hf
  exact hv_vret X d_Md_digestRow_140 E
set_option maxHeartbeats 4000000 in
set_option maxRecDepth 100000 in
theorem w_Md_makeSeal_j31_in2 {k : mk_T} (X : hv_X k b_Md_makeSeal y_Md_makeSeal.cls 2 3 71 none y_Md_makeSeal.name) (N : Nat) (σ : ho_H) (a0 : Nat) (x1 : Int32) (y0 : Int32) (y1 : Int32) (c2 : Nat)  (r : (ho_H × Int32) ⊕ (ho_H)) (hf : f_Md_makeSeal_j31_in2 k.2.1 N σ a0 x1 y0 y1 c2 = some r) (E : sm (fun s => hv_V k s.1 2 [some (.ref a0), some (.int s.2)] []) (fun s => hv_V k s 41 [some (.ref a0), none] []) r) : hv_V k σ 31 [some (.ref a0), some (.int x1)] [.int y0, .int y1, .ref c2] := by
  unfold f_Md_makeSeal_j31_in2 at hf
  refine hv_bipush (pn := 33) (v := 54) X d_Md_makeSeal_31 ?_
  refine hv_ixor (pn := 34) X d_Md_makeSeal_33 ?_
  obtain ⟨σ3, hσ3, hf⟩ := bd_E hf
  refine hv_iast (pn := 35) X d_Md_makeSeal_34 hσ3 ?_
  refine hv_iinc (pn := 38) (i := 1) (v := x1 + 1) (lo' := [some (.ref a0), some (.int (x1 + 1))]) X d_Md_makeSeal_35 ?_
  refine hv_goto (tgt := 2) X d_Md_makeSeal_38 (by decide) ?_
  cases hf
  exact E
set_option maxHeartbeats 4000000 in
set_option maxRecDepth 100000 in
theorem w_Md_makeSeal_l2 {k : mk_T} (X : hv_X k b_Md_makeSeal y_Md_makeSeal.cls 2 3 71 none y_Md_makeSeal.name) (N : Nat) (a0 : Nat) (σ : ho_H) (x1 : Int32) (r : (ho_H × Int32) ⊕ (ho_H)) (hf : f_Md_makeSeal_l2 k.2.1 N a0 (σ, x1) = some r) (E : sm (fun s => hv_V k s.1 2 [some (.ref a0), some (.int s.2)] []) (fun s => hv_V k s 41 [some (.ref a0), none] []) r) : hv_V k σ 2 [some (.ref a0), some (.int x1)] [] := by
  unfold f_Md_makeSeal_l2 at hf
  try dsimp only at hf
  refine hv_iload_n (pn := 3) X d_Md_makeSeal_2 ?_
  refine hv_bipush (pn := 5) (v := 64) X d_Md_makeSeal_3 ?_
  refine hv_icmp_ge (pn := 8) (tgt := 41) X d_Md_makeSeal_5 (by decide) (fun hc => ?_) (fun hc => ?_)
  · rw [if_pos hc] at hf
    refine hv_drop (i := 1) (lo' := [some (.ref a0), none]) ?_
    cases hf
    exact E
  · rw [if_neg hc] at hf
    refine hv_aload_n (pn := 9) X d_Md_makeSeal_8 ?_
    obtain ⟨b1, hb1, hf⟩ := bd_E hf
    refine hv_getR (pn := 12) X d_Md_makeSeal_9 fa_Md_97 hb1 ?_
    refine hv_iload_n (pn := 13) X d_Md_makeSeal_12 ?_
    refine hv_iload_n (pn := 14) X d_Md_makeSeal_13 ?_
    refine hv_aload_n (pn := 15) X d_Md_makeSeal_14 ?_
    obtain ⟨v2, hv2, hf⟩ := bd_E hf
    refine hv_getI (pn := 18) X d_Md_makeSeal_15 fa_Md_202 hv2 ?_
    refine hv_icmp_ge (pn := 21) (tgt := 30) X d_Md_makeSeal_18 (by decide) (fun hc => ?_) (fun hc => ?_)
    · rw [if_pos hc] at hf
      refine hv_iconst (pn := 31) (v := 0) X d_Md_makeSeal_30 ?_
      exact w_Md_makeSeal_j31_in2 X N σ a0 x1 0 x1 b1  _ hf E
    · rw [if_neg hc] at hf
      refine hv_aload_n (pn := 22) X d_Md_makeSeal_21 ?_
      obtain ⟨b4, hb4, hf⟩ := bd_E hf
      refine hv_getR (pn := 25) X d_Md_makeSeal_22 fa_Md_100 hb4 ?_
      refine hv_iload_n (pn := 26) X d_Md_makeSeal_25 ?_
      obtain ⟨v5, hv5, hf⟩ := bd_E hf
      refine hv_iald (pn := 27) X d_Md_makeSeal_26 hv5 ?_
      refine hv_goto (tgt := 31) X d_Md_makeSeal_27 (by decide) ?_
      exact w_Md_makeSeal_j31_in2 X N σ a0 x1 v5 x1 b1  _ hf E
set_option maxHeartbeats 4000000 in
set_option maxRecDepth 100000 in
theorem w_Md_makeSeal_l43 {k : mk_T} (X : hv_X k b_Md_makeSeal y_Md_makeSeal.cls 2 3 71 none y_Md_makeSeal.name) (N : Nat) (a0 : Nat) (σ : ho_H) (x1 : Int32) (r : (ho_H × Int32) ⊕ (ho_H)) (hf : f_Md_makeSeal_l43 k.2.1 N a0 (σ, x1) = some r) (E : sm (fun s => hv_V k s.1 43 [some (.ref a0), some (.int s.2)] []) (fun s => hv_V k s 72 [some (.ref a0), none] []) r) : hv_V k σ 43 [some (.ref a0), some (.int x1)] [] := by
  unfold f_Md_makeSeal_l43 at hf
  try dsimp only at hf
  refine hv_iload_n (pn := 44) X d_Md_makeSeal_43 ?_
  refine hv_aload_n (pn := 45) X d_Md_makeSeal_44 ?_
  obtain ⟨v7, hv7, hf⟩ := bd_E hf
  refine hv_getI (pn := 48) X d_Md_makeSeal_45 fa_Md_205 hv7 ?_
  refine hv_icmp_ge (pn := 51) (tgt := 72) X d_Md_makeSeal_48 (by decide) (fun hc => ?_) (fun hc => ?_)
  · rw [if_pos hc] at hf
    refine hv_drop (i := 1) (lo' := [some (.ref a0), none]) ?_
    cases hf
    exact E
  · rw [if_neg hc] at hf
    refine hv_aload_n (pn := 52) X d_Md_makeSeal_51 ?_
    obtain ⟨b8, hb8, hf⟩ := bd_E hf
    refine hv_getR (pn := 55) X d_Md_makeSeal_52 fa_Md_97 hb8 ?_
    refine hv_bipush (pn := 57) (v := 64) X d_Md_makeSeal_55 ?_
    refine hv_iload_n (pn := 58) X d_Md_makeSeal_57 ?_
    refine hv_iadd (pn := 59) X d_Md_makeSeal_58 ?_
    refine hv_aload_n (pn := 60) X d_Md_makeSeal_59 ?_
    obtain ⟨b9, hb9, hf⟩ := bd_E hf
    refine hv_getR (pn := 63) X d_Md_makeSeal_60 fa_Md_103 hb9 ?_
    refine hv_iload_n (pn := 64) X d_Md_makeSeal_63 ?_
    obtain ⟨v10, hv10, hf⟩ := bd_E hf
    refine hv_iald (pn := 65) X d_Md_makeSeal_64 hv10 ?_
    obtain ⟨σ11, hσ11, hf⟩ := bd_E hf
    refine hv_iast (pn := 66) X d_Md_makeSeal_65 hσ11 ?_
    refine hv_iinc (pn := 69) (i := 1) (v := x1 + 1) (lo' := [some (.ref a0), some (.int (x1 + 1))]) X d_Md_makeSeal_66 ?_
    refine hv_goto (tgt := 43) X d_Md_makeSeal_69 (by decide) ?_
    cases hf
    exact E
set_option maxHeartbeats 4000000 in
set_option maxRecDepth 100000 in
theorem w_Md_makeSeal_l89 {k : mk_T} (X : hv_X k b_Md_makeSeal y_Md_makeSeal.cls 2 3 71 none y_Md_makeSeal.name) (N : Nat) (a0 : Nat) (σ : ho_H) (x1 : Int32) (r : (ho_H × Int32) ⊕ (ho_H)) (hf : f_Md_makeSeal_l89 k.2.1 N a0 (σ, x1) = some r) (E : sm (fun s => hv_V k s.1 89 [some (.ref a0), some (.int s.2)] []) (fun s => hv_V k s 121 [some (.ref a0), none] []) r) : hv_V k σ 89 [some (.ref a0), some (.int x1)] [] := by
  unfold f_Md_makeSeal_l89 at hf
  try dsimp only at hf
  refine hv_iload_n (pn := 90) X d_Md_makeSeal_89 ?_
  refine hv_bipush (pn := 92) (v := 32) X d_Md_makeSeal_90 ?_
  refine hv_icmp_ge (pn := 95) (tgt := 121) X d_Md_makeSeal_92 (by decide) (fun hc => ?_) (fun hc => ?_)
  · rw [if_pos hc] at hf
    refine hv_drop (i := 1) (lo' := [some (.ref a0), none]) ?_
    cases hf
    exact E
  · rw [if_neg hc] at hf
    refine hv_aload_n (pn := 96) X d_Md_makeSeal_95 ?_
    obtain ⟨b17, hb17, hf⟩ := bd_E hf
    refine hv_getR (pn := 99) X d_Md_makeSeal_96 fa_Md_106 hb17 ?_
    refine hv_iload_n (pn := 100) X d_Md_makeSeal_99 ?_
    refine hv_aload_n (pn := 101) X d_Md_makeSeal_100 ?_
    obtain ⟨b18, hb18, hf⟩ := bd_E hf
    refine hv_getR (pn := 104) X d_Md_makeSeal_101 fa_Md_91 hb18 ?_
    refine hv_iload_n (pn := 105) X d_Md_makeSeal_104 ?_
    refine hv_iconst (pn := 106) (v := 4) X d_Md_makeSeal_105 ?_
    refine hv_idiv (pn := 107) X d_Md_makeSeal_106 (by decide) ?_
    obtain ⟨v19, hv19, hf⟩ := bd_E hf
    refine hv_iald (pn := 108) X d_Md_makeSeal_107 hv19 ?_
    refine hv_iload_n (pn := 109) X d_Md_makeSeal_108 ?_
    refine hv_iconst (pn := 110) (v := 4) X d_Md_makeSeal_109 ?_
    refine hv_irem (pn := 111) X d_Md_makeSeal_110 (by decide) ?_
    obtain ⟨v20, hv20, hf⟩ := bd_E hf
    refine hv_callS (pn := 114) X d_Md_makeSeal_111 (c_Md_byteOf _ _ N σ v19 (ho_rm x1 4) _ hv20) cs_Md_211 q_5_6 (by decide) (by decide) ⟨Nat.le_refl _, Nat.le_refl _⟩ (Nat.le_of_ble_eq_true rfl) ?_
    obtain ⟨σ21, hσ21, hf⟩ := bd_E hf
    refine hv_iast (pn := 115) X d_Md_makeSeal_114 hσ21 ?_
    refine hv_iinc (pn := 118) (i := 1) (v := x1 + 1) (lo' := [some (.ref a0), some (.int (x1 + 1))]) X d_Md_makeSeal_115 ?_
    refine hv_goto (tgt := 89) X d_Md_makeSeal_118 (by decide) ?_
    cases hf
    exact E
set_option maxHeartbeats 4000000 in
set_option maxRecDepth 100000 in
theorem w_Md_makeSeal_j152_in123 {k : mk_T} (X : hv_X k b_Md_makeSeal y_Md_makeSeal.cls 2 3 71 none y_Md_makeSeal.name) (N : Nat) (σ : ho_H) (a0 : Nat) (x1 : Int32) (y0 : Int32) (y1 : Int32) (c2 : Nat)  (r : (ho_H × Int32) ⊕ (ho_H)) (hf : f_Md_makeSeal_j152_in123 k.2.1 N σ a0 x1 y0 y1 c2 = some r) (E : sm (fun s => hv_V k s.1 123 [some (.ref a0), some (.int s.2)] []) (fun s => hv_V k s 162 [some (.ref a0), none] []) r) : hv_V k σ 152 [some (.ref a0), some (.int x1)] [.int y0, .int y1, .ref c2] := by
  unfold f_Md_makeSeal_j152_in123 at hf
  refine hv_bipush (pn := 154) (v := 92) X d_Md_makeSeal_152 ?_
  refine hv_ixor (pn := 155) X d_Md_makeSeal_154 ?_
  obtain ⟨σ25, hσ25, hf⟩ := bd_E hf
  refine hv_iast (pn := 156) X d_Md_makeSeal_155 hσ25 ?_
  refine hv_iinc (pn := 159) (i := 1) (v := x1 + 1) (lo' := [some (.ref a0), some (.int (x1 + 1))]) X d_Md_makeSeal_156 ?_
  refine hv_goto (tgt := 123) X d_Md_makeSeal_159 (by decide) ?_
  cases hf
  exact E
set_option maxHeartbeats 4000000 in
set_option maxRecDepth 100000 in
theorem w_Md_makeSeal_l123 {k : mk_T} (X : hv_X k b_Md_makeSeal y_Md_makeSeal.cls 2 3 71 none y_Md_makeSeal.name) (N : Nat) (a0 : Nat) (σ : ho_H) (x1 : Int32) (r : (ho_H × Int32) ⊕ (ho_H)) (hf : f_Md_makeSeal_l123 k.2.1 N a0 (σ, x1) = some r) (E : sm (fun s => hv_V k s.1 123 [some (.ref a0), some (.int s.2)] []) (fun s => hv_V k s 162 [some (.ref a0), none] []) r) : hv_V k σ 123 [some (.ref a0), some (.int x1)] [] := by
  unfold f_Md_makeSeal_l123 at hf
  try dsimp only at hf
  refine hv_iload_n (pn := 124) X d_Md_makeSeal_123 ?_
  refine hv_bipush (pn := 126) (v := 64) X d_Md_makeSeal_124 ?_
  refine hv_icmp_ge (pn := 129) (tgt := 162) X d_Md_makeSeal_126 (by decide) (fun hc => ?_) (fun hc => ?_)
  · rw [if_pos hc] at hf
    refine hv_drop (i := 1) (lo' := [some (.ref a0), none]) ?_
    cases hf
    exact E
  · rw [if_neg hc] at hf
    refine hv_aload_n (pn := 130) X d_Md_makeSeal_129 ?_
    obtain ⟨b23, hb23, hf⟩ := bd_E hf
    refine hv_getR (pn := 133) X d_Md_makeSeal_130 fa_Md_97 hb23 ?_
    refine hv_iload_n (pn := 134) X d_Md_makeSeal_133 ?_
    refine hv_iload_n (pn := 135) X d_Md_makeSeal_134 ?_
    refine hv_aload_n (pn := 136) X d_Md_makeSeal_135 ?_
    obtain ⟨v24, hv24, hf⟩ := bd_E hf
    refine hv_getI (pn := 139) X d_Md_makeSeal_136 fa_Md_202 hv24 ?_
    refine hv_icmp_ge (pn := 142) (tgt := 151) X d_Md_makeSeal_139 (by decide) (fun hc => ?_) (fun hc => ?_)
    · rw [if_pos hc] at hf
      refine hv_iconst (pn := 152) (v := 0) X d_Md_makeSeal_151 ?_
      exact w_Md_makeSeal_j152_in123 X N σ a0 x1 0 x1 b23  _ hf E
    · rw [if_neg hc] at hf
      refine hv_aload_n (pn := 143) X d_Md_makeSeal_142 ?_
      obtain ⟨b26, hb26, hf⟩ := bd_E hf
      refine hv_getR (pn := 146) X d_Md_makeSeal_143 fa_Md_100 hb26 ?_
      refine hv_iload_n (pn := 147) X d_Md_makeSeal_146 ?_
      obtain ⟨v27, hv27, hf⟩ := bd_E hf
      refine hv_iald (pn := 148) X d_Md_makeSeal_147 hv27 ?_
      refine hv_goto (tgt := 152) X d_Md_makeSeal_148 (by decide) ?_
      exact w_Md_makeSeal_j152_in123 X N σ a0 x1 v27 x1 b23  _ hf E
set_option maxHeartbeats 4000000 in
set_option maxRecDepth 100000 in
theorem w_Md_makeSeal_l164 {k : mk_T} (X : hv_X k b_Md_makeSeal y_Md_makeSeal.cls 2 3 71 none y_Md_makeSeal.name) (N : Nat) (a0 : Nat) (σ : ho_H) (x1 : Int32) (r : (ho_H × Int32) ⊕ (ho_H)) (hf : f_Md_makeSeal_l164 k.2.1 N a0 (σ, x1) = some r) (E : sm (fun s => hv_V k s.1 164 [some (.ref a0), some (.int s.2)] []) (fun s => hv_V k s 191 [some (.ref a0), none] []) r) : hv_V k σ 164 [some (.ref a0), some (.int x1)] [] := by
  unfold f_Md_makeSeal_l164 at hf
  try dsimp only at hf
  refine hv_iload_n (pn := 165) X d_Md_makeSeal_164 ?_
  refine hv_bipush (pn := 167) (v := 32) X d_Md_makeSeal_165 ?_
  refine hv_icmp_ge (pn := 170) (tgt := 191) X d_Md_makeSeal_167 (by decide) (fun hc => ?_) (fun hc => ?_)
  · rw [if_pos hc] at hf
    refine hv_drop (i := 1) (lo' := [some (.ref a0), none]) ?_
    cases hf
    exact E
  · rw [if_neg hc] at hf
    refine hv_aload_n (pn := 171) X d_Md_makeSeal_170 ?_
    obtain ⟨b29, hb29, hf⟩ := bd_E hf
    refine hv_getR (pn := 174) X d_Md_makeSeal_171 fa_Md_97 hb29 ?_
    refine hv_bipush (pn := 176) (v := 64) X d_Md_makeSeal_174 ?_
    refine hv_iload_n (pn := 177) X d_Md_makeSeal_176 ?_
    refine hv_iadd (pn := 178) X d_Md_makeSeal_177 ?_
    refine hv_aload_n (pn := 179) X d_Md_makeSeal_178 ?_
    obtain ⟨b30, hb30, hf⟩ := bd_E hf
    refine hv_getR (pn := 182) X d_Md_makeSeal_179 fa_Md_106 hb30 ?_
    refine hv_iload_n (pn := 183) X d_Md_makeSeal_182 ?_
    obtain ⟨v31, hv31, hf⟩ := bd_E hf
    refine hv_iald (pn := 184) X d_Md_makeSeal_183 hv31 ?_
    obtain ⟨σ32, hσ32, hf⟩ := bd_E hf
    refine hv_iast (pn := 185) X d_Md_makeSeal_184 hσ32 ?_
    refine hv_iinc (pn := 188) (i := 1) (v := x1 + 1) (lo' := [some (.ref a0), some (.int (x1 + 1))]) X d_Md_makeSeal_185 ?_
    refine hv_goto (tgt := 164) X d_Md_makeSeal_188 (by decide) ?_
    cases hf
    exact E
set_option maxHeartbeats 4000000 in
set_option maxRecDepth 100000 in
theorem w_Md_makeSeal_l203 {k : mk_T} (X : hv_X k b_Md_makeSeal y_Md_makeSeal.cls 2 3 71 none y_Md_makeSeal.name) (N : Nat) (a0 : Nat) (σ : ho_H) (x1 : Int32) (r : (ho_H × Int32) ⊕ (ho_H)) (hf : f_Md_makeSeal_l203 k.2.1 N a0 (σ, x1) = some r) (E : sm (fun s => hv_V k s.1 203 [some (.ref a0), some (.int s.2)] []) (fun s => hv_V k s 235 [none, none] []) r) : hv_V k σ 203 [some (.ref a0), some (.int x1)] [] := by
  unfold f_Md_makeSeal_l203 at hf
  try dsimp only at hf
  refine hv_iload_n (pn := 204) X d_Md_makeSeal_203 ?_
  refine hv_bipush (pn := 206) (v := 32) X d_Md_makeSeal_204 ?_
  refine hv_icmp_ge (pn := 209) (tgt := 235) X d_Md_makeSeal_206 (by decide) (fun hc => ?_) (fun hc => ?_)
  · rw [if_pos hc] at hf
    refine hv_drop (i := 0) (lo' := [none, some (.int x1)]) ?_
    refine hv_drop (i := 1) (lo' := [none, none]) ?_
    cases hf
    exact E
  · rw [if_neg hc] at hf
    refine hv_aload_n (pn := 210) X d_Md_makeSeal_209 ?_
    obtain ⟨b37, hb37, hf⟩ := bd_E hf
    refine hv_getR (pn := 213) X d_Md_makeSeal_210 fa_Md_106 hb37 ?_
    refine hv_iload_n (pn := 214) X d_Md_makeSeal_213 ?_
    refine hv_aload_n (pn := 215) X d_Md_makeSeal_214 ?_
    obtain ⟨b38, hb38, hf⟩ := bd_E hf
    refine hv_getR (pn := 218) X d_Md_makeSeal_215 fa_Md_91 hb38 ?_
    refine hv_iload_n (pn := 219) X d_Md_makeSeal_218 ?_
    refine hv_iconst (pn := 220) (v := 4) X d_Md_makeSeal_219 ?_
    refine hv_idiv (pn := 221) X d_Md_makeSeal_220 (by decide) ?_
    obtain ⟨v39, hv39, hf⟩ := bd_E hf
    refine hv_iald (pn := 222) X d_Md_makeSeal_221 hv39 ?_
    refine hv_iload_n (pn := 223) X d_Md_makeSeal_222 ?_
    refine hv_iconst (pn := 224) (v := 4) X d_Md_makeSeal_223 ?_
    refine hv_irem (pn := 225) X d_Md_makeSeal_224 (by decide) ?_
    obtain ⟨v40, hv40, hf⟩ := bd_E hf
    refine hv_callS (pn := 228) X d_Md_makeSeal_225 (c_Md_byteOf _ _ N σ v39 (ho_rm x1 4) _ hv40) cs_Md_211 q_5_6 (by decide) (by decide) ⟨Nat.le_refl _, Nat.le_refl _⟩ (Nat.le_of_ble_eq_true rfl) ?_
    obtain ⟨σ41, hσ41, hf⟩ := bd_E hf
    refine hv_iast (pn := 229) X d_Md_makeSeal_228 hσ41 ?_
    refine hv_iinc (pn := 232) (i := 1) (v := x1 + 1) (lo' := [some (.ref a0), some (.int (x1 + 1))]) X d_Md_makeSeal_229 ?_
    refine hv_goto (tgt := 203) X d_Md_makeSeal_232 (by decide) ?_
    cases hf
    exact E
set_option maxHeartbeats 4000000 in
set_option maxRecDepth 100000 in
theorem c_Md_makeSeal (l : Launch) (G : ho_G) (N : Nat) (σ : ho_H) (a0 : Nat) (σ' : ho_H) (hf : f_Md_makeSeal G N σ a0 = some σ') : hv_C l G y_Md_makeSeal (Cond.code y_Md_makeSeal b_Md_makeSeal 2 none :: hv_ws) 3 71 [.ref a0] σ σ' (none) := by
  refine hv_met [some (.ref a0), none] (plainFor_of_name (by decide +kernel)) (by intro v hv; simp at hv; rcases hv with rfl <;> rfl) (Nat.le_of_ble_eq_true rfl) rfl ?_
  intro k X hkl hkG E
  subst hkl
  subst hkG
  unfold f_Md_makeSeal at hf
  refine hv_iconst (pn := 1) (v := 0) X d_Md_makeSeal_0 ?_
  refine hv_istore_n (pn := 2) (i := 1) (lo' := [some (.ref a0), some (.int 0)]) X d_Md_makeSeal_1 ?_
  obtain ⟨σ6, he54, hf⟩ := bd_E hf
  refine hv_loop (P := fun s => hv_V k s.1 2 [some (.ref a0), some (.int s.2)] []) (Z := fun s => hv_V k s 41 [some (.ref a0), none] []) (fun s r h1 h2 => by obtain ⟨σ, x1⟩ := s; exact w_Md_makeSeal_l2 X N a0 σ x1 r h1 h2) N (σ, 0) _ he54 ?_
  try dsimp only at hf ⊢
  refine hv_iconst (pn := 42) (v := 0) X d_Md_makeSeal_41 ?_
  refine hv_istore_n (pn := 43) (i := 1) (lo' := [some (.ref a0), some (.int 0)]) X d_Md_makeSeal_42 ?_
  obtain ⟨σ12, he52, hf⟩ := bd_E hf
  refine hv_loop (P := fun s => hv_V k s.1 43 [some (.ref a0), some (.int s.2)] []) (Z := fun s => hv_V k s 72 [some (.ref a0), none] []) (fun s r h1 h2 => by obtain ⟨σ, x1⟩ := s; exact w_Md_makeSeal_l43 X N a0 σ x1 r h1 h2) N (σ6, 0) _ he52 ?_
  try dsimp only at hf ⊢
  refine hv_aload_n (pn := 73) X d_Md_makeSeal_72 ?_
  refine hv_bipush (pn := 75) (v := 64) X d_Md_makeSeal_73 ?_
  refine hv_aload_n (pn := 76) X d_Md_makeSeal_75 ?_
  obtain ⟨v13, hv13, hf⟩ := bd_E hf
  refine hv_getI (pn := 79) X d_Md_makeSeal_76 fa_Md_205 hv13 ?_
  refine hv_iadd (pn := 80) X d_Md_makeSeal_79 ?_
  obtain ⟨σ14, hσ14, hf⟩ := bd_E hf
  refine hv_put (pn := 83) X d_Md_makeSeal_80 fp_Md_195 hσ14 ?_
  refine hv_aload_n (pn := 84) X d_Md_makeSeal_83 ?_
  obtain ⟨_, hr15, hf⟩ := bd_E hf
  obtain ⟨σ16, hσ16, hf⟩ := bd_E hf
  obtain ⟨hσ16, mσ16⟩ := ho_cv_E hσ16
  refine hv_callV (pn := 87) X d_Md_makeSeal_84 (c_Md_digestRow _ _ N σ14 a0 _ hσ16) cs_Md_208 q_5_18 rfl qs_Md_digestRow hr15 (by decide) (by decide) mσ16 (Nat.le_of_ble_eq_true rfl) ?_
  refine hv_iconst (pn := 88) (v := 0) X d_Md_makeSeal_87 ?_
  refine hv_istore_n (pn := 89) (i := 1) (lo' := [some (.ref a0), some (.int 0)]) X d_Md_makeSeal_88 ?_
  obtain ⟨σ22, he50, hf⟩ := bd_E hf
  refine hv_loop (P := fun s => hv_V k s.1 89 [some (.ref a0), some (.int s.2)] []) (Z := fun s => hv_V k s 121 [some (.ref a0), none] []) (fun s r h1 h2 => by obtain ⟨σ, x1⟩ := s; exact w_Md_makeSeal_l89 X N a0 σ x1 r h1 h2) N (σ16, 0) _ he50 ?_
  try dsimp only at hf ⊢
  refine hv_iconst (pn := 122) (v := 0) X d_Md_makeSeal_121 ?_
  refine hv_istore_n (pn := 123) (i := 1) (lo' := [some (.ref a0), some (.int 0)]) X d_Md_makeSeal_122 ?_
  obtain ⟨σ28, he48, hf⟩ := bd_E hf
  refine hv_loop (P := fun s => hv_V k s.1 123 [some (.ref a0), some (.int s.2)] []) (Z := fun s => hv_V k s 162 [some (.ref a0), none] []) (fun s r h1 h2 => by obtain ⟨σ, x1⟩ := s; exact w_Md_makeSeal_l123 X N a0 σ x1 r h1 h2) N (σ22, 0) _ he48 ?_
  try dsimp only at hf ⊢
  refine hv_iconst (pn := 163) (v := 0) X d_Md_makeSeal_162 ?_
  refine hv_istore_n (pn := 164) (i := 1) (lo' := [some (.ref a0), some (.int 0)]) X d_Md_makeSeal_163 ?_
  obtain ⟨σ33, he46, hf⟩ := bd_E hf
  refine hv_loop (P := fun s => hv_V k s.1 164 [some (.ref a0), some (.int s.2)] []) (Z := fun s => hv_V k s 191 [some (.ref a0), none] []) (fun s r h1 h2 => by obtain ⟨σ, x1⟩ := s; exact w_Md_makeSeal_l164 X N a0 σ x1 r h1 h2) N (σ28, 0) _ he46 ?_
  try dsimp only at hf ⊢
  refine hv_aload_n (pn := 192) X d_Md_makeSeal_191 ?_
  refine hv_bipush (pn := 194) (v := 96) X d_Md_makeSeal_192 ?_
  obtain ⟨σ34, hσ34, hf⟩ := bd_E hf
  refine hv_put (pn := 197) X d_Md_makeSeal_194 fp_Md_195 hσ34 ?_
  refine hv_aload_n (pn := 198) X d_Md_makeSeal_197 ?_
  obtain ⟨_, hr35, hf⟩ := bd_E hf
  obtain ⟨σ36, hσ36, hf⟩ := bd_E hf
  obtain ⟨hσ36, mσ36⟩ := ho_cv_E hσ36
  refine hv_callV (pn := 201) X d_Md_makeSeal_198 (c_Md_digestRow _ _ N σ34 a0 _ hσ36) cs_Md_208 q_5_18 rfl qs_Md_digestRow hr35 (by decide) (by decide) mσ36 (Nat.le_of_ble_eq_true rfl) ?_
  refine hv_iconst (pn := 202) (v := 0) X d_Md_makeSeal_201 ?_
  refine hv_istore_n (pn := 203) (i := 1) (lo' := [some (.ref a0), some (.int 0)]) X d_Md_makeSeal_202 ?_
  obtain ⟨σ42, he44, hf⟩ := bd_E hf
  refine hv_loop (P := fun s => hv_V k s.1 203 [some (.ref a0), some (.int s.2)] []) (Z := fun s => hv_V k s 235 [none, none] []) (fun s r h1 h2 => by obtain ⟨σ, x1⟩ := s; exact w_Md_makeSeal_l203 X N a0 σ x1 r h1 h2) N (σ36, 0) _ he44 ?_
  try dsimp only at hf ⊢
  cases hf
  exact hv_vret X d_Md_makeSeal_235 E
set_option maxHeartbeats 4000000 in
set_option maxRecDepth 100000 in
theorem w_Md_down_l2 {k : mk_T} (X : hv_X k b_Md_down y_Md_down.cls 2 4 92 none y_Md_down.name) (N : Nat) (a0 : Nat) (σ : ho_H) (x1 : Int32) (r : (ho_H × Int32) ⊕ (ho_H)) (hf : f_Md_down_l2 k.2.1 N a0 (σ, x1) = some r) (E : sm (fun s => hv_V k s.1 2 [some (.ref a0), some (.int s.2)] []) (fun s => hv_V k s 26 [some (.ref a0), none] []) r) : hv_V k σ 2 [some (.ref a0), some (.int x1)] [] := by
  unfold f_Md_down_l2 at hf
  try dsimp only at hf
  refine hv_iload_n (pn := 3) X d_Md_down_2 ?_
  refine hv_bipush (pn := 5) (v := 20) X d_Md_down_3 ?_
  refine hv_icmp_ge (pn := 8) (tgt := 26) X d_Md_down_5 (by decide) (fun hc => ?_) (fun hc => ?_)
  · rw [if_pos hc] at hf
    refine hv_drop (i := 1) (lo' := [some (.ref a0), none]) ?_
    cases hf
    exact E
  · rw [if_neg hc] at hf
    refine hv_aload_n (pn := 9) X d_Md_down_8 ?_
    obtain ⟨b1, hb1, hf⟩ := bd_E hf
    refine hv_getR (pn := 12) X d_Md_down_9 fa_Md_100 hb1 ?_
    refine hv_iload_n (pn := 13) X d_Md_down_12 ?_
    refine hv_aload_n (pn := 14) X d_Md_down_13 ?_
    obtain ⟨b2, hb2, hf⟩ := bd_E hf
    refine hv_getR (pn := 17) X d_Md_down_14 fa_Md_169 hb2 ?_
    refine hv_iload_n (pn := 18) X d_Md_down_17 ?_
    obtain ⟨v3, hv3, hf⟩ := bd_E hf
    refine hv_iald (pn := 19) X d_Md_down_18 hv3 ?_
    obtain ⟨σ4, hσ4, hf⟩ := bd_E hf
    refine hv_iast (pn := 20) X d_Md_down_19 hσ4 ?_
    refine hv_iinc (pn := 23) (i := 1) (v := x1 + 1) (lo' := [some (.ref a0), some (.int (x1 + 1))]) X d_Md_down_20 ?_
    refine hv_goto (tgt := 2) X d_Md_down_23 (by decide) ?_
    cases hf
    exact E
set_option maxHeartbeats 4000000 in
set_option maxRecDepth 100000 in
theorem w_Md_down_l83 {k : mk_T} (X : hv_X k b_Md_down y_Md_down.cls 2 4 92 none y_Md_down.name) (N : Nat) (a0 : Nat) (σ : ho_H) (x1 : Int32) (r : (ho_H × Int32) ⊕ (ho_H)) (hf : f_Md_down_l83 k.2.1 N a0 (σ, x1) = some r) (E : sm (fun s => hv_V k s.1 83 [some (.ref a0), some (.int s.2)] []) (fun s => hv_V k s 107 [none, none] []) r) : hv_V k σ 83 [some (.ref a0), some (.int x1)] [] := by
  unfold f_Md_down_l83 at hf
  try dsimp only at hf
  refine hv_iload_n (pn := 84) X d_Md_down_83 ?_
  refine hv_bipush (pn := 86) (v := 20) X d_Md_down_84 ?_
  refine hv_icmp_ge (pn := 89) (tgt := 107) X d_Md_down_86 (by decide) (fun hc => ?_) (fun hc => ?_)
  · rw [if_pos hc] at hf
    refine hv_drop (i := 0) (lo' := [none, some (.int x1)]) ?_
    refine hv_drop (i := 1) (lo' := [none, none]) ?_
    cases hf
    exact E
  · rw [if_neg hc] at hf
    refine hv_aload_n (pn := 90) X d_Md_down_89 ?_
    obtain ⟨b20, hb20, hf⟩ := bd_E hf
    refine hv_getR (pn := 93) X d_Md_down_90 fa_Md_169 hb20 ?_
    refine hv_iload_n (pn := 94) X d_Md_down_93 ?_
    refine hv_aload_n (pn := 95) X d_Md_down_94 ?_
    obtain ⟨b21, hb21, hf⟩ := bd_E hf
    refine hv_getR (pn := 98) X d_Md_down_95 fa_Md_106 hb21 ?_
    refine hv_iload_n (pn := 99) X d_Md_down_98 ?_
    obtain ⟨v22, hv22, hf⟩ := bd_E hf
    refine hv_iald (pn := 100) X d_Md_down_99 hv22 ?_
    obtain ⟨σ23, hσ23, hf⟩ := bd_E hf
    refine hv_iast (pn := 101) X d_Md_down_100 hσ23 ?_
    refine hv_iinc (pn := 104) (i := 1) (v := x1 + 1) (lo' := [some (.ref a0), some (.int (x1 + 1))]) X d_Md_down_101 ?_
    refine hv_goto (tgt := 83) X d_Md_down_104 (by decide) ?_
    cases hf
    exact E
set_option maxHeartbeats 4000000 in
set_option maxRecDepth 100000 in
theorem c_Md_down (l : Launch) (G : ho_G) (N : Nat) (σ : ho_H) (a0 : Nat) (σ' : ho_H) (hf : f_Md_down G N σ a0 = some σ') : hv_C l G y_Md_down (Cond.code y_Md_down b_Md_down 2 none :: hv_ws) 4 92 [.ref a0] σ σ' (none) := by
  refine hv_met [some (.ref a0), none] (plainFor_of_name (by decide +kernel)) (by intro v hv; simp at hv; rcases hv with rfl <;> rfl) (Nat.le_of_ble_eq_true rfl) rfl ?_
  intro k X hkl hkG E
  subst hkl
  subst hkG
  unfold f_Md_down at hf
  refine hv_iconst (pn := 1) (v := 0) X d_Md_down_0 ?_
  refine hv_istore_n (pn := 2) (i := 1) (lo' := [some (.ref a0), some (.int 0)]) X d_Md_down_1 ?_
  obtain ⟨σ5, he28, hf⟩ := bd_E hf
  refine hv_loop (P := fun s => hv_V k s.1 2 [some (.ref a0), some (.int s.2)] []) (Z := fun s => hv_V k s 26 [some (.ref a0), none] []) (fun s r h1 h2 => by obtain ⟨σ, x1⟩ := s; exact w_Md_down_l2 X N a0 σ x1 r h1 h2) N (σ, 0) _ he28 ?_
  try dsimp only at hf ⊢
  refine hv_aload_n (pn := 27) X d_Md_down_26 ?_
  refine hv_bipush (pn := 29) (v := 20) X d_Md_down_27 ?_
  obtain ⟨σ6, hσ6, hf⟩ := bd_E hf
  refine hv_put (pn := 32) X d_Md_down_29 fp_Md_202 hσ6 ?_
  refine hv_aload_n (pn := 33) X d_Md_down_32 ?_
  obtain ⟨b7, hb7, hf⟩ := bd_E hf
  refine hv_getR (pn := 36) X d_Md_down_33 fa_Md_103 hb7 ?_
  refine hv_iconst (pn := 37) (v := 0) X d_Md_down_36 ?_
  refine hv_bipush (pn := 39) (v := 99) X d_Md_down_37 ?_
  obtain ⟨σ8, hσ8, hf⟩ := bd_E hf
  refine hv_iast (pn := 40) X d_Md_down_39 hσ8 ?_
  refine hv_aload_n (pn := 41) X d_Md_down_40 ?_
  obtain ⟨b9, hb9, hf⟩ := bd_E hf
  refine hv_getR (pn := 44) X d_Md_down_41 fa_Md_103 hb9 ?_
  refine hv_iconst (pn := 45) (v := 1) X d_Md_down_44 ?_
  refine hv_bipush (pn := 47) (v := 104) X d_Md_down_45 ?_
  obtain ⟨σ10, hσ10, hf⟩ := bd_E hf
  refine hv_iast (pn := 48) X d_Md_down_47 hσ10 ?_
  refine hv_aload_n (pn := 49) X d_Md_down_48 ?_
  obtain ⟨b11, hb11, hf⟩ := bd_E hf
  refine hv_getR (pn := 52) X d_Md_down_49 fa_Md_103 hb11 ?_
  refine hv_iconst (pn := 53) (v := 2) X d_Md_down_52 ?_
  refine hv_bipush (pn := 55) (v := 97) X d_Md_down_53 ?_
  obtain ⟨σ12, hσ12, hf⟩ := bd_E hf
  refine hv_iast (pn := 56) X d_Md_down_55 hσ12 ?_
  refine hv_aload_n (pn := 57) X d_Md_down_56 ?_
  obtain ⟨b13, hb13, hf⟩ := bd_E hf
  refine hv_getR (pn := 60) X d_Md_down_57 fa_Md_103 hb13 ?_
  refine hv_iconst (pn := 61) (v := 3) X d_Md_down_60 ?_
  refine hv_bipush (pn := 63) (v := 105) X d_Md_down_61 ?_
  obtain ⟨σ14, hσ14, hf⟩ := bd_E hf
  refine hv_iast (pn := 64) X d_Md_down_63 hσ14 ?_
  refine hv_aload_n (pn := 65) X d_Md_down_64 ?_
  obtain ⟨b15, hb15, hf⟩ := bd_E hf
  refine hv_getR (pn := 68) X d_Md_down_65 fa_Md_103 hb15 ?_
  refine hv_iconst (pn := 69) (v := 4) X d_Md_down_68 ?_
  refine hv_bipush (pn := 71) (v := 110) X d_Md_down_69 ?_
  obtain ⟨σ16, hσ16, hf⟩ := bd_E hf
  refine hv_iast (pn := 72) X d_Md_down_71 hσ16 ?_
  refine hv_aload_n (pn := 73) X d_Md_down_72 ?_
  refine hv_iconst (pn := 74) (v := 5) X d_Md_down_73 ?_
  obtain ⟨σ17, hσ17, hf⟩ := bd_E hf
  refine hv_put (pn := 77) X d_Md_down_74 fp_Md_205 hσ17 ?_
  refine hv_aload_n (pn := 78) X d_Md_down_77 ?_
  obtain ⟨_, hr18, hf⟩ := bd_E hf
  obtain ⟨σ19, hσ19, hf⟩ := bd_E hf
  obtain ⟨hσ19, mσ19⟩ := ho_cv_E hσ19
  refine hv_callV (pn := 81) X d_Md_down_78 (c_Md_makeSeal _ _ N σ17 a0 _ hσ19) cs_Md_214 q_5_14 rfl qs_Md_makeSeal hr18 (by decide) (by decide) mσ19 (Nat.le_of_ble_eq_true rfl) ?_
  refine hv_iconst (pn := 82) (v := 0) X d_Md_down_81 ?_
  refine hv_istore_n (pn := 83) (i := 1) (lo' := [some (.ref a0), some (.int 0)]) X d_Md_down_82 ?_
  obtain ⟨σ24, he26, hf⟩ := bd_E hf
  refine hv_loop (P := fun s => hv_V k s.1 83 [some (.ref a0), some (.int s.2)] []) (Z := fun s => hv_V k s 107 [none, none] []) (fun s r h1 h2 => by obtain ⟨σ, x1⟩ := s; exact w_Md_down_l83 X N a0 σ x1 r h1 h2) N (σ19, 0) _ he26 ?_
  try dsimp only at hf ⊢
  cases hf
  exact hv_vret X d_Md_down_107 E
set_option maxHeartbeats 4000000 in
set_option maxRecDepth 100000 in
theorem w_Md_codeOfCopy_l2 {k : mk_T} (X : hv_X k b_Md_codeOfCopy y_Md_codeOfCopy.cls 3 4 92 none y_Md_codeOfCopy.name) (N : Nat) (a0 : Nat) (x1 : Int32) (σ : ho_H) (x2 : Int32) (r : (ho_H × Int32) ⊕ (ho_H)) (hf : f_Md_codeOfCopy_l2 k.2.1 N a0 x1 (σ, x2) = some r) (E : sm (fun s => hv_V k s.1 2 [some (.ref a0), some (.int x1), some (.int s.2)] []) (fun s => hv_V k s 26 [some (.ref a0), some (.int x1), none] []) r) : hv_V k σ 2 [some (.ref a0), some (.int x1), some (.int x2)] [] := by
  unfold f_Md_codeOfCopy_l2 at hf
  try dsimp only at hf
  refine hv_iload_n (pn := 3) X d_Md_codeOfCopy_2 ?_
  refine hv_bipush (pn := 5) (v := 20) X d_Md_codeOfCopy_3 ?_
  refine hv_icmp_ge (pn := 8) (tgt := 26) X d_Md_codeOfCopy_5 (by decide) (fun hc => ?_) (fun hc => ?_)
  · rw [if_pos hc] at hf
    refine hv_drop (i := 2) (lo' := [some (.ref a0), some (.int x1), none]) ?_
    cases hf
    exact E
  · rw [if_neg hc] at hf
    refine hv_aload_n (pn := 9) X d_Md_codeOfCopy_8 ?_
    obtain ⟨b1, hb1, hf⟩ := bd_E hf
    refine hv_getR (pn := 12) X d_Md_codeOfCopy_9 fa_Md_100 hb1 ?_
    refine hv_iload_n (pn := 13) X d_Md_codeOfCopy_12 ?_
    refine hv_aload_n (pn := 14) X d_Md_codeOfCopy_13 ?_
    obtain ⟨b2, hb2, hf⟩ := bd_E hf
    refine hv_getR (pn := 17) X d_Md_codeOfCopy_14 fa_Md_169 hb2 ?_
    refine hv_iload_n (pn := 18) X d_Md_codeOfCopy_17 ?_
    obtain ⟨v3, hv3, hf⟩ := bd_E hf
    refine hv_iald (pn := 19) X d_Md_codeOfCopy_18 hv3 ?_
    obtain ⟨σ4, hσ4, hf⟩ := bd_E hf
    refine hv_iast (pn := 20) X d_Md_codeOfCopy_19 hσ4 ?_
    refine hv_iinc (pn := 23) (i := 2) (v := x2 + 1) (lo' := [some (.ref a0), some (.int x1), some (.int (x2 + 1))]) X d_Md_codeOfCopy_20 ?_
    refine hv_goto (tgt := 2) X d_Md_codeOfCopy_23 (by decide) ?_
    cases hf
    exact E
set_option maxHeartbeats 4000000 in
set_option maxRecDepth 100000 in
theorem w_Md_codeOfCopy_l67 {k : mk_T} (X : hv_X k b_Md_codeOfCopy y_Md_codeOfCopy.cls 3 4 92 none y_Md_codeOfCopy.name) (N : Nat) (a0 : Nat) (x1 : Int32) (σ : ho_H) (x2 : Int32) (r : (ho_H × Int32) ⊕ (ho_H)) (hf : f_Md_codeOfCopy_l67 k.2.1 N a0 x1 (σ, x2) = some r) (E : sm (fun s => hv_V k s.1 67 [some (.ref a0), some (.int x1), some (.int s.2)] []) (fun s => hv_V k s 91 [some (.ref a0), some (.int x1), none] []) r) : hv_V k σ 67 [some (.ref a0), some (.int x1), some (.int x2)] [] := by
  unfold f_Md_codeOfCopy_l67 at hf
  try dsimp only at hf
  refine hv_iload_n (pn := 68) X d_Md_codeOfCopy_67 ?_
  refine hv_bipush (pn := 70) (v := 32) X d_Md_codeOfCopy_68 ?_
  refine hv_icmp_ge (pn := 73) (tgt := 91) X d_Md_codeOfCopy_70 (by decide) (fun hc => ?_) (fun hc => ?_)
  · rw [if_pos hc] at hf
    refine hv_drop (i := 2) (lo' := [some (.ref a0), some (.int x1), none]) ?_
    cases hf
    exact E
  · rw [if_neg hc] at hf
    refine hv_aload_n (pn := 74) X d_Md_codeOfCopy_73 ?_
    obtain ⟨b16, hb16, hf⟩ := bd_E hf
    refine hv_getR (pn := 77) X d_Md_codeOfCopy_74 fa_Md_100 hb16 ?_
    refine hv_iload_n (pn := 78) X d_Md_codeOfCopy_77 ?_
    refine hv_aload_n (pn := 79) X d_Md_codeOfCopy_78 ?_
    obtain ⟨b17, hb17, hf⟩ := bd_E hf
    refine hv_getR (pn := 82) X d_Md_codeOfCopy_79 fa_Md_106 hb17 ?_
    refine hv_iload_n (pn := 83) X d_Md_codeOfCopy_82 ?_
    obtain ⟨v18, hv18, hf⟩ := bd_E hf
    refine hv_iald (pn := 84) X d_Md_codeOfCopy_83 hv18 ?_
    obtain ⟨σ19, hσ19, hf⟩ := bd_E hf
    refine hv_iast (pn := 85) X d_Md_codeOfCopy_84 hσ19 ?_
    refine hv_iinc (pn := 88) (i := 2) (v := x2 + 1) (lo' := [some (.ref a0), some (.int x1), some (.int (x2 + 1))]) X d_Md_codeOfCopy_85 ?_
    refine hv_goto (tgt := 67) X d_Md_codeOfCopy_88 (by decide) ?_
    cases hf
    exact E
set_option maxHeartbeats 4000000 in
set_option maxRecDepth 100000 in
theorem w_Md_codeOfCopy_l99 {k : mk_T} (X : hv_X k b_Md_codeOfCopy y_Md_codeOfCopy.cls 3 4 92 none y_Md_codeOfCopy.name) (N : Nat) (a0 : Nat) (x1 : Int32) (σ : ho_H) (x2 : Int32) (r : (ho_H × Int32) ⊕ (ho_H)) (hf : f_Md_codeOfCopy_l99 k.2.1 N a0 x1 (σ, x2) = some r) (E : sm (fun s => hv_V k s.1 99 [some (.ref a0), some (.int x1), some (.int s.2)] []) (fun s => hv_V k s 122 [some (.ref a0), some (.int x1), none] []) r) : hv_V k σ 99 [some (.ref a0), some (.int x1), some (.int x2)] [] := by
  unfold f_Md_codeOfCopy_l99 at hf
  try dsimp only at hf
  refine hv_iload_n (pn := 100) X d_Md_codeOfCopy_99 ?_
  refine hv_iload_n (pn := 101) X d_Md_codeOfCopy_100 ?_
  refine hv_icmp_ge (pn := 104) (tgt := 122) X d_Md_codeOfCopy_101 (by decide) (fun hc => ?_) (fun hc => ?_)
  · rw [if_pos hc] at hf
    refine hv_drop (i := 2) (lo' := [some (.ref a0), some (.int x1), none]) ?_
    cases hf
    exact E
  · rw [if_neg hc] at hf
    refine hv_aload_n (pn := 105) X d_Md_codeOfCopy_104 ?_
    obtain ⟨b22, hb22, hf⟩ := bd_E hf
    refine hv_getR (pn := 108) X d_Md_codeOfCopy_105 fa_Md_103 hb22 ?_
    refine hv_iload_n (pn := 109) X d_Md_codeOfCopy_108 ?_
    refine hv_aload_n (pn := 110) X d_Md_codeOfCopy_109 ?_
    obtain ⟨b23, hb23, hf⟩ := bd_E hf
    refine hv_getR (pn := 113) X d_Md_codeOfCopy_110 fa_Md_166 hb23 ?_
    refine hv_iload_n (pn := 114) X d_Md_codeOfCopy_113 ?_
    obtain ⟨v24, hv24, hf⟩ := bd_E hf
    refine hv_iald (pn := 115) X d_Md_codeOfCopy_114 hv24 ?_
    obtain ⟨σ25, hσ25, hf⟩ := bd_E hf
    refine hv_iast (pn := 116) X d_Md_codeOfCopy_115 hσ25 ?_
    refine hv_iinc (pn := 119) (i := 2) (v := x2 + 1) (lo' := [some (.ref a0), some (.int x1), some (.int (x2 + 1))]) X d_Md_codeOfCopy_116 ?_
    refine hv_goto (tgt := 99) X d_Md_codeOfCopy_119 (by decide) ?_
    cases hf
    exact E
set_option maxHeartbeats 4000000 in
set_option maxRecDepth 100000 in
theorem c_Md_codeOfCopy (l : Launch) (G : ho_G) (N : Nat) (σ : ho_H) (a0 : Nat) (x1 : Int32) (σ' : ho_H) (hf : f_Md_codeOfCopy G N σ a0 x1 = some σ') : hv_C l G y_Md_codeOfCopy (Cond.code y_Md_codeOfCopy b_Md_codeOfCopy 3 none :: hv_ws) 4 92 [.ref a0, .int x1] σ σ' (none) := by
  refine hv_met [some (.ref a0), some (.int x1), none] (plainFor_of_name (by decide +kernel)) (by intro v hv; simp at hv; rcases hv with rfl | rfl <;> rfl) (Nat.le_of_ble_eq_true rfl) rfl ?_
  intro k X hkl hkG E
  subst hkl
  subst hkG
  unfold f_Md_codeOfCopy at hf
  refine hv_iconst (pn := 1) (v := 0) X d_Md_codeOfCopy_0 ?_
  refine hv_istore_n (pn := 2) (i := 2) (lo' := [some (.ref a0), some (.int x1), some (.int 0)]) X d_Md_codeOfCopy_1 ?_
  obtain ⟨σ5, he35, hf⟩ := bd_E hf
  refine hv_loop (P := fun s => hv_V k s.1 2 [some (.ref a0), some (.int x1), some (.int s.2)] []) (Z := fun s => hv_V k s 26 [some (.ref a0), some (.int x1), none] []) (fun s r h1 h2 => by obtain ⟨σ, x2⟩ := s; exact w_Md_codeOfCopy_l2 X N a0 x1 σ x2 r h1 h2) N (σ, 0) _ he35 ?_
  try dsimp only at hf ⊢
  refine hv_aload_n (pn := 27) X d_Md_codeOfCopy_26 ?_
  refine hv_bipush (pn := 29) (v := 20) X d_Md_codeOfCopy_27 ?_
  obtain ⟨σ6, hσ6, hf⟩ := bd_E hf
  refine hv_put (pn := 32) X d_Md_codeOfCopy_29 fp_Md_202 hσ6 ?_
  refine hv_aload_n (pn := 33) X d_Md_codeOfCopy_32 ?_
  obtain ⟨b7, hb7, hf⟩ := bd_E hf
  refine hv_getR (pn := 36) X d_Md_codeOfCopy_33 fa_Md_103 hb7 ?_
  refine hv_iconst (pn := 37) (v := 0) X d_Md_codeOfCopy_36 ?_
  refine hv_bipush (pn := 39) (v := 109) X d_Md_codeOfCopy_37 ?_
  obtain ⟨σ8, hσ8, hf⟩ := bd_E hf
  refine hv_iast (pn := 40) X d_Md_codeOfCopy_39 hσ8 ?_
  refine hv_aload_n (pn := 41) X d_Md_codeOfCopy_40 ?_
  obtain ⟨b9, hb9, hf⟩ := bd_E hf
  refine hv_getR (pn := 44) X d_Md_codeOfCopy_41 fa_Md_103 hb9 ?_
  refine hv_iconst (pn := 45) (v := 1) X d_Md_codeOfCopy_44 ?_
  refine hv_bipush (pn := 47) (v := 97) X d_Md_codeOfCopy_45 ?_
  obtain ⟨σ10, hσ10, hf⟩ := bd_E hf
  refine hv_iast (pn := 48) X d_Md_codeOfCopy_47 hσ10 ?_
  refine hv_aload_n (pn := 49) X d_Md_codeOfCopy_48 ?_
  obtain ⟨b11, hb11, hf⟩ := bd_E hf
  refine hv_getR (pn := 52) X d_Md_codeOfCopy_49 fa_Md_103 hb11 ?_
  refine hv_iconst (pn := 53) (v := 2) X d_Md_codeOfCopy_52 ?_
  refine hv_bipush (pn := 55) (v := 99) X d_Md_codeOfCopy_53 ?_
  obtain ⟨σ12, hσ12, hf⟩ := bd_E hf
  refine hv_iast (pn := 56) X d_Md_codeOfCopy_55 hσ12 ?_
  refine hv_aload_n (pn := 57) X d_Md_codeOfCopy_56 ?_
  refine hv_iconst (pn := 58) (v := 3) X d_Md_codeOfCopy_57 ?_
  obtain ⟨σ13, hσ13, hf⟩ := bd_E hf
  refine hv_put (pn := 61) X d_Md_codeOfCopy_58 fp_Md_205 hσ13 ?_
  refine hv_aload_n (pn := 62) X d_Md_codeOfCopy_61 ?_
  obtain ⟨_, hr14, hf⟩ := bd_E hf
  obtain ⟨σ15, hσ15, hf⟩ := bd_E hf
  obtain ⟨hσ15, mσ15⟩ := ho_cv_E hσ15
  refine hv_callV (pn := 65) X d_Md_codeOfCopy_62 (c_Md_makeSeal _ _ N σ13 a0 _ hσ15) cs_Md_214 q_5_14 rfl qs_Md_makeSeal hr14 (by decide) (by decide) mσ15 (Nat.le_of_ble_eq_true rfl) ?_
  refine hv_iconst (pn := 66) (v := 0) X d_Md_codeOfCopy_65 ?_
  refine hv_istore_n (pn := 67) (i := 2) (lo' := [some (.ref a0), some (.int x1), some (.int 0)]) X d_Md_codeOfCopy_66 ?_
  obtain ⟨σ20, he33, hf⟩ := bd_E hf
  refine hv_loop (P := fun s => hv_V k s.1 67 [some (.ref a0), some (.int x1), some (.int s.2)] []) (Z := fun s => hv_V k s 91 [some (.ref a0), some (.int x1), none] []) (fun s r h1 h2 => by obtain ⟨σ, x2⟩ := s; exact w_Md_codeOfCopy_l67 X N a0 x1 σ x2 r h1 h2) N (σ15, 0) _ he33 ?_
  try dsimp only at hf ⊢
  refine hv_aload_n (pn := 92) X d_Md_codeOfCopy_91 ?_
  refine hv_bipush (pn := 94) (v := 32) X d_Md_codeOfCopy_92 ?_
  obtain ⟨σ21, hσ21, hf⟩ := bd_E hf
  refine hv_put (pn := 97) X d_Md_codeOfCopy_94 fp_Md_202 hσ21 ?_
  refine hv_iconst (pn := 98) (v := 0) X d_Md_codeOfCopy_97 ?_
  refine hv_istore_n (pn := 99) (i := 2) (lo' := [some (.ref a0), some (.int x1), some (.int 0)]) X d_Md_codeOfCopy_98 ?_
  obtain ⟨σ26, he31, hf⟩ := bd_E hf
  refine hv_loop (P := fun s => hv_V k s.1 99 [some (.ref a0), some (.int x1), some (.int s.2)] []) (Z := fun s => hv_V k s 122 [some (.ref a0), some (.int x1), none] []) (fun s r h1 h2 => by obtain ⟨σ, x2⟩ := s; exact w_Md_codeOfCopy_l99 X N a0 x1 σ x2 r h1 h2) N (σ21, 0) _ he31 ?_
  try dsimp only at hf ⊢
  refine hv_aload_n (pn := 123) X d_Md_codeOfCopy_122 ?_
  refine hv_iload_n (pn := 124) X d_Md_codeOfCopy_123 ?_
  obtain ⟨σ27, hσ27, hf⟩ := bd_E hf
  refine hv_put (pn := 127) X d_Md_codeOfCopy_124 fp_Md_205 hσ27 ?_
  refine hv_aload_n (pn := 128) X d_Md_codeOfCopy_127 ?_
  obtain ⟨_, hr28, hf⟩ := bd_E hf
  obtain ⟨σ29, hσ29, hf⟩ := bd_E hf
  obtain ⟨hσ29, mσ29⟩ := ho_cv_E hσ29
  refine hv_callV (pn := 131) X d_Md_codeOfCopy_128 (c_Md_makeSeal _ _ N σ27 a0 _ hσ29) cs_Md_214 q_5_14 rfl qs_Md_makeSeal hr28 (by decide) (by decide) mσ29 (Nat.le_of_ble_eq_true rfl) ?_
  cases hf
  exact hv_vret X d_Md_codeOfCopy_131 E
