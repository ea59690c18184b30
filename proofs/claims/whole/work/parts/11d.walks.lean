set_option maxHeartbeats 4000000 in
set_option maxRecDepth 100000 in
theorem c_Ck_init (l : Launch) (G : ho_G) (N : Nat) (σ : ho_H) (a0 : Nat) (x1 : Int32) (x2 : Int32) (x3 : Int32) (σ' : ho_H) (hf : f_Ck_init G N σ a0 x1 x2 x3 = some σ') : hv_C l G y_Ck_init (Cond.code y_Ck_init b_Ck_init 4 none :: hv_ws) 1 20 [.ref a0, .int x1, .int x2, .int x3] σ σ' (none) := by
  refine hv_met [some (.ref a0), some (.int x1), some (.int x2), some (.int x3)] (plainFor_of_name (by decide +kernel)) (by intro v hv; simp at hv; rcases hv with rfl | rfl | rfl | rfl <;> rfl) (Nat.le_of_ble_eq_true rfl) rfl ?_
  intro k X hkl hkG E
  subst hkl
  subst hkG
  unfold f_Ck_init at hf
  refine hv_aload_n (pn := 1) X d_Ck_init_0 ?_
  refine hv_oinit (pn := 4) X d_Ck_init_1 q_1_40 q_1_30 q_1_31 (by decide) (by decide) (Nat.le_of_ble_eq_true rfl) ?_
  refine hv_aload_n (pn := 5) X d_Ck_init_4 ?_
  refine hv_iload_n (pn := 6) X d_Ck_init_5 ?_
  obtain ⟨σ1, hσ1, hf⟩ := bd_E hf
  refine hv_putF (pn := 9) X d_Ck_init_6 fp_Ck_7 hσ1 ?_
  refine hv_aload_n (pn := 10) X d_Ck_init_9 ?_
  refine hv_iload_n (pn := 11) X d_Ck_init_10 ?_
  obtain ⟨σ2, hσ2, hf⟩ := bd_E hf
  refine hv_putF (pn := 14) X d_Ck_init_11 fp_Ck_13 hσ2 ?_
  refine hv_aload_n (pn := 15) X d_Ck_init_14 ?_
  refine hv_iload_n (pn := 16) X d_Ck_init_15 ?_
  obtain ⟨σ3, hσ3, hf⟩ := bd_E hf
  refine hv_putF (pn := 19) X d_Ck_init_16 fp_Ck_16 hσ3 ?_
  cases hf
  exact hv_vret X d_Ck_init_19 E
set_option maxHeartbeats 4000000 in
set_option maxRecDepth 100000 in
theorem c_Sl_init (l : Launch) (G : ho_G) (N : Nat) (σ : ho_H) (a0 : Nat) (σ' : ho_H) (hf : f_Sl_init G N σ a0 = some σ') : hv_C l G y_Sl_init (Cond.code y_Sl_init b_Sl_init 1 none :: hv_ws) 1 20 [.ref a0] σ σ' (none) := by
  refine hv_met [some (.ref a0)] (plainFor_of_name (by decide +kernel)) (by intro v hv; simp at hv; rcases hv with rfl <;> rfl) (Nat.le_of_ble_eq_true rfl) rfl ?_
  intro k X hkl hkG E
  subst hkl
  subst hkG
  unfold f_Sl_init at hf
  refine hv_aload_n (pn := 1) X d_Sl_init_0 ?_
  refine hv_oinit (pn := 4) X d_Sl_init_1 q_1_62 q_1_30 q_1_31 (by decide) (by decide) (Nat.le_of_ble_eq_true rfl) ?_
  refine hv_aload_n (pn := 5) X d_Sl_init_4 ?_
  refine hv_bipush (pn := 7) (v := 8) X d_Sl_init_5 ?_
  obtain ⟨σ1, b2, hσ1, hf⟩ := bd2_E hf
  refine hv_nwI (pn := 9) X d_Sl_init_7 q_1_83 hσ1 ?_
  obtain ⟨σ3, hσ3, hf⟩ := bd_E hf
  refine hv_putF (pn := 12) X d_Sl_init_9 fp_Sl_9 hσ3 ?_
  refine hv_aload_n (pn := 13) X d_Sl_init_12 ?_
  refine hv_bipush (pn := 15) (v := 8) X d_Sl_init_13 ?_
  obtain ⟨σ4, b5, hσ4, hf⟩ := bd2_E hf
  refine hv_nwI (pn := 17) X d_Sl_init_15 q_1_83 hσ4 ?_
  obtain ⟨σ6, hσ6, hf⟩ := bd_E hf
  refine hv_putF (pn := 20) X d_Sl_init_17 fp_Sl_13 hσ6 ?_
  refine hv_aload_n (pn := 21) X d_Sl_init_20 ?_
  refine hv_bipush (pn := 23) (v := 32) X d_Sl_init_21 ?_
  obtain ⟨σ7, b8, hσ7, hf⟩ := bd2_E hf
  refine hv_nwI (pn := 25) X d_Sl_init_23 q_1_83 hσ7 ?_
  obtain ⟨σ9, hσ9, hf⟩ := bd_E hf
  refine hv_putF (pn := 28) X d_Sl_init_25 fp_Sl_16 hσ9 ?_
  refine hv_aload_n (pn := 29) X d_Sl_init_28 ?_
  refine hv_bipush (pn := 31) (v := 64) X d_Sl_init_29 ?_
  obtain ⟨σ10, b11, hσ10, hf⟩ := bd2_E hf
  refine hv_nwI (pn := 33) X d_Sl_init_31 q_1_83 hσ10 ?_
  obtain ⟨σ12, hσ12, hf⟩ := bd_E hf
  refine hv_putF (pn := 36) X d_Sl_init_33 fp_Sl_19 hσ12 ?_
  cases hf
  exact hv_vret X d_Sl_init_36 E
set_option maxHeartbeats 4000000 in
set_option maxRecDepth 100000 in
theorem c_Kc_init (l : Launch) (G : ho_G) (N : Nat) (σ : ho_H) (a0 : Nat) (σ' : ho_H) (hf : f_Kc_init G N σ a0 = some σ') : hv_C l G y_Kc_init (Cond.code y_Kc_init b_Kc_init 1 none :: hv_ws) 1 20 [.ref a0] σ σ' (none) := by
  refine hv_met [some (.ref a0)] (plainFor_of_name (by decide +kernel)) (by intro v hv; simp at hv; rcases hv with rfl <;> rfl) (Nat.le_of_ble_eq_true rfl) rfl ?_
  intro k X hkl hkG E
  subst hkl
  subst hkG
  unfold f_Kc_init at hf
  refine hv_aload_n (pn := 1) X d_Kc_init_0 ?_
  refine hv_oinit (pn := 4) X d_Kc_init_1 q_1_90 q_1_30 q_1_31 (by decide) (by decide) (Nat.le_of_ble_eq_true rfl) ?_
  refine hv_aload_n (pn := 5) X d_Kc_init_4 ?_
  refine hv_sipush (pn := 8) (v := 325) X d_Kc_init_5 ?_
  obtain ⟨σ1, b2, hσ1, hf⟩ := bd2_E hf
  refine hv_nwI (pn := 10) X d_Kc_init_8 q_1_83 hσ1 ?_
  obtain ⟨σ3, hσ3, hf⟩ := bd_E hf
  refine hv_putF (pn := 13) X d_Kc_init_10 fp_Kc_9 hσ3 ?_
  refine hv_aload_n (pn := 14) X d_Kc_init_13 ?_
  refine hv_iconst (pn := 15) (v := (-1)) X d_Kc_init_14 ?_
  obtain ⟨σ4, hσ4, hf⟩ := bd_E hf
  refine hv_put (pn := 18) X d_Kc_init_15 fp_Kc_15 hσ4 ?_
  refine hv_aload_n (pn := 19) X d_Kc_init_18 ?_
  refine hv_iconst (pn := 20) (v := (-1)) X d_Kc_init_19 ?_
  obtain ⟨σ5, hσ5, hf⟩ := bd_E hf
  refine hv_put (pn := 23) X d_Kc_init_20 fp_Kc_19 hσ5 ?_
  cases hf
  exact hv_vret X d_Kc_init_23 E
set_option maxHeartbeats 4000000 in
set_option maxRecDepth 100000 in
theorem c_Pk_init1 (l : Launch) (G : ho_G) (N : Nat) (σ : ho_H) (a0 : Nat) (x1 : Int32) (x2 : Int32) (x3 : Int32) (σ' : ho_H) (hf : f_Pk_init1 G N σ a0 x1 x2 x3 = some σ') : hv_C l G y_Pk_init1 (Cond.code y_Pk_init1 b_Pk_init1 4 none :: hv_ws) 1 20 [.ref a0, .int x1, .int x2, .int x3] σ σ' (none) := by
  refine hv_met [some (.ref a0), some (.int x1), some (.int x2), some (.int x3)] (plainFor_of_name (by decide +kernel)) (by intro v hv; simp at hv; rcases hv with rfl | rfl | rfl | rfl <;> rfl) (Nat.le_of_ble_eq_true rfl) rfl ?_
  intro k X hkl hkG E
  subst hkl
  subst hkG
  unfold f_Pk_init1 at hf
  refine hv_aload_n (pn := 1) X d_Pk_init1_0 ?_
  refine hv_oinit (pn := 4) X d_Pk_init1_1 q_2_182 q_1_30 q_1_31 (by decide) (by decide) (Nat.le_of_ble_eq_true rfl) ?_
  refine hv_aload_n (pn := 5) X d_Pk_init1_4 ?_
  refine hv_bipush (pn := 7) (v := 36) X d_Pk_init1_5 ?_
  refine hv_iload_n (pn := 8) X d_Pk_init1_7 ?_
  refine hv_iadd (pn := 9) X d_Pk_init1_8 ?_
  obtain ⟨σ1, b2, hσ1, hf⟩ := bd2_E hf
  refine hv_nwI (pn := 11) X d_Pk_init1_9 q_1_83 hσ1 ?_
  obtain ⟨σ3, hσ3, hf⟩ := bd_E hf
  refine hv_putF (pn := 14) X d_Pk_init1_11 fp_Pk_11 hσ3 ?_
  refine hv_aload_n (pn := 15) X d_Pk_init1_14 ?_
  obtain ⟨b4, hb4, hf⟩ := bd_E hf
  refine hv_getR (pn := 18) X d_Pk_init1_15 fa_Pk_11 hb4 ?_
  refine hv_iconst (pn := 19) (v := 0) X d_Pk_init1_18 ?_
  refine hv_iload_n (pn := 20) X d_Pk_init1_19 ?_
  refine hv_bipush (pn := 22) (v := 24) X d_Pk_init1_20 ?_
  refine hv_iushr (pn := 23) X d_Pk_init1_22 ?_
  obtain ⟨σ5, hσ5, hf⟩ := bd_E hf
  refine hv_iast (pn := 24) X d_Pk_init1_23 hσ5 ?_
  refine hv_aload_n (pn := 25) X d_Pk_init1_24 ?_
  obtain ⟨b6, hb6, hf⟩ := bd_E hf
  refine hv_getR (pn := 28) X d_Pk_init1_25 fa_Pk_11 hb6 ?_
  refine hv_iconst (pn := 29) (v := 1) X d_Pk_init1_28 ?_
  refine hv_iload_n (pn := 30) X d_Pk_init1_29 ?_
  refine hv_bipush (pn := 32) (v := 16) X d_Pk_init1_30 ?_
  refine hv_iushr (pn := 33) X d_Pk_init1_32 ?_
  refine hv_sipush (pn := 36) (v := 255) X d_Pk_init1_33 ?_
  refine hv_iand (pn := 37) X d_Pk_init1_36 ?_
  obtain ⟨σ7, hσ7, hf⟩ := bd_E hf
  refine hv_iast (pn := 38) X d_Pk_init1_37 hσ7 ?_
  refine hv_aload_n (pn := 39) X d_Pk_init1_38 ?_
  obtain ⟨b8, hb8, hf⟩ := bd_E hf
  refine hv_getR (pn := 42) X d_Pk_init1_39 fa_Pk_11 hb8 ?_
  refine hv_iconst (pn := 43) (v := 2) X d_Pk_init1_42 ?_
  refine hv_iload_n (pn := 44) X d_Pk_init1_43 ?_
  refine hv_bipush (pn := 46) (v := 8) X d_Pk_init1_44 ?_
  refine hv_iushr (pn := 47) X d_Pk_init1_46 ?_
  refine hv_sipush (pn := 50) (v := 255) X d_Pk_init1_47 ?_
  refine hv_iand (pn := 51) X d_Pk_init1_50 ?_
  obtain ⟨σ9, hσ9, hf⟩ := bd_E hf
  refine hv_iast (pn := 52) X d_Pk_init1_51 hσ9 ?_
  refine hv_aload_n (pn := 53) X d_Pk_init1_52 ?_
  obtain ⟨b10, hb10, hf⟩ := bd_E hf
  refine hv_getR (pn := 56) X d_Pk_init1_53 fa_Pk_11 hb10 ?_
  refine hv_iconst (pn := 57) (v := 3) X d_Pk_init1_56 ?_
  refine hv_iload_n (pn := 58) X d_Pk_init1_57 ?_
  refine hv_sipush (pn := 61) (v := 255) X d_Pk_init1_58 ?_
  refine hv_iand (pn := 62) X d_Pk_init1_61 ?_
  obtain ⟨σ11, hσ11, hf⟩ := bd_E hf
  refine hv_iast (pn := 63) X d_Pk_init1_62 hσ11 ?_
  refine hv_aload_n (pn := 64) X d_Pk_init1_63 ?_
  obtain ⟨b12, hb12, hf⟩ := bd_E hf
  refine hv_getR (pn := 67) X d_Pk_init1_64 fa_Pk_11 hb12 ?_
  refine hv_iconst (pn := 68) (v := 4) X d_Pk_init1_67 ?_
  refine hv_iload_n (pn := 69) X d_Pk_init1_68 ?_
  obtain ⟨σ13, hσ13, hf⟩ := bd_E hf
  refine hv_iast (pn := 70) X d_Pk_init1_69 hσ13 ?_
  refine hv_aload_n (pn := 71) X d_Pk_init1_70 ?_
  obtain ⟨b14, hb14, hf⟩ := bd_E hf
  refine hv_getR (pn := 74) X d_Pk_init1_71 fa_Pk_11 hb14 ?_
  refine hv_iconst (pn := 75) (v := 5) X d_Pk_init1_74 ?_
  refine hv_iload_n (pn := 76) X d_Pk_init1_75 ?_
  obtain ⟨σ15, hσ15, hf⟩ := bd_E hf
  refine hv_iast (pn := 77) X d_Pk_init1_76 hσ15 ?_
  cases hf
  exact hv_vret X d_Pk_init1_77 E
set_option maxHeartbeats 4000000 in
set_option maxRecDepth 100000 in
theorem c_Pk_interval (l : Launch) (G : ho_G) (N : Nat) (σ : ho_H) (a0 : Nat) (r : Int32) (hf : f_Pk_interval G N σ a0 = some r) : hv_C l G y_Pk_interval (Cond.code y_Pk_interval b_Pk_interval 1 (some (.int)) :: hv_ws) 1 21 [.ref a0] σ σ (some (.int r)) := by
  refine hv_met [some (.ref a0)] (plainFor_of_name (by decide +kernel)) (by intro v hv; simp at hv; rcases hv with rfl <;> rfl) (Nat.le_of_ble_eq_true rfl) rfl ?_
  intro k X hkl hkG E
  subst hkl
  subst hkG
  unfold f_Pk_interval at hf
  refine hv_aload_n (pn := 1) X d_Pk_interval_0 ?_
  obtain ⟨b1, hb1, hf⟩ := bd_E hf
  refine hv_getR (pn := 4) X d_Pk_interval_1 fa_Pk_11 hb1 ?_
  refine hv_iconst (pn := 5) (v := 0) X d_Pk_interval_4 ?_
  obtain ⟨v2, hv2, hf⟩ := bd_E hf
  refine hv_callS (pn := 8) X d_Pk_interval_5 (c_Of_wordAt _ _ N σ b1 0 _ hv2) cs_Pk_20 q_2_199 (by decide) (by decide) ⟨Nat.le_refl _, Nat.le_refl _⟩ (Nat.le_of_ble_eq_true rfl) ?_
  cases hf
  exact hv_iret X d_Pk_interval_8 E
set_option maxHeartbeats 4000000 in
set_option maxRecDepth 100000 in
theorem c_Pk_size (l : Launch) (G : ho_G) (N : Nat) (σ : ho_H) (a0 : Nat) (r : Int32) (hf : f_Pk_size G N σ a0 = some r) : hv_C l G y_Pk_size (Cond.code y_Pk_size b_Pk_size 1 (some (.int)) :: hv_ws) 0 0 [.ref a0] σ σ (some (.int r)) := by
  refine hv_met [some (.ref a0)] (plainFor_of_name (by decide +kernel)) (by intro v hv; simp at hv; rcases hv with rfl <;> rfl) (Nat.le_of_ble_eq_true rfl) rfl ?_
  intro k X hkl hkG E
  subst hkl
  subst hkG
  unfold f_Pk_size at hf
  refine hv_aload_n (pn := 1) X d_Pk_size_0 ?_
  obtain ⟨b1, hb1, hf⟩ := bd_E hf
  refine hv_getR (pn := 4) X d_Pk_size_1 fa_Pk_11 hb1 ?_
  refine hv_iconst (pn := 5) (v := 5) X d_Pk_size_4 ?_
  obtain ⟨v2, hv2, hf⟩ := bd_E hf
  refine hv_iald (pn := 6) X d_Pk_size_5 hv2 ?_
  cases hf
  exact hv_iret X d_Pk_size_6 E
set_option maxHeartbeats 4000000 in
set_option maxRecDepth 100000 in
theorem c_Pk_kind (l : Launch) (G : ho_G) (N : Nat) (σ : ho_H) (a0 : Nat) (r : Int32) (hf : f_Pk_kind G N σ a0 = some r) : hv_C l G y_Pk_kind (Cond.code y_Pk_kind b_Pk_kind 1 (some (.int)) :: hv_ws) 0 0 [.ref a0] σ σ (some (.int r)) := by
  refine hv_met [some (.ref a0)] (plainFor_of_name (by decide +kernel)) (by intro v hv; simp at hv; rcases hv with rfl <;> rfl) (Nat.le_of_ble_eq_true rfl) rfl ?_
  intro k X hkl hkG E
  subst hkl
  subst hkG
  unfold f_Pk_kind at hf
  refine hv_aload_n (pn := 1) X d_Pk_kind_0 ?_
  obtain ⟨b1, hb1, hf⟩ := bd_E hf
  refine hv_getR (pn := 4) X d_Pk_kind_1 fa_Pk_11 hb1 ?_
  refine hv_iconst (pn := 5) (v := 4) X d_Pk_kind_4 ?_
  obtain ⟨v2, hv2, hf⟩ := bd_E hf
  refine hv_iald (pn := 6) X d_Pk_kind_5 hv2 ?_
  cases hf
  exact hv_iret X d_Pk_kind_6 E
set_option maxHeartbeats 4000000 in
set_option maxRecDepth 100000 in
theorem c_Pk_codeAt (l : Launch) (G : ho_G) (N : Nat) (σ : ho_H) (a0 : Nat) (r : Int32) (hf : f_Pk_codeAt G N σ a0 = some r) : hv_C l G y_Pk_codeAt (Cond.code y_Pk_codeAt b_Pk_codeAt 1 (some (.int)) :: hv_ws) 1 20 [.ref a0] σ σ (some (.int r)) := by
  refine hv_met [some (.ref a0)] (plainFor_of_name (by decide +kernel)) (by intro v hv; simp at hv; rcases hv with rfl <;> rfl) (Nat.le_of_ble_eq_true rfl) rfl ?_
  intro k X hkl hkG E
  subst hkl
  subst hkG
  unfold f_Pk_codeAt at hf
  refine hv_bipush (pn := 2) (v := 6) X d_Pk_codeAt_0 ?_
  refine hv_aload_n (pn := 3) X d_Pk_codeAt_2 ?_
  obtain ⟨_, hr1, hf⟩ := bd_E hf
  obtain ⟨v2, hv2, hf⟩ := bd_E hf
  refine hv_callV (pn := 6) X d_Pk_codeAt_3 (c_Pk_size _ _ N σ a0 _ hv2) cs_Pk_24 q_2_215 rfl q_2_216 hr1 (by decide) (by decide) ⟨Nat.le_refl _, Nat.le_refl _⟩ (Nat.le_of_ble_eq_true rfl) ?_
  refine hv_iadd (pn := 7) X d_Pk_codeAt_6 ?_
  cases hf
  exact hv_iret X d_Pk_codeAt_7 E
set_option maxHeartbeats 4000000 in
set_option maxRecDepth 100000 in
theorem c_Pk_shownAt (l : Launch) (G : ho_G) (N : Nat) (σ : ho_H) (a0 : Nat) (r : Int32) (hf : f_Pk_shownAt G N σ a0 = some r) : hv_C l G y_Pk_shownAt (Cond.code y_Pk_shownAt b_Pk_shownAt 1 (some (.int)) :: hv_ws) 2 40 [.ref a0] σ σ (some (.int r)) := by
  refine hv_met [some (.ref a0)] (plainFor_of_name (by decide +kernel)) (by intro v hv; simp at hv; rcases hv with rfl <;> rfl) (Nat.le_of_ble_eq_true rfl) rfl ?_
  intro k X hkl hkG E
  subst hkl
  subst hkG
  unfold f_Pk_shownAt at hf
  refine hv_aload_n (pn := 1) X d_Pk_shownAt_0 ?_
  obtain ⟨_, hr1, hf⟩ := bd_E hf
  obtain ⟨v2, hv2, hf⟩ := bd_E hf
  refine hv_callV (pn := 4) X d_Pk_shownAt_1 (c_Pk_codeAt _ _ N σ a0 _ hv2) cs_Pk_28 q_2_211 rfl q_2_212 hr1 (by decide) (by decide) ⟨Nat.le_refl _, Nat.le_refl _⟩ (Nat.le_of_ble_eq_true rfl) ?_
  refine hv_bipush (pn := 6) (v := 10) X d_Pk_shownAt_4 ?_
  refine hv_iadd (pn := 7) X d_Pk_shownAt_6 ?_
  cases hf
  exact hv_iret X d_Pk_shownAt_7 E
set_option maxHeartbeats 4000000 in
set_option maxRecDepth 100000 in
theorem w_Pk_isBroken_j74 {k : mk_T} (X : hv_X k b_Pk_isBroken y_Pk_isBroken.cls 3 2 41 (some (.boolean)) y_Pk_isBroken.name) (N : Nat) (σ : ho_H) (y0 : Int32)  (r : Int32) (hf : f_Pk_isBroken_j74 k.2.1 N σ y0 = some r) (E : hv_end k σ (some (.int r))) : hv_V k σ 74 [none, none, none] [.int y0] := by
  unfold f_Pk_isBroken_j74 at hf
  obtain ⟨_, hz, hf⟩ := bd_E hf
  cases hf
  exact hv_zret X d_Pk_isBroken_74 (ho_bz_E hz) E
set_option maxHeartbeats 4000000 in
set_option maxRecDepth 100000 in
theorem w_Pk_isBroken_j69 {k : mk_T} (X : hv_X k b_Pk_isBroken y_Pk_isBroken.cls 3 2 41 (some (.boolean)) y_Pk_isBroken.name) (N : Nat) (σ : ho_H)   (r : Int32) (hf : f_Pk_isBroken_j69 k.2.1 N σ  = some r) (E : hv_end k σ (some (.int r))) : hv_V k σ 69 [none, none, none] [] := by
  unfold f_Pk_isBroken_j69 at hf
  refine hv_iconst (pn := 70) (v := 1) X d_Pk_isBroken_69 ?_
  refine hv_goto (tgt := 74) X d_Pk_isBroken_70 (by decide) ?_
  exact w_Pk_isBroken_j74 X N σ 1  _ hf E
set_option maxHeartbeats 4000000 in
set_option maxRecDepth 100000 in
theorem w_Pk_isBroken_j57 {k : mk_T} (X : hv_X k b_Pk_isBroken y_Pk_isBroken.cls 3 2 41 (some (.boolean)) y_Pk_isBroken.name) (N : Nat) (σ : ho_H) (x2 : Int32)  (r : Int32) (hf : f_Pk_isBroken_j57 k.2.1 N σ x2 = some r) (E : hv_end k σ (some (.int r))) : hv_V k σ 57 [none, none, some (.int x2)] [] := by
  unfold f_Pk_isBroken_j57 at hf
  refine hv_iload_n (pn := 58) X d_Pk_isBroken_57 ?_
  refine hv_iconst (pn := 59) (v := 1) X d_Pk_isBroken_58 ?_
  refine hv_icmp_lt (pn := 62) (tgt := 69) X d_Pk_isBroken_59 (by decide) (fun hc => ?_) (fun hc => ?_)
  · rw [if_pos hc] at hf
    refine hv_drop (i := 2) (lo' := [none, none, none]) ?_
    exact w_Pk_isBroken_j69 X N σ   _ hf E
  · rw [if_neg hc] at hf
    refine hv_iload_n (pn := 63) X d_Pk_isBroken_62 ?_
    refine hv_sipush (pn := 66) (v := 512) X d_Pk_isBroken_63 ?_
    refine hv_icmp_le (pn := 69) (tgt := 73) X d_Pk_isBroken_66 (by decide) (fun hc => ?_) (fun hc => ?_)
    · rw [if_pos hc] at hf
      refine hv_iconst (pn := 74) (v := 0) X d_Pk_isBroken_73 ?_
      refine hv_drop (i := 2) (lo' := [none, none, none]) ?_
      exact w_Pk_isBroken_j74 X N σ 0  _ hf E
    · rw [if_neg hc] at hf
      refine hv_drop (i := 2) (lo' := [none, none, none]) ?_
      exact w_Pk_isBroken_j69 X N σ   _ hf E
set_option maxHeartbeats 4000000 in
set_option maxRecDepth 100000 in
theorem w_Pk_isBroken_j43 {k : mk_T} (X : hv_X k b_Pk_isBroken y_Pk_isBroken.cls 3 2 41 (some (.boolean)) y_Pk_isBroken.name) (N : Nat) (σ : ho_H) (a0 : Nat) (x1 : Int32) (x2 : Int32)  (r : Int32) (hf : f_Pk_isBroken_j43 k.2.1 N σ a0 x1 x2 = some r) (E : hv_end k σ (some (.int r))) : hv_V k σ 43 [some (.ref a0), some (.int x1), some (.int x2)] [] := by
  unfold f_Pk_isBroken_j43 at hf
  refine hv_aload_n (pn := 44) X d_Pk_isBroken_43 ?_
  obtain ⟨_, hr9, hf⟩ := bd_E hf
  obtain ⟨v10, hv10, hf⟩ := bd_E hf
  refine hv_callV (pn := 47) X d_Pk_isBroken_44 (c_Pk_kind _ _ N σ a0 _ hv10) cs_Pk_34 q_3_156 rfl q_3_157 hr9 (by decide) (by decide) ⟨Nat.le_refl _, Nat.le_refl _⟩ (Nat.le_of_ble_eq_true rfl) ?_
  refine hv_iconst (pn := 48) (v := 1) X d_Pk_isBroken_47 ?_
  refine hv_icmp_ne (pn := 51) (tgt := 57) X d_Pk_isBroken_48 (by decide) (fun hc => ?_) (fun hc => ?_)
  · rw [if_pos hc] at hf
    refine hv_drop (i := 0) (lo' := [none, some (.int x1), some (.int x2)]) ?_
    refine hv_drop (i := 1) (lo' := [none, none, some (.int x2)]) ?_
    exact w_Pk_isBroken_j57 X N σ x2  _ hf E
  · rw [if_neg hc] at hf
    refine hv_iload_n (pn := 52) X d_Pk_isBroken_51 ?_
    refine hv_bipush (pn := 54) (v := 20) X d_Pk_isBroken_52 ?_
    refine hv_icmp_ne (pn := 57) (tgt := 69) X d_Pk_isBroken_54 (by decide) (fun hc => ?_) (fun hc => ?_)
    · rw [if_pos hc] at hf
      refine hv_drop (i := 0) (lo' := [none, some (.int x1), some (.int x2)]) ?_
      refine hv_drop (i := 1) (lo' := [none, none, some (.int x2)]) ?_
      refine hv_drop (i := 2) (lo' := [none, none, none]) ?_
      exact w_Pk_isBroken_j69 X N σ   _ hf E
    · rw [if_neg hc] at hf
      refine hv_drop (i := 0) (lo' := [none, some (.int x1), some (.int x2)]) ?_
      refine hv_drop (i := 1) (lo' := [none, none, some (.int x2)]) ?_
      exact w_Pk_isBroken_j57 X N σ x2  _ hf E
set_option maxHeartbeats 4000000 in
set_option maxRecDepth 100000 in
theorem c_Pk_isBroken (l : Launch) (G : ho_G) (N : Nat) (σ : ho_H) (a0 : Nat) (r : Int32) (hf : f_Pk_isBroken G N σ a0 = some r) : hv_C l G y_Pk_isBroken (Cond.code y_Pk_isBroken b_Pk_isBroken 3 (some (.boolean)) :: hv_ws) 2 41 [.ref a0] σ σ (some (.int r)) := by
  refine hv_met [some (.ref a0), none, none] (plainFor_of_name (by decide +kernel)) (by intro v hv; simp at hv; rcases hv with rfl <;> rfl) (Nat.le_of_ble_eq_true rfl) rfl ?_
  intro k X hkl hkG E
  subst hkl
  subst hkG
  unfold f_Pk_isBroken at hf
  refine hv_aload_n (pn := 1) X d_Pk_isBroken_0 ?_
  obtain ⟨_, hr1, hf⟩ := bd_E hf
  obtain ⟨v2, hv2, hf⟩ := bd_E hf
  refine hv_callV (pn := 4) X d_Pk_isBroken_1 (c_Pk_size _ _ N σ a0 _ hv2) cs_Pk_24 q_2_215 rfl q_2_216 hr1 (by decide) (by decide) ⟨Nat.le_refl _, Nat.le_refl _⟩ (Nat.le_of_ble_eq_true rfl) ?_
  refine hv_istore_n (pn := 5) (i := 1) (lo' := [some (.ref a0), some (.int v2), none]) X d_Pk_isBroken_4 ?_
  refine hv_aload_n (pn := 6) X d_Pk_isBroken_5 ?_
  obtain ⟨_, hr3, hf⟩ := bd_E hf
  obtain ⟨v4, hv4, hf⟩ := bd_E hf
  refine hv_callV (pn := 9) X d_Pk_isBroken_6 (c_Pk_interval _ _ N σ a0 _ hv4) cs_Pk_31 q_2_195 rfl q_2_196 hr3 (by decide) (by decide) ⟨Nat.le_refl _, Nat.le_refl _⟩ (Nat.le_of_ble_eq_true rfl) ?_
  refine hv_istore_n (pn := 10) (i := 2) (lo' := [some (.ref a0), some (.int v2), some (.int v4)]) X d_Pk_isBroken_9 ?_
  refine hv_aload_n (pn := 11) X d_Pk_isBroken_10 ?_
  obtain ⟨b5, hb5, hf⟩ := bd_E hf
  refine hv_getR (pn := 14) X d_Pk_isBroken_11 fa_Pk_11 hb5 ?_
  obtain ⟨v6, hv6, hf⟩ := bd_E hf
  refine hv_alenI (pn := 15) X d_Pk_isBroken_14 hv6 ?_
  refine hv_bipush (pn := 17) (v := 36) X d_Pk_isBroken_15 ?_
  refine hv_iload_n (pn := 18) X d_Pk_isBroken_17 ?_
  refine hv_iadd (pn := 19) X d_Pk_isBroken_18 ?_
  refine hv_icmp_ne (pn := 22) (tgt := 69) X d_Pk_isBroken_19 (by decide) (fun hc => ?_) (fun hc => ?_)
  · rw [if_pos hc] at hf
    refine hv_drop (i := 0) (lo' := [none, some (.int v2), some (.int v4)]) ?_
    refine hv_drop (i := 1) (lo' := [none, none, some (.int v4)]) ?_
    refine hv_drop (i := 2) (lo' := [none, none, none]) ?_
    exact w_Pk_isBroken_j69 X N σ   _ hf E
  · rw [if_neg hc] at hf
    refine hv_iload_n (pn := 23) X d_Pk_isBroken_22 ?_
    refine hv_bipush (pn := 25) (v := 32) X d_Pk_isBroken_23 ?_
    refine hv_icmp_gt (pn := 28) (tgt := 69) X d_Pk_isBroken_25 (by decide) (fun hc => ?_) (fun hc => ?_)
    · rw [if_pos hc] at hf
      refine hv_drop (i := 0) (lo' := [none, some (.int v2), some (.int v4)]) ?_
      refine hv_drop (i := 1) (lo' := [none, none, some (.int v4)]) ?_
      refine hv_drop (i := 2) (lo' := [none, none, none]) ?_
      exact w_Pk_isBroken_j69 X N σ   _ hf E
    · rw [if_neg hc] at hf
      refine hv_aload_n (pn := 29) X d_Pk_isBroken_28 ?_
      obtain ⟨_, hr7, hf⟩ := bd_E hf
      obtain ⟨v8, hv8, hf⟩ := bd_E hf
      refine hv_callV (pn := 32) X d_Pk_isBroken_29 (c_Pk_kind _ _ N σ a0 _ hv8) cs_Pk_34 q_3_156 rfl q_3_157 hr7 (by decide) (by decide) ⟨Nat.le_refl _, Nat.le_refl _⟩ (Nat.le_of_ble_eq_true rfl) ?_
      refine hv_if_eq (pn := 35) (tgt := 43) X d_Pk_isBroken_32 (by decide) (fun hc => ?_) (fun hc => ?_)
      · rw [if_pos hc] at hf
        exact w_Pk_isBroken_j43 X N σ a0 v2 v4  _ hf E
      · rw [if_neg hc] at hf
        refine hv_aload_n (pn := 36) X d_Pk_isBroken_35 ?_
        obtain ⟨_, hr11, hf⟩ := bd_E hf
        obtain ⟨v12, hv12, hf⟩ := bd_E hf
        refine hv_callV (pn := 39) X d_Pk_isBroken_36 (c_Pk_kind _ _ N σ a0 _ hv12) cs_Pk_34 q_3_156 rfl q_3_157 hr11 (by decide) (by decide) ⟨Nat.le_refl _, Nat.le_refl _⟩ (Nat.le_of_ble_eq_true rfl) ?_
        refine hv_iconst (pn := 40) (v := 1) X d_Pk_isBroken_39 ?_
        refine hv_icmp_ne (pn := 43) (tgt := 69) X d_Pk_isBroken_40 (by decide) (fun hc => ?_) (fun hc => ?_)
        · rw [if_pos hc] at hf
          refine hv_drop (i := 0) (lo' := [none, some (.int v2), some (.int v4)]) ?_
          refine hv_drop (i := 1) (lo' := [none, none, some (.int v4)]) ?_
          refine hv_drop (i := 2) (lo' := [none, none, none]) ?_
          exact w_Pk_isBroken_j69 X N σ   _ hf E
        · rw [if_neg hc] at hf
          exact w_Pk_isBroken_j43 X N σ a0 v2 v4  _ hf E
set_option maxHeartbeats 4000000 in
set_option maxRecDepth 100000 in
theorem w_Pk_writeCode_l2 {k : mk_T} (X : hv_X k b_Pk_writeCode y_Pk_writeCode.cls 3 2 40 none y_Pk_writeCode.name) (N : Nat) (a0 : Nat) (a1 : Nat) (σ : ho_H) (x2 : Int32) (r : (ho_H × Int32) ⊕ (ho_H)) (hf : f_Pk_writeCode_l2 k.2.1 N a0 a1 (σ, x2) = some r) (E : sm (fun s => hv_V k s.1 2 [some (.ref a0), some (.ref a1), some (.int s.2)] []) (fun s => hv_V k s 30 [none, none, none] []) r) : hv_V k σ 2 [some (.ref a0), some (.ref a1), some (.int x2)] [] := by
  unfold f_Pk_writeCode_l2 at hf
  try dsimp only at hf
  refine hv_iload_n (pn := 3) X d_Pk_writeCode_2 ?_
  refine hv_bipush (pn := 5) (v := 10) X d_Pk_writeCode_3 ?_
  refine hv_icmp_ge (pn := 8) (tgt := 30) X d_Pk_writeCode_5 (by decide) (fun hc => ?_) (fun hc => ?_)
  · rw [if_pos hc] at hf
    refine hv_drop (i := 0) (lo' := [none, some (.ref a1), some (.int x2)]) ?_
    refine hv_drop (i := 1) (lo' := [none, none, some (.int x2)]) ?_
    refine hv_drop (i := 2) (lo' := [none, none, none]) ?_
    cases hf
    exact E
  · rw [if_neg hc] at hf
    refine hv_aload_n (pn := 9) X d_Pk_writeCode_8 ?_
    obtain ⟨b1, hb1, hf⟩ := bd_E hf
    refine hv_getR (pn := 12) X d_Pk_writeCode_9 fa_Pk_11 hb1 ?_
    refine hv_aload_n (pn := 13) X d_Pk_writeCode_12 ?_
    obtain ⟨_, hr2, hf⟩ := bd_E hf
    obtain ⟨v3, hv3, hf⟩ := bd_E hf
    refine hv_callV (pn := 16) X d_Pk_writeCode_13 (c_Pk_codeAt _ _ N σ a0 _ hv3) cs_Pk_28 q_2_211 rfl q_2_212 hr2 (by decide) (by decide) ⟨Nat.le_refl _, Nat.le_refl _⟩ (Nat.le_of_ble_eq_true rfl) ?_
    refine hv_iload_n (pn := 17) X d_Pk_writeCode_16 ?_
    refine hv_iadd (pn := 18) X d_Pk_writeCode_17 ?_
    refine hv_aload_n (pn := 19) X d_Pk_writeCode_18 ?_
    refine hv_iload_n (pn := 20) X d_Pk_writeCode_19 ?_
    obtain ⟨v4, hv4, hf⟩ := bd_E hf
    refine hv_callS (pn := 23) X d_Pk_writeCode_20 (c_Of_byteOf _ _ N σ a1 x2 _ hv4) cs_Pk_37 q_2_147 (by decide) (by decide) ⟨Nat.le_refl _, Nat.le_refl _⟩ (Nat.le_of_ble_eq_true rfl) ?_
    obtain ⟨σ5, hσ5, hf⟩ := bd_E hf
    refine hv_iast (pn := 24) X d_Pk_writeCode_23 hσ5 ?_
    refine hv_iinc (pn := 27) (i := 2) (v := x2 + 1) (lo' := [some (.ref a0), some (.ref a1), some (.int (x2 + 1))]) X d_Pk_writeCode_24 ?_
    refine hv_goto (tgt := 2) X d_Pk_writeCode_27 (by decide) ?_
    cases hf
    exact E
set_option maxHeartbeats 4000000 in
set_option maxRecDepth 100000 in
theorem c_Pk_writeCode (l : Launch) (G : ho_G) (N : Nat) (σ : ho_H) (a0 : Nat) (a1 : Nat) (σ' : ho_H) (hf : f_Pk_writeCode G N σ a0 a1 = some σ') : hv_C l G y_Pk_writeCode (Cond.code y_Pk_writeCode b_Pk_writeCode 3 none :: hv_ws) 2 40 [.ref a0, .ref a1] σ σ' (none) := by
  refine hv_met [some (.ref a0), some (.ref a1), none] (plainFor_of_name (by decide +kernel)) (by intro v hv; simp at hv; rcases hv with rfl | rfl <;> rfl) (Nat.le_of_ble_eq_true rfl) rfl ?_
  intro k X hkl hkG E
  subst hkl
  subst hkG
  unfold f_Pk_writeCode at hf
  refine hv_iconst (pn := 1) (v := 0) X d_Pk_writeCode_0 ?_
  refine hv_istore_n (pn := 2) (i := 2) (lo' := [some (.ref a0), some (.ref a1), some (.int 0)]) X d_Pk_writeCode_1 ?_
  obtain ⟨σ6, he8, hf⟩ := bd_E hf
  refine hv_loop (P := fun s => hv_V k s.1 2 [some (.ref a0), some (.ref a1), some (.int s.2)] []) (Z := fun s => hv_V k s 30 [none, none, none] []) (fun s r h1 h2 => by obtain ⟨σ, x2⟩ := s; exact w_Pk_writeCode_l2 X N a0 a1 σ x2 r h1 h2) N (σ, 0) _ he8 ?_
  try dsimp only at hf ⊢
  cases hf
  exact hv_vret X d_Pk_writeCode_30 E
set_option maxHeartbeats 4000000 in
set_option maxRecDepth 100000 in
theorem w_Pk_hasCode_l2 {k : mk_T} (X : hv_X k b_Pk_hasCode y_Pk_hasCode.cls 3 2 40 (some (.boolean)) y_Pk_hasCode.name) (N : Nat) (σ : ho_H) (a0 : Nat) (a1 : Nat) (x2 : Int32) (r : (Int32) ⊕ ((Unit) ⊕ (Int32))) (hf : f_Pk_hasCode_l2 k.2.1 N σ a0 a1 x2 = some r) (E : sm (fun s => hv_V k σ 2 [some (.ref a0), some (.ref a1), some (.int s)] []) (sm (fun s => hv_V k σ 35 [none, none, none] []) (fun z => hv_end k σ (some (.int z)))) r) : hv_V k σ 2 [some (.ref a0), some (.ref a1), some (.int x2)] [] := by
  unfold f_Pk_hasCode_l2 at hf
  try dsimp only at hf
  refine hv_iload_n (pn := 3) X d_Pk_hasCode_2 ?_
  refine hv_bipush (pn := 5) (v := 10) X d_Pk_hasCode_3 ?_
  refine hv_icmp_ge (pn := 8) (tgt := 35) X d_Pk_hasCode_5 (by decide) (fun hc => ?_) (fun hc => ?_)
  · rw [if_pos hc] at hf
    refine hv_drop (i := 0) (lo' := [none, some (.ref a1), some (.int x2)]) ?_
    refine hv_drop (i := 1) (lo' := [none, none, some (.int x2)]) ?_
    refine hv_drop (i := 2) (lo' := [none, none, none]) ?_
    cases hf
    exact E
  · rw [if_neg hc] at hf
    refine hv_aload_n (pn := 9) X d_Pk_hasCode_8 ?_
    obtain ⟨b1, hb1, hf⟩ := bd_E hf
    refine hv_getR (pn := 12) X d_Pk_hasCode_9 fa_Pk_11 hb1 ?_
    refine hv_aload_n (pn := 13) X d_Pk_hasCode_12 ?_
    obtain ⟨_, hr2, hf⟩ := bd_E hf
    obtain ⟨v3, hv3, hf⟩ := bd_E hf
    refine hv_callV (pn := 16) X d_Pk_hasCode_13 (c_Pk_codeAt _ _ N σ a0 _ hv3) cs_Pk_28 q_2_211 rfl q_2_212 hr2 (by decide) (by decide) ⟨Nat.le_refl _, Nat.le_refl _⟩ (Nat.le_of_ble_eq_true rfl) ?_
    refine hv_iload_n (pn := 17) X d_Pk_hasCode_16 ?_
    refine hv_iadd (pn := 18) X d_Pk_hasCode_17 ?_
    obtain ⟨v4, hv4, hf⟩ := bd_E hf
    refine hv_iald (pn := 19) X d_Pk_hasCode_18 hv4 ?_
    refine hv_aload_n (pn := 20) X d_Pk_hasCode_19 ?_
    refine hv_iload_n (pn := 21) X d_Pk_hasCode_20 ?_
    obtain ⟨v5, hv5, hf⟩ := bd_E hf
    refine hv_callS (pn := 24) X d_Pk_hasCode_21 (c_Of_byteOf _ _ N σ a1 x2 _ hv5) cs_Pk_37 q_2_147 (by decide) (by decide) ⟨Nat.le_refl _, Nat.le_refl _⟩ (Nat.le_of_ble_eq_true rfl) ?_
    refine hv_icmp_eq (pn := 27) (tgt := 29) X d_Pk_hasCode_24 (by decide) (fun hc => ?_) (fun hc => ?_)
    · rw [if_pos hc] at hf
      refine hv_iinc (pn := 32) (i := 2) (v := x2 + 1) (lo' := [some (.ref a0), some (.ref a1), some (.int (x2 + 1))]) X d_Pk_hasCode_29 ?_
      refine hv_goto (tgt := 2) X d_Pk_hasCode_32 (by decide) ?_
      cases hf
      exact E
    · rw [if_neg hc] at hf
      refine hv_iconst (pn := 28) (v := 0) X d_Pk_hasCode_27 ?_
      cases hf
      exact hv_zret X d_Pk_hasCode_28 (by decide) E
set_option maxHeartbeats 4000000 in
set_option maxRecDepth 100000 in
theorem c_Pk_hasCode (l : Launch) (G : ho_G) (N : Nat) (σ : ho_H) (a0 : Nat) (a1 : Nat) (r : Int32) (hf : f_Pk_hasCode G N σ a0 a1 = some r) : hv_C l G y_Pk_hasCode (Cond.code y_Pk_hasCode b_Pk_hasCode 3 (some (.boolean)) :: hv_ws) 2 40 [.ref a0, .ref a1] σ σ (some (.int r)) := by
  refine hv_met [some (.ref a0), some (.ref a1), none] (plainFor_of_name (by decide +kernel)) (by intro v hv; simp at hv; rcases hv with rfl | rfl <;> rfl) (Nat.le_of_ble_eq_true rfl) rfl ?_
  intro k X hkl hkG E
  subst hkl
  subst hkG
  unfold f_Pk_hasCode at hf
  refine hv_iconst (pn := 1) (v := 0) X d_Pk_hasCode_0 ?_
  refine hv_istore_n (pn := 2) (i := 2) (lo' := [some (.ref a0), some (.ref a1), some (.int 0)]) X d_Pk_hasCode_1 ?_
  obtain ⟨e6, he7, hf⟩ := bd_E hf
  refine hv_loop (P := fun s => hv_V k σ 2 [some (.ref a0), some (.ref a1), some (.int s)] []) (Z := sm (fun s => hv_V k σ 35 [none, none, none] []) (fun z => hv_end k σ (some (.int z)))) (fun s r h1 h2 => by exact w_Pk_hasCode_l2 X N σ a0 a1 s r h1 h2) N 0 e6 he7 ?_
  rcases e6 with _ | z
  · try dsimp only [sm, sm_e] at hf ⊢
    refine hv_iconst (pn := 36) (v := 1) X d_Pk_hasCode_35 ?_
    cases hf
    exact hv_zret X d_Pk_hasCode_36 (by decide) E
  · cases (show some _ = some _ from hf); exact E
set_option maxHeartbeats 4000000 in
set_option maxRecDepth 100000 in
theorem w_Pk_isTwinOf_l15 {k : mk_T} (X : hv_X k b_Pk_isTwinOf y_Pk_isTwinOf.cls 3 2 41 (some (.boolean)) y_Pk_isTwinOf.name) (N : Nat) (σ : ho_H) (a0 : Nat) (a1 : Nat) (x2 : Int32) (r : (Int32) ⊕ ((Unit) ⊕ (Int32))) (hf : f_Pk_isTwinOf_l15 k.2.1 N σ a0 a1 x2 = some r) (E : sm (fun s => hv_V k σ 15 [some (.ref a0), some (.ref a1), some (.int s)] []) (sm (fun s => hv_V k σ 54 [none, none, none] []) (fun z => hv_end k σ (some (.int z)))) r) : hv_V k σ 15 [some (.ref a0), some (.ref a1), some (.int x2)] [] := by
  unfold f_Pk_isTwinOf_l15 at hf
  try dsimp only at hf
  refine hv_iload_n (pn := 16) X d_Pk_isTwinOf_15 ?_
  refine hv_bipush (pn := 18) (v := 10) X d_Pk_isTwinOf_16 ?_
  refine hv_icmp_ge (pn := 21) (tgt := 54) X d_Pk_isTwinOf_18 (by decide) (fun hc => ?_) (fun hc => ?_)
  · rw [if_pos hc] at hf
    refine hv_drop (i := 0) (lo' := [none, some (.ref a1), some (.int x2)]) ?_
    refine hv_drop (i := 1) (lo' := [none, none, some (.int x2)]) ?_
    refine hv_drop (i := 2) (lo' := [none, none, none]) ?_
    cases hf
    exact E
  · rw [if_neg hc] at hf
    refine hv_aload_n (pn := 22) X d_Pk_isTwinOf_21 ?_
    obtain ⟨b5, hb5, hf⟩ := bd_E hf
    refine hv_getR (pn := 25) X d_Pk_isTwinOf_22 fa_Pk_11 hb5 ?_
    refine hv_aload_n (pn := 26) X d_Pk_isTwinOf_25 ?_
    obtain ⟨_, hr6, hf⟩ := bd_E hf
    obtain ⟨v7, hv7, hf⟩ := bd_E hf
    refine hv_callV (pn := 29) X d_Pk_isTwinOf_26 (c_Pk_codeAt _ _ N σ a0 _ hv7) cs_Pk_28 q_2_211 rfl q_2_212 hr6 (by decide) (by decide) ⟨Nat.le_refl _, Nat.le_refl _⟩ (Nat.le_of_ble_eq_true rfl) ?_
    refine hv_iload_n (pn := 30) X d_Pk_isTwinOf_29 ?_
    refine hv_iadd (pn := 31) X d_Pk_isTwinOf_30 ?_
    obtain ⟨v8, hv8, hf⟩ := bd_E hf
    refine hv_iald (pn := 32) X d_Pk_isTwinOf_31 hv8 ?_
    refine hv_aload_n (pn := 33) X d_Pk_isTwinOf_32 ?_
    obtain ⟨b9, hb9, hf⟩ := bd_E hf
    refine hv_getR (pn := 36) X d_Pk_isTwinOf_33 fa_Pk_11 hb9 ?_
    refine hv_aload_n (pn := 37) X d_Pk_isTwinOf_36 ?_
    obtain ⟨_, hr10, hf⟩ := bd_E hf
    obtain ⟨v11, hv11, hf⟩ := bd_E hf
    refine hv_callV (pn := 40) X d_Pk_isTwinOf_37 (c_Pk_codeAt _ _ N σ a1 _ hv11) cs_Pk_28 q_2_211 rfl q_2_212 hr10 (by decide) (by decide) ⟨Nat.le_refl _, Nat.le_refl _⟩ (Nat.le_of_ble_eq_true rfl) ?_
    refine hv_iload_n (pn := 41) X d_Pk_isTwinOf_40 ?_
    refine hv_iadd (pn := 42) X d_Pk_isTwinOf_41 ?_
    obtain ⟨v12, hv12, hf⟩ := bd_E hf
    refine hv_iald (pn := 43) X d_Pk_isTwinOf_42 hv12 ?_
    refine hv_icmp_eq (pn := 46) (tgt := 48) X d_Pk_isTwinOf_43 (by decide) (fun hc => ?_) (fun hc => ?_)
    · rw [if_pos hc] at hf
      refine hv_iinc (pn := 51) (i := 2) (v := x2 + 1) (lo' := [some (.ref a0), some (.ref a1), some (.int (x2 + 1))]) X d_Pk_isTwinOf_48 ?_
      refine hv_goto (tgt := 15) X d_Pk_isTwinOf_51 (by decide) ?_
      cases hf
      exact E
    · rw [if_neg hc] at hf
      refine hv_iconst (pn := 47) (v := 0) X d_Pk_isTwinOf_46 ?_
      cases hf
      exact hv_zret X d_Pk_isTwinOf_47 (by decide) E
set_option maxHeartbeats 4000000 in
set_option maxRecDepth 100000 in
theorem c_Pk_isTwinOf (l : Launch) (G : ho_G) (N : Nat) (σ : ho_H) (a0 : Nat) (a1 : Nat) (r : Int32) (hf : f_Pk_isTwinOf G N σ a0 a1 = some r) : hv_C l G y_Pk_isTwinOf (Cond.code y_Pk_isTwinOf b_Pk_isTwinOf 3 (some (.boolean)) :: hv_ws) 2 41 [.ref a0, .ref a1] σ σ (some (.int r)) := by
  refine hv_met [some (.ref a0), some (.ref a1), none] (plainFor_of_name (by decide +kernel)) (by intro v hv; simp at hv; rcases hv with rfl | rfl <;> rfl) (Nat.le_of_ble_eq_true rfl) rfl ?_
  intro k X hkl hkG E
  subst hkl
  subst hkG
  unfold f_Pk_isTwinOf at hf
  refine hv_aload_n (pn := 1) X d_Pk_isTwinOf_0 ?_
  obtain ⟨_, hr1, hf⟩ := bd_E hf
  obtain ⟨v2, hv2, hf⟩ := bd_E hf
  refine hv_callV (pn := 4) X d_Pk_isTwinOf_1 (c_Pk_interval _ _ N σ a0 _ hv2) cs_Pk_31 q_2_195 rfl q_2_196 hr1 (by decide) (by decide) ⟨Nat.le_refl _, Nat.le_refl _⟩ (Nat.le_of_ble_eq_true rfl) ?_
  refine hv_aload_n (pn := 5) X d_Pk_isTwinOf_4 ?_
  obtain ⟨_, hr3, hf⟩ := bd_E hf
  obtain ⟨v4, hv4, hf⟩ := bd_E hf
  refine hv_callV (pn := 8) X d_Pk_isTwinOf_5 (c_Pk_interval _ _ N σ a1 _ hv4) cs_Pk_31 q_2_195 rfl q_2_196 hr3 (by decide) (by decide) ⟨Nat.le_refl _, Nat.le_refl _⟩ (Nat.le_of_ble_eq_true rfl) ?_
  refine hv_icmp_eq (pn := 11) (tgt := 13) X d_Pk_isTwinOf_8 (by decide) (fun hc => ?_) (fun hc => ?_)
  · rw [if_pos hc] at hf
    refine hv_iconst (pn := 14) (v := 0) X d_Pk_isTwinOf_13 ?_
    refine hv_istore_n (pn := 15) (i := 2) (lo' := [some (.ref a0), some (.ref a1), some (.int 0)]) X d_Pk_isTwinOf_14 ?_
    obtain ⟨e13, he14, hf⟩ := bd_E hf
    refine hv_loop (P := fun s => hv_V k σ 15 [some (.ref a0), some (.ref a1), some (.int s)] []) (Z := sm (fun s => hv_V k σ 54 [none, none, none] []) (fun z => hv_end k σ (some (.int z)))) (fun s r h1 h2 => by exact w_Pk_isTwinOf_l15 X N σ a0 a1 s r h1 h2) N 0 e13 he14 ?_
    rcases e13 with _ | z
    · try dsimp only [sm, sm_e] at hf ⊢
      refine hv_iconst (pn := 55) (v := 1) X d_Pk_isTwinOf_54 ?_
      cases hf
      exact hv_zret X d_Pk_isTwinOf_55 (by decide) E
    · cases (show some _ = some _ from hf); exact E
  · rw [if_neg hc] at hf
    refine hv_iconst (pn := 12) (v := 0) X d_Pk_isTwinOf_11 ?_
    cases hf
    exact hv_zret X d_Pk_isTwinOf_12 (by decide) E
set_option maxHeartbeats 4000000 in
set_option maxRecDepth 100000 in
theorem w_Kc_isKnown_j13 {k : mk_T} (X : hv_X k b_Kc_isKnown y_Kc_isKnown.cls 1 0 0 (some (.boolean)) y_Kc_isKnown.name) (N : Nat) (σ : ho_H) (y0 : Int32)  (r : Int32) (hf : f_Kc_isKnown_j13 k.2.1 N σ y0 = some r) (E : hv_end k σ (some (.int r))) : hv_V k σ 13 [none] [.int y0] := by
  unfold f_Kc_isKnown_j13 at hf
  obtain ⟨_, hz, hf⟩ := bd_E hf
  cases hf
  exact hv_zret X d_Kc_isKnown_13 (ho_bz_E hz) E
set_option maxHeartbeats 4000000 in
set_option maxRecDepth 100000 in
theorem c_Kc_isKnown (l : Launch) (G : ho_G) (N : Nat) (σ : ho_H) (a0 : Nat) (r : Int32) (hf : f_Kc_isKnown G N σ a0 = some r) : hv_C l G y_Kc_isKnown (Cond.code y_Kc_isKnown b_Kc_isKnown 1 (some (.boolean)) :: hv_ws) 0 0 [.ref a0] σ σ (some (.int r)) := by
  refine hv_met [some (.ref a0)] (plainFor_of_name (by decide +kernel)) (by intro v hv; simp at hv; rcases hv with rfl <;> rfl) (Nat.le_of_ble_eq_true rfl) rfl ?_
  intro k X hkl hkG E
  subst hkl
  subst hkG
  unfold f_Kc_isKnown at hf
  refine hv_aload_n (pn := 1) X d_Kc_isKnown_0 ?_
  obtain ⟨v1, hv1, hf⟩ := bd_E hf
  refine hv_getI (pn := 4) X d_Kc_isKnown_1 fa_Kc_19 hv1 ?_
  refine hv_iconst (pn := 5) (v := (-1)) X d_Kc_isKnown_4 ?_
  refine hv_icmp_eq (pn := 8) (tgt := 12) X d_Kc_isKnown_5 (by decide) (fun hc => ?_) (fun hc => ?_)
  · rw [if_pos hc] at hf
    refine hv_iconst (pn := 13) (v := 0) X d_Kc_isKnown_12 ?_
    refine hv_drop (i := 0) (lo' := [none]) ?_
    exact w_Kc_isKnown_j13 X N σ 0  _ hf E
  · rw [if_neg hc] at hf
    refine hv_iconst (pn := 9) (v := 1) X d_Kc_isKnown_8 ?_
    refine hv_goto (tgt := 13) X d_Kc_isKnown_9 (by decide) ?_
    refine hv_drop (i := 0) (lo' := [none]) ?_
    exact w_Kc_isKnown_j13 X N σ 1  _ hf E
set_option maxHeartbeats 4000000 in
set_option maxRecDepth 100000 in
theorem c_Kc_forget (l : Launch) (G : ho_G) (N : Nat) (σ : ho_H) (a0 : Nat) (σ' : ho_H) (hf : f_Kc_forget G N σ a0 = some σ') : hv_C l G y_Kc_forget (Cond.code y_Kc_forget b_Kc_forget 1 none :: hv_ws) 0 0 [.ref a0] σ σ' (none) := by
  refine hv_met [some (.ref a0)] (plainFor_of_name (by decide +kernel)) (by intro v hv; simp at hv; rcases hv with rfl <;> rfl) (Nat.le_of_ble_eq_true rfl) rfl ?_
  intro k X hkl hkG E
  subst hkl
  subst hkG
  unfold f_Kc_forget at hf
  refine hv_aload_n (pn := 1) X d_Kc_forget_0 ?_
  refine hv_iconst (pn := 2) (v := (-1)) X d_Kc_forget_1 ?_
  obtain ⟨σ1, hσ1, hf⟩ := bd_E hf
  refine hv_put (pn := 5) X d_Kc_forget_2 fp_Kc_15 hσ1 ?_
  refine hv_aload_n (pn := 6) X d_Kc_forget_5 ?_
  refine hv_iconst (pn := 7) (v := (-1)) X d_Kc_forget_6 ?_
  obtain ⟨σ2, hσ2, hf⟩ := bd_E hf
  refine hv_put (pn := 10) X d_Kc_forget_7 fp_Kc_19 hσ2 ?_
  cases hf
  exact hv_vret X d_Kc_forget_10 E
set_option maxHeartbeats 4000000 in
set_option maxRecDepth 100000 in
theorem c_Kc_putTopKey (l : Launch) (G : ho_G) (N : Nat) (σ : ho_H) (a0 : Nat) (x1 : Int32) (x2 : Int32) (x3 : Int32) (x4 : Int32) (x5 : Int32) (σ' : ho_H) (hf : f_Kc_putTopKey G N σ a0 x1 x2 x3 x4 x5 = some σ') : hv_C l G y_Kc_putTopKey (Cond.code y_Kc_putTopKey b_Kc_putTopKey 7 none :: hv_ws) 0 0 [.ref a0, .int x1, .int x2, .int x3, .int x4, .int x5] σ σ' (none) := by
  refine hv_met [some (.ref a0), some (.int x1), some (.int x2), some (.int x3), some (.int x4), some (.int x5), none] (plainFor_of_name (by decide +kernel)) (by intro v hv; simp at hv; rcases hv with rfl | rfl | rfl | rfl | rfl | rfl <;> rfl) (Nat.le_of_ble_eq_true rfl) rfl ?_
  intro k X hkl hkG E
  subst hkl
  subst hkG
  unfold f_Kc_putTopKey at hf
  refine hv_sipush (pn := 3) (v := 320) X d_Kc_putTopKey_0 ?_
  refine hv_istore (pn := 5) (i := 6) (lo' := [some (.ref a0), some (.int x1), some (.int x2), some (.int x3), some (.int x4), some (.int x5), some (.int 320)]) X d_Kc_putTopKey_3 ?_
  refine hv_aload_n (pn := 6) X d_Kc_putTopKey_5 ?_
  obtain ⟨b1, hb1, hf⟩ := bd_E hf
  refine hv_getR (pn := 9) X d_Kc_putTopKey_6 fa_Kc_9 hb1 ?_
  refine hv_iload (pn := 11) X d_Kc_putTopKey_9 ?_
  refine hv_iload_n (pn := 12) X d_Kc_putTopKey_11 ?_
  obtain ⟨σ2, hσ2, hf⟩ := bd_E hf
  refine hv_iast (pn := 13) X d_Kc_putTopKey_12 hσ2 ?_
  refine hv_aload_n (pn := 14) X d_Kc_putTopKey_13 ?_
  obtain ⟨b3, hb3, hf⟩ := bd_E hf
  refine hv_getR (pn := 17) X d_Kc_putTopKey_14 fa_Kc_9 hb3 ?_
  refine hv_iload (pn := 19) X d_Kc_putTopKey_17 ?_
  refine hv_iconst (pn := 20) (v := 1) X d_Kc_putTopKey_19 ?_
  refine hv_iadd (pn := 21) X d_Kc_putTopKey_20 ?_
  refine hv_iload_n (pn := 22) X d_Kc_putTopKey_21 ?_
  obtain ⟨σ4, hσ4, hf⟩ := bd_E hf
  refine hv_iast (pn := 23) X d_Kc_putTopKey_22 hσ4 ?_
  refine hv_aload_n (pn := 24) X d_Kc_putTopKey_23 ?_
  obtain ⟨b5, hb5, hf⟩ := bd_E hf
  refine hv_getR (pn := 27) X d_Kc_putTopKey_24 fa_Kc_9 hb5 ?_
  refine hv_iload (pn := 29) X d_Kc_putTopKey_27 ?_
  refine hv_iconst (pn := 30) (v := 2) X d_Kc_putTopKey_29 ?_
  refine hv_iadd (pn := 31) X d_Kc_putTopKey_30 ?_
  refine hv_iload_n (pn := 32) X d_Kc_putTopKey_31 ?_
  obtain ⟨σ6, hσ6, hf⟩ := bd_E hf
  refine hv_iast (pn := 33) X d_Kc_putTopKey_32 hσ6 ?_
  refine hv_aload_n (pn := 34) X d_Kc_putTopKey_33 ?_
  obtain ⟨b7, hb7, hf⟩ := bd_E hf
  refine hv_getR (pn := 37) X d_Kc_putTopKey_34 fa_Kc_9 hb7 ?_
  refine hv_iload (pn := 39) X d_Kc_putTopKey_37 ?_
  refine hv_iconst (pn := 40) (v := 3) X d_Kc_putTopKey_39 ?_
  refine hv_iadd (pn := 41) X d_Kc_putTopKey_40 ?_
  refine hv_iload (pn := 43) X d_Kc_putTopKey_41 ?_
  obtain ⟨σ8, hσ8, hf⟩ := bd_E hf
  refine hv_iast (pn := 44) X d_Kc_putTopKey_43 hσ8 ?_
  refine hv_aload_n (pn := 45) X d_Kc_putTopKey_44 ?_
  obtain ⟨b9, hb9, hf⟩ := bd_E hf
  refine hv_getR (pn := 48) X d_Kc_putTopKey_45 fa_Kc_9 hb9 ?_
  refine hv_iload (pn := 50) X d_Kc_putTopKey_48 ?_
  refine hv_iconst (pn := 51) (v := 4) X d_Kc_putTopKey_50 ?_
  refine hv_iadd (pn := 52) X d_Kc_putTopKey_51 ?_
  refine hv_iload (pn := 54) X d_Kc_putTopKey_52 ?_
  obtain ⟨σ10, hσ10, hf⟩ := bd_E hf
  refine hv_iast (pn := 55) X d_Kc_putTopKey_54 hσ10 ?_
  cases hf
  exact hv_vret X d_Kc_putTopKey_55 E
set_option maxHeartbeats 4000000 in
set_option maxRecDepth 100000 in
theorem w_Kc_fillDown_l3 {k : mk_T} (X : hv_X k b_Kc_fillDown y_Kc_fillDown.cls 5 4 135 none y_Kc_fillDown.name) (N : Nat) (a0 : Nat) (x2 : Int32) (a3 : Nat) (σ : ho_H) (x4 : Int32) (r : (ho_H × Int32) ⊕ (ho_H)) (hf : f_Kc_fillDown_l3 k.2.1 N a0 x2 a3 (σ, x4) = some r) (E : sm (fun s => hv_V k s.1 3 [some (.ref a0), none, some (.int x2), some (.ref a3), some (.int s.2)] []) (fun s => hv_V k s 54 [none, none, none, none, none] []) r) : hv_V k σ 3 [some (.ref a0), none, some (.int x2), some (.ref a3), some (.int x4)] [] := by
  unfold f_Kc_fillDown_l3 at hf
  try dsimp only at hf
  refine hv_iload (pn := 5) X d_Kc_fillDown_3 ?_
  refine hv_iload_n (pn := 6) X d_Kc_fillDown_5 ?_
  refine hv_icmp_le (pn := 9) (tgt := 54) X d_Kc_fillDown_6 (by decide) (fun hc => ?_) (fun hc => ?_)
  · rw [if_pos hc] at hf
    refine hv_drop (i := 0) (lo' := [none, none, some (.int x2), some (.ref a3), some (.int x4)]) ?_
    refine hv_drop (i := 2) (lo' := [none, none, none, some (.ref a3), some (.int x4)]) ?_
    refine hv_drop (i := 3) (lo' := [none, none, none, none, some (.int x4)]) ?_
    refine hv_drop (i := 4) (lo' := [none, none, none, none, none]) ?_
    cases hf
    exact E
  · rw [if_neg hc] at hf
    refine hv_aload_n (pn := 10) X d_Kc_fillDown_9 ?_
    refine hv_aload_n (pn := 11) X d_Kc_fillDown_10 ?_
    obtain ⟨b1, hb1, hf⟩ := bd_E hf
    refine hv_getR (pn := 14) X d_Kc_fillDown_11 fa_Kc_9 hb1 ?_
    refine hv_iload (pn := 16) X d_Kc_fillDown_14 ?_
    refine hv_iconst (pn := 17) (v := 5) X d_Kc_fillDown_16 ?_
    refine hv_imul (pn := 18) X d_Kc_fillDown_17 ?_
    refine hv_iconst (pn := 19) (v := 5) X d_Kc_fillDown_18 ?_
    refine hv_gets (pn := 22) X d_Kc_fillDown_19 (i := 2) rfl q_2_48 (Or.inl rfl) ?_
    refine hv_gets (pn := 25) X d_Kc_fillDown_22 (i := 2) rfl q_2_48 (Or.inl rfl) ?_
    obtain ⟨v2, hv2, hf⟩ := bd_E hf
    refine hv_alenI (pn := 26) X d_Kc_fillDown_25 hv2 ?_
    obtain ⟨_, hr3, hf⟩ := bd_E hf
    obtain ⟨σ4, hσ4, hf⟩ := bd_E hf
    obtain ⟨hσ4, mσ4⟩ := ho_cv_E hσ4
    refine hv_callV (pn := 29) X d_Kc_fillDown_26 (c_Sl_seal _ _ N σ a3 b1 (x4 * 5) 5 (gA k.2.1 2) v2 _ hσ4) cs_Kc_25 q_2_51 rfl q_2_52 hr3 (by decide) (by decide) mσ4 (Nat.le_of_ble_eq_true rfl) ?_
    refine hv_aload_n (pn := 30) X d_Kc_fillDown_29 ?_
    obtain ⟨b5, hb5, hf⟩ := bd_E hf
    refine hv_getR (pn := 33) X d_Kc_fillDown_30 fa_Kc_31 hb5 ?_
    refine hv_iconst (pn := 34) (v := 0) X d_Kc_fillDown_33 ?_
    refine hv_aload_n (pn := 35) X d_Kc_fillDown_34 ?_
    obtain ⟨b6, hb6, hf⟩ := bd_E hf
    refine hv_getR (pn := 38) X d_Kc_fillDown_35 fa_Kc_9 hb6 ?_
    refine hv_iload (pn := 40) X d_Kc_fillDown_38 ?_
    refine hv_iconst (pn := 41) (v := 1) X d_Kc_fillDown_40 ?_
    refine hv_isub (pn := 42) X d_Kc_fillDown_41 ?_
    refine hv_iconst (pn := 43) (v := 5) X d_Kc_fillDown_42 ?_
    refine hv_imul (pn := 44) X d_Kc_fillDown_43 ?_
    refine hv_iconst (pn := 45) (v := 5) X d_Kc_fillDown_44 ?_
    obtain ⟨σ7, hσ7, hf⟩ := bd_E hf
    refine hv_cpI (pn := 48) X d_Kc_fillDown_45 q_2_90 q_2_78 q_2_77 q_1_16 hσ7 (by decide) (by decide +kernel) (Nat.le_of_ble_eq_true rfl) ?_
    refine hv_iinc (pn := 51) (i := 4) (v := x4 + (-1)) (lo' := [some (.ref a0), none, some (.int x2), some (.ref a3), some (.int (x4 + (-1)))]) X d_Kc_fillDown_48 ?_
    refine hv_goto (tgt := 3) X d_Kc_fillDown_51 (by decide) ?_
    cases hf
    exact E
set_option maxHeartbeats 4000000 in
set_option maxRecDepth 100000 in
theorem c_Kc_fillDown (l : Launch) (G : ho_G) (N : Nat) (σ : ho_H) (a0 : Nat) (x1 : Int32) (x2 : Int32) (a3 : Nat) (σ' : ho_H) (hf : f_Kc_fillDown G N σ a0 x1 x2 a3 = some σ') : hv_C l G y_Kc_fillDown (Cond.code y_Kc_fillDown b_Kc_fillDown 5 none :: hv_ws) 4 135 [.ref a0, .int x1, .int x2, .ref a3] σ σ' (none) := by
  refine hv_met [some (.ref a0), some (.int x1), some (.int x2), some (.ref a3), none] (plainFor_of_name (by decide +kernel)) (by intro v hv; simp at hv; rcases hv with rfl | rfl | rfl | rfl <;> rfl) (Nat.le_of_ble_eq_true rfl) rfl ?_
  intro k X hkl hkG E
  subst hkl
  subst hkG
  unfold f_Kc_fillDown at hf
  refine hv_iload_n (pn := 1) X d_Kc_fillDown_0 ?_
  refine hv_istore (pn := 3) (i := 4) (lo' := [some (.ref a0), some (.int x1), some (.int x2), some (.ref a3), some (.int x1)]) X d_Kc_fillDown_1 ?_
  refine hv_drop (i := 1) (lo' := [some (.ref a0), none, some (.int x2), some (.ref a3), some (.int x1)]) ?_
  obtain ⟨σ8, he10, hf⟩ := bd_E hf
  refine hv_loop (P := fun s => hv_V k s.1 3 [some (.ref a0), none, some (.int x2), some (.ref a3), some (.int s.2)] []) (Z := fun s => hv_V k s 54 [none, none, none, none, none] []) (fun s r h1 h2 => by obtain ⟨σ, x4⟩ := s; exact w_Kc_fillDown_l3 X N a0 x2 a3 σ x4 r h1 h2) N (σ, x1) _ he10 ?_
  try dsimp only at hf ⊢
  cases hf
  exact hv_vret X d_Kc_fillDown_54 E
set_option maxHeartbeats 4000000 in
set_option maxRecDepth 100000 in
theorem c_Kc_byteAt (l : Launch) (G : ho_G) (N : Nat) (σ : ho_H) (a0 : Nat) (x1 : Int32) (x2 : Int32) (r : Int32) (hf : f_Kc_byteAt G N σ a0 x1 x2 = some r) : hv_C l G y_Kc_byteAt (Cond.code y_Kc_byteAt b_Kc_byteAt 3 (some (.int)) :: hv_ws) 1 21 [.ref a0, .int x1, .int x2] σ σ (some (.int r)) := by
  refine hv_met [some (.ref a0), some (.int x1), some (.int x2)] (plainFor_of_name (by decide +kernel)) (by intro v hv; simp at hv; rcases hv with rfl | rfl | rfl <;> rfl) (Nat.le_of_ble_eq_true rfl) rfl ?_
  intro k X hkl hkG E
  subst hkl
  subst hkG
  unfold f_Kc_byteAt at hf
  refine hv_aload_n (pn := 1) X d_Kc_byteAt_0 ?_
  obtain ⟨b1, hb1, hf⟩ := bd_E hf
  refine hv_getR (pn := 4) X d_Kc_byteAt_1 fa_Kc_9 hb1 ?_
  refine hv_iload_n (pn := 5) X d_Kc_byteAt_4 ?_
  refine hv_bipush (pn := 7) (v := 20) X d_Kc_byteAt_5 ?_
  refine hv_imul (pn := 8) X d_Kc_byteAt_7 ?_
  refine hv_iload_n (pn := 9) X d_Kc_byteAt_8 ?_
  refine hv_iadd (pn := 10) X d_Kc_byteAt_9 ?_
  obtain ⟨v2, hv2, hf⟩ := bd_E hf
  refine hv_callS (pn := 13) X d_Kc_byteAt_10 (c_Of_byteOf _ _ N σ b1 ((x1 * 20) + x2) _ hv2) cs_Kc_40 q_2_147 (by decide) (by decide) ⟨Nat.le_refl _, Nat.le_refl _⟩ (Nat.le_of_ble_eq_true rfl) ?_
  cases hf
  exact hv_iret X d_Kc_byteAt_13 E
set_option maxHeartbeats 4000000 in
set_option maxRecDepth 100000 in
theorem w_Kc_writeKey_l3 {k : mk_T} (X : hv_X k b_Kc_writeKey y_Kc_writeKey.cls 5 2 43 none y_Kc_writeKey.name) (N : Nat) (a0 : Nat) (x1 : Int32) (a2 : Nat) (x3 : Int32) (σ : ho_H) (x4 : Int32) (r : (ho_H × Int32) ⊕ (ho_H)) (hf : f_Kc_writeKey_l3 k.2.1 N a0 x1 a2 x3 (σ, x4) = some r) (E : sm (fun s => hv_V k s.1 3 [some (.ref a0), some (.int x1), some (.ref a2), some (.int x3), some (.int s.2)] []) (fun s => hv_V k s 29 [none, none, none, none, none] []) r) : hv_V k σ 3 [some (.ref a0), some (.int x1), some (.ref a2), some (.int x3), some (.int x4)] [] := by
  unfold f_Kc_writeKey_l3 at hf
  try dsimp only at hf
  refine hv_iload (pn := 5) X d_Kc_writeKey_3 ?_
  refine hv_bipush (pn := 7) (v := 20) X d_Kc_writeKey_5 ?_
  refine hv_icmp_ge (pn := 10) (tgt := 29) X d_Kc_writeKey_7 (by decide) (fun hc => ?_) (fun hc => ?_)
  · rw [if_pos hc] at hf
    refine hv_drop (i := 0) (lo' := [none, some (.int x1), some (.ref a2), some (.int x3), some (.int x4)]) ?_
    refine hv_drop (i := 1) (lo' := [none, none, some (.ref a2), some (.int x3), some (.int x4)]) ?_
    refine hv_drop (i := 2) (lo' := [none, none, none, some (.int x3), some (.int x4)]) ?_
    refine hv_drop (i := 3) (lo' := [none, none, none, none, some (.int x4)]) ?_
    refine hv_drop (i := 4) (lo' := [none, none, none, none, none]) ?_
    cases hf
    exact E
  · rw [if_neg hc] at hf
    refine hv_aload_n (pn := 11) X d_Kc_writeKey_10 ?_
    refine hv_iload_n (pn := 12) X d_Kc_writeKey_11 ?_
    refine hv_iload (pn := 14) X d_Kc_writeKey_12 ?_
    refine hv_iadd (pn := 15) X d_Kc_writeKey_14 ?_
    refine hv_aload_n (pn := 16) X d_Kc_writeKey_15 ?_
    refine hv_iload_n (pn := 17) X d_Kc_writeKey_16 ?_
    refine hv_iload (pn := 19) X d_Kc_writeKey_17 ?_
    obtain ⟨_, hr1, hf⟩ := bd_E hf
    obtain ⟨v2, hv2, hf⟩ := bd_E hf
    refine hv_callV (pn := 22) X d_Kc_writeKey_19 (c_Kc_byteAt _ _ N σ a0 x1 x4 _ hv2) cs_Kc_44 q_2_233 rfl q_2_234 hr1 (by decide) (by decide) ⟨Nat.le_refl _, Nat.le_refl _⟩ (Nat.le_of_ble_eq_true rfl) ?_
    obtain ⟨σ3, hσ3, hf⟩ := bd_E hf
    refine hv_iast (pn := 23) X d_Kc_writeKey_22 hσ3 ?_
    refine hv_iinc (pn := 26) (i := 4) (v := x4 + 1) (lo' := [some (.ref a0), some (.int x1), some (.ref a2), some (.int x3), some (.int (x4 + 1))]) X d_Kc_writeKey_23 ?_
    refine hv_goto (tgt := 3) X d_Kc_writeKey_26 (by decide) ?_
    cases hf
    exact E
set_option maxHeartbeats 4000000 in
set_option maxRecDepth 100000 in
theorem c_Kc_writeKey (l : Launch) (G : ho_G) (N : Nat) (σ : ho_H) (a0 : Nat) (x1 : Int32) (a2 : Nat) (x3 : Int32) (σ' : ho_H) (hf : f_Kc_writeKey G N σ a0 x1 a2 x3 = some σ') : hv_C l G y_Kc_writeKey (Cond.code y_Kc_writeKey b_Kc_writeKey 5 none :: hv_ws) 2 43 [.ref a0, .int x1, .ref a2, .int x3] σ σ' (none) := by
  refine hv_met [some (.ref a0), some (.int x1), some (.ref a2), some (.int x3), none] (plainFor_of_name (by decide +kernel)) (by intro v hv; simp at hv; rcases hv with rfl | rfl | rfl | rfl <;> rfl) (Nat.le_of_ble_eq_true rfl) rfl ?_
  intro k X hkl hkG E
  subst hkl
  subst hkG
  unfold f_Kc_writeKey at hf
  refine hv_iconst (pn := 1) (v := 0) X d_Kc_writeKey_0 ?_
  refine hv_istore (pn := 3) (i := 4) (lo' := [some (.ref a0), some (.int x1), some (.ref a2), some (.int x3), some (.int 0)]) X d_Kc_writeKey_1 ?_
  obtain ⟨σ4, he6, hf⟩ := bd_E hf
  refine hv_loop (P := fun s => hv_V k s.1 3 [some (.ref a0), some (.int x1), some (.ref a2), some (.int x3), some (.int s.2)] []) (Z := fun s => hv_V k s 29 [none, none, none, none, none] []) (fun s r h1 h2 => by obtain ⟨σ, x4⟩ := s; exact w_Kc_writeKey_l3 X N a0 x1 a2 x3 σ x4 r h1 h2) N (σ, 0) _ he6 ?_
  try dsimp only at hf ⊢
  cases hf
  exact hv_vret X d_Kc_writeKey_29 E
set_option maxHeartbeats 4000000 in
set_option maxRecDepth 100000 in
theorem c_Kc_learnFrom (l : Launch) (G : ho_G) (N : Nat) (σ : ho_H) (a0 : Nat) (a1 : Nat) (x2 : Int32) (σ' : ho_H) (hf : f_Kc_learnFrom G N σ a0 a1 x2 = some σ') : hv_C l G y_Kc_learnFrom (Cond.code y_Kc_learnFrom b_Kc_learnFrom 3 none :: hv_ws) 1 60 [.ref a0, .ref a1, .int x2] σ σ' (none) := by
  refine hv_met [some (.ref a0), some (.ref a1), some (.int x2)] (plainFor_of_name (by decide +kernel)) (by intro v hv; simp at hv; rcases hv with rfl | rfl | rfl <;> rfl) (Nat.le_of_ble_eq_true rfl) rfl ?_
  intro k X hkl hkG E
  subst hkl
  subst hkG
  unfold f_Kc_learnFrom at hf
  refine hv_aload_n (pn := 1) X d_Kc_learnFrom_0 ?_
  obtain ⟨b1, hb1, hf⟩ := bd_E hf
  refine hv_getR (pn := 4) X d_Kc_learnFrom_1 fa_Kc_9 hb1 ?_
  refine hv_iload_n (pn := 5) X d_Kc_learnFrom_4 ?_
  refine hv_iconst (pn := 6) (v := 5) X d_Kc_learnFrom_5 ?_
  refine hv_imul (pn := 7) X d_Kc_learnFrom_6 ?_
  refine hv_aload_n (pn := 8) X d_Kc_learnFrom_7 ?_
  obtain ⟨b2, hb2, hf⟩ := bd_E hf
  refine hv_getR (pn := 11) X d_Kc_learnFrom_8 fa_Kc_9 hb2 ?_
  refine hv_iload_n (pn := 12) X d_Kc_learnFrom_11 ?_
  refine hv_iconst (pn := 13) (v := 5) X d_Kc_learnFrom_12 ?_
  refine hv_imul (pn := 14) X d_Kc_learnFrom_13 ?_
  refine hv_iconst (pn := 15) (v := 5) X d_Kc_learnFrom_14 ?_
  obtain ⟨σ3, hσ3, hf⟩ := bd_E hf
  refine hv_cpI (pn := 18) X d_Kc_learnFrom_15 q_2_90 q_2_78 q_2_77 q_1_16 hσ3 (by decide) (by decide +kernel) (Nat.le_of_ble_eq_true rfl) ?_
  refine hv_aload_n (pn := 19) X d_Kc_learnFrom_18 ?_
  refine hv_iload_n (pn := 20) X d_Kc_learnFrom_19 ?_
  obtain ⟨σ4, hσ4, hf⟩ := bd_E hf
  refine hv_put (pn := 23) X d_Kc_learnFrom_20 fp_Kc_15 hσ4 ?_
  refine hv_aload_n (pn := 24) X d_Kc_learnFrom_23 ?_
  refine hv_iload_n (pn := 25) X d_Kc_learnFrom_24 ?_
  obtain ⟨σ5, hσ5, hf⟩ := bd_E hf
  refine hv_put (pn := 28) X d_Kc_learnFrom_25 fp_Kc_19 hσ5 ?_
  cases hf
  exact hv_vret X d_Kc_learnFrom_28 E
set_option maxHeartbeats 4000000 in
set_option maxRecDepth 100000 in
theorem w_Kc_readKey_l3 {k : mk_T} (X : hv_X k b_Kc_readKey y_Kc_readKey.cls 5 1 21 none y_Kc_readKey.name) (N : Nat) (a0 : Nat) (x1 : Int32) (a2 : Nat) (x3 : Int32) (σ : ho_H) (x4 : Int32) (r : (ho_H × Int32) ⊕ (ho_H)) (hf : f_Kc_readKey_l3 k.2.1 N a0 x1 a2 x3 (σ, x4) = some r) (E : sm (fun s => hv_V k s.1 3 [some (.ref a0), some (.int x1), some (.ref a2), some (.int x3), some (.int s.2)] []) (fun s => hv_V k s 36 [none, none, none, none, none] []) r) : hv_V k σ 3 [some (.ref a0), some (.int x1), some (.ref a2), some (.int x3), some (.int x4)] [] := by
  unfold f_Kc_readKey_l3 at hf
  try dsimp only at hf
  refine hv_iload (pn := 5) X d_Kc_readKey_3 ?_
  refine hv_iconst (pn := 6) (v := 5) X d_Kc_readKey_5 ?_
  refine hv_icmp_ge (pn := 9) (tgt := 36) X d_Kc_readKey_6 (by decide) (fun hc => ?_) (fun hc => ?_)
  · rw [if_pos hc] at hf
    refine hv_drop (i := 0) (lo' := [none, some (.int x1), some (.ref a2), some (.int x3), some (.int x4)]) ?_
    refine hv_drop (i := 1) (lo' := [none, none, some (.ref a2), some (.int x3), some (.int x4)]) ?_
    refine hv_drop (i := 2) (lo' := [none, none, none, some (.int x3), some (.int x4)]) ?_
    refine hv_drop (i := 3) (lo' := [none, none, none, none, some (.int x4)]) ?_
    refine hv_drop (i := 4) (lo' := [none, none, none, none, none]) ?_
    cases hf
    exact E
  · rw [if_neg hc] at hf
    refine hv_aload_n (pn := 10) X d_Kc_readKey_9 ?_
    obtain ⟨b1, hb1, hf⟩ := bd_E hf
    refine hv_getR (pn := 13) X d_Kc_readKey_10 fa_Kc_9 hb1 ?_
    refine hv_iload_n (pn := 14) X d_Kc_readKey_13 ?_
    refine hv_iconst (pn := 15) (v := 5) X d_Kc_readKey_14 ?_
    refine hv_imul (pn := 16) X d_Kc_readKey_15 ?_
    refine hv_iload (pn := 18) X d_Kc_readKey_16 ?_
    refine hv_iadd (pn := 19) X d_Kc_readKey_18 ?_
    refine hv_aload_n (pn := 20) X d_Kc_readKey_19 ?_
    refine hv_iload_n (pn := 21) X d_Kc_readKey_20 ?_
    refine hv_iconst (pn := 22) (v := 4) X d_Kc_readKey_21 ?_
    refine hv_iload (pn := 24) X d_Kc_readKey_22 ?_
    refine hv_imul (pn := 25) X d_Kc_readKey_24 ?_
    refine hv_iadd (pn := 26) X d_Kc_readKey_25 ?_
    obtain ⟨v2, hv2, hf⟩ := bd_E hf
    refine hv_callS (pn := 29) X d_Kc_readKey_26 (c_Of_wordAt _ _ N σ a2 (x3 + (4 * x4)) _ hv2) cs_Kc_52 q_2_199 (by decide) (by decide) ⟨Nat.le_refl _, Nat.le_refl _⟩ (Nat.le_of_ble_eq_true rfl) ?_
    obtain ⟨σ3, hσ3, hf⟩ := bd_E hf
    refine hv_iast (pn := 30) X d_Kc_readKey_29 hσ3 ?_
    refine hv_iinc (pn := 33) (i := 4) (v := x4 + 1) (lo' := [some (.ref a0), some (.int x1), some (.ref a2), some (.int x3), some (.int (x4 + 1))]) X d_Kc_readKey_30 ?_
    refine hv_goto (tgt := 3) X d_Kc_readKey_33 (by decide) ?_
    cases hf
    exact E
set_option maxHeartbeats 4000000 in
set_option maxRecDepth 100000 in
theorem c_Kc_readKey (l : Launch) (G : ho_G) (N : Nat) (σ : ho_H) (a0 : Nat) (x1 : Int32) (a2 : Nat) (x3 : Int32) (σ' : ho_H) (hf : f_Kc_readKey G N σ a0 x1 a2 x3 = some σ') : hv_C l G y_Kc_readKey (Cond.code y_Kc_readKey b_Kc_readKey 5 none :: hv_ws) 1 21 [.ref a0, .int x1, .ref a2, .int x3] σ σ' (none) := by
  refine hv_met [some (.ref a0), some (.int x1), some (.ref a2), some (.int x3), none] (plainFor_of_name (by decide +kernel)) (by intro v hv; simp at hv; rcases hv with rfl | rfl | rfl | rfl <;> rfl) (Nat.le_of_ble_eq_true rfl) rfl ?_
  intro k X hkl hkG E
  subst hkl
  subst hkG
  unfold f_Kc_readKey at hf
  refine hv_iconst (pn := 1) (v := 0) X d_Kc_readKey_0 ?_
  refine hv_istore (pn := 3) (i := 4) (lo' := [some (.ref a0), some (.int x1), some (.ref a2), some (.int x3), some (.int 0)]) X d_Kc_readKey_1 ?_
  obtain ⟨σ4, he6, hf⟩ := bd_E hf
  refine hv_loop (P := fun s => hv_V k s.1 3 [some (.ref a0), some (.int x1), some (.ref a2), some (.int x3), some (.int s.2)] []) (Z := fun s => hv_V k s 36 [none, none, none, none, none] []) (fun s r h1 h2 => by obtain ⟨σ, x4⟩ := s; exact w_Kc_readKey_l3 X N a0 x1 a2 x3 σ x4 r h1 h2) N (σ, 0) _ he6 ?_
  try dsimp only at hf ⊢
  cases hf
  exact hv_vret X d_Kc_readKey_36 E
set_option maxHeartbeats 4000000 in
set_option maxRecDepth 100000 in
theorem c_Kc_learnRoot (l : Launch) (G : ho_G) (N : Nat) (σ : ho_H) (a0 : Nat) (a1 : Nat) (x2 : Int32) (σ' : ho_H) (hf : f_Kc_learnRoot G N σ a0 a1 x2 = some σ') : hv_C l G y_Kc_learnRoot (Cond.code y_Kc_learnRoot b_Kc_learnRoot 3 none :: hv_ws) 2 45 [.ref a0, .ref a1, .int x2] σ σ' (none) := by
  refine hv_met [some (.ref a0), some (.ref a1), some (.int x2)] (plainFor_of_name (by decide +kernel)) (by intro v hv; simp at hv; rcases hv with rfl | rfl | rfl <;> rfl) (Nat.le_of_ble_eq_true rfl) rfl ?_
  intro k X hkl hkG E
  subst hkl
  subst hkG
  unfold f_Kc_learnRoot at hf
  refine hv_aload_n (pn := 1) X d_Kc_learnRoot_0 ?_
  refine hv_iconst (pn := 2) (v := 0) X d_Kc_learnRoot_1 ?_
  refine hv_aload_n (pn := 3) X d_Kc_learnRoot_2 ?_
  refine hv_iload_n (pn := 4) X d_Kc_learnRoot_3 ?_
  obtain ⟨_, hr1, hf⟩ := bd_E hf
  obtain ⟨σ2, hσ2, hf⟩ := bd_E hf
  obtain ⟨hσ2, mσ2⟩ := ho_cv_E hσ2
  refine hv_callV (pn := 7) X d_Kc_learnRoot_4 (c_Kc_readKey _ _ N σ a0 0 a1 x2 _ hσ2) cs_Kc_48 q_3_176 rfl q_3_177 hr1 (by decide) (by decide) mσ2 (Nat.le_of_ble_eq_true rfl) ?_
  refine hv_aload_n (pn := 8) X d_Kc_learnRoot_7 ?_
  refine hv_iconst (pn := 9) (v := 0) X d_Kc_learnRoot_8 ?_
  obtain ⟨σ3, hσ3, hf⟩ := bd_E hf
  refine hv_put (pn := 12) X d_Kc_learnRoot_9 fp_Kc_15 hσ3 ?_
  refine hv_aload_n (pn := 13) X d_Kc_learnRoot_12 ?_
  refine hv_iconst (pn := 14) (v := 0) X d_Kc_learnRoot_13 ?_
  obtain ⟨σ4, hσ4, hf⟩ := bd_E hf
  refine hv_put (pn := 17) X d_Kc_learnRoot_14 fp_Kc_19 hσ4 ?_
  cases hf
  exact hv_vret X d_Kc_learnRoot_17 E
set_option maxHeartbeats 4000000 in
set_option maxRecDepth 100000 in
theorem w_Kc_isKey_l3 {k : mk_T} (X : hv_X k b_Kc_isKey y_Kc_isKey.cls 5 2 43 (some (.boolean)) y_Kc_isKey.name) (N : Nat) (σ : ho_H) (a0 : Nat) (x1 : Int32) (a2 : Nat) (x3 : Int32) (x4 : Int32) (r : (Int32) ⊕ ((Unit) ⊕ (Int32))) (hf : f_Kc_isKey_l3 k.2.1 N σ a0 x1 a2 x3 x4 = some r) (E : sm (fun s => hv_V k σ 3 [some (.ref a0), some (.int x1), some (.ref a2), some (.int x3), some (.int s)] []) (sm (fun s => hv_V k σ 34 [none, none, none, none, none] []) (fun z => hv_end k σ (some (.int z)))) r) : hv_V k σ 3 [some (.ref a0), some (.int x1), some (.ref a2), some (.int x3), some (.int x4)] [] := by
  unfold f_Kc_isKey_l3 at hf
  try dsimp only at hf
  refine hv_iload (pn := 5) X d_Kc_isKey_3 ?_
  refine hv_bipush (pn := 7) (v := 20) X d_Kc_isKey_5 ?_
  refine hv_icmp_ge (pn := 10) (tgt := 34) X d_Kc_isKey_7 (by decide) (fun hc => ?_) (fun hc => ?_)
  · rw [if_pos hc] at hf
    refine hv_drop (i := 0) (lo' := [none, some (.int x1), some (.ref a2), some (.int x3), some (.int x4)]) ?_
    refine hv_drop (i := 1) (lo' := [none, none, some (.ref a2), some (.int x3), some (.int x4)]) ?_
    refine hv_drop (i := 2) (lo' := [none, none, none, some (.int x3), some (.int x4)]) ?_
    refine hv_drop (i := 3) (lo' := [none, none, none, none, some (.int x4)]) ?_
    refine hv_drop (i := 4) (lo' := [none, none, none, none, none]) ?_
    cases hf
    exact E
  · rw [if_neg hc] at hf
    refine hv_aload_n (pn := 11) X d_Kc_isKey_10 ?_
    refine hv_iload_n (pn := 12) X d_Kc_isKey_11 ?_
    refine hv_iload (pn := 14) X d_Kc_isKey_12 ?_
    refine hv_iadd (pn := 15) X d_Kc_isKey_14 ?_
    obtain ⟨v1, hv1, hf⟩ := bd_E hf
    refine hv_iald (pn := 16) X d_Kc_isKey_15 hv1 ?_
    refine hv_aload_n (pn := 17) X d_Kc_isKey_16 ?_
    refine hv_iload_n (pn := 18) X d_Kc_isKey_17 ?_
    refine hv_iload (pn := 20) X d_Kc_isKey_18 ?_
    obtain ⟨_, hr2, hf⟩ := bd_E hf
    obtain ⟨v3, hv3, hf⟩ := bd_E hf
    refine hv_callV (pn := 23) X d_Kc_isKey_20 (c_Kc_byteAt _ _ N σ a0 x1 x4 _ hv3) cs_Kc_44 q_2_233 rfl q_2_234 hr2 (by decide) (by decide) ⟨Nat.le_refl _, Nat.le_refl _⟩ (Nat.le_of_ble_eq_true rfl) ?_
    refine hv_icmp_eq (pn := 26) (tgt := 28) X d_Kc_isKey_23 (by decide) (fun hc => ?_) (fun hc => ?_)
    · rw [if_pos hc] at hf
      refine hv_iinc (pn := 31) (i := 4) (v := x4 + 1) (lo' := [some (.ref a0), some (.int x1), some (.ref a2), some (.int x3), some (.int (x4 + 1))]) X d_Kc_isKey_28 ?_
      refine hv_goto (tgt := 3) X d_Kc_isKey_31 (by decide) ?_
      cases hf
      exact E
    · rw [if_neg hc] at hf
      refine hv_iconst (pn := 27) (v := 0) X d_Kc_isKey_26 ?_
      cases hf
      exact hv_zret X d_Kc_isKey_27 (by decide) E
set_option maxHeartbeats 4000000 in
set_option maxRecDepth 100000 in
theorem c_Kc_isKey (l : Launch) (G : ho_G) (N : Nat) (σ : ho_H) (a0 : Nat) (x1 : Int32) (a2 : Nat) (x3 : Int32) (r : Int32) (hf : f_Kc_isKey G N σ a0 x1 a2 x3 = some r) : hv_C l G y_Kc_isKey (Cond.code y_Kc_isKey b_Kc_isKey 5 (some (.boolean)) :: hv_ws) 2 43 [.ref a0, .int x1, .ref a2, .int x3] σ σ (some (.int r)) := by
  refine hv_met [some (.ref a0), some (.int x1), some (.ref a2), some (.int x3), none] (plainFor_of_name (by decide +kernel)) (by intro v hv; simp at hv; rcases hv with rfl | rfl | rfl | rfl <;> rfl) (Nat.le_of_ble_eq_true rfl) rfl ?_
  intro k X hkl hkG E
  subst hkl
  subst hkG
  unfold f_Kc_isKey at hf
  refine hv_iconst (pn := 1) (v := 0) X d_Kc_isKey_0 ?_
  refine hv_istore (pn := 3) (i := 4) (lo' := [some (.ref a0), some (.int x1), some (.ref a2), some (.int x3), some (.int 0)]) X d_Kc_isKey_1 ?_
  obtain ⟨e4, he5, hf⟩ := bd_E hf
  refine hv_loop (P := fun s => hv_V k σ 3 [some (.ref a0), some (.int x1), some (.ref a2), some (.int x3), some (.int s)] []) (Z := sm (fun s => hv_V k σ 34 [none, none, none, none, none] []) (fun z => hv_end k σ (some (.int z)))) (fun s r h1 h2 => by exact w_Kc_isKey_l3 X N σ a0 x1 a2 x3 s r h1 h2) N 0 e4 he5 ?_
  rcases e4 with _ | z
  · try dsimp only [sm, sm_e] at hf ⊢
    refine hv_iconst (pn := 35) (v := 1) X d_Kc_isKey_34 ?_
    cases hf
    exact hv_zret X d_Kc_isKey_35 (by decide) E
  · cases (show some _ = some _ from hf); exact E
set_option maxHeartbeats 4000000 in
set_option maxRecDepth 100000 in
theorem w_Kc_raiseTo_l29 {k : mk_T} (X : hv_X k b_Kc_raiseTo y_Kc_raiseTo.cls 5 4 135 (some (.boolean)) y_Kc_raiseTo.name) (N : Nat) (σ : ho_H) (a0 : Nat) (x1 : Int32) (a2 : Nat) (x4 : Int32) (r : (Int32) ⊕ ((Unit) ⊕ (ho_H × Int32))) (hf : f_Kc_raiseTo_l29 k.2.1 N σ a0 x1 a2 x4 = some r) (E : sm (fun s => hv_V k σ 29 [some (.ref a0), some (.int x1), some (.ref a2), none, some (.int s)] []) (sm (fun s => hv_V k σ 67 [some (.ref a0), some (.int x1), none, none, none] []) (fun z => hv_end k z.1 (some (.int z.2)))) r) : hv_V k σ 29 [some (.ref a0), some (.int x1), some (.ref a2), none, some (.int x4)] [] := by
  unfold f_Kc_raiseTo_l29 at hf
  try dsimp only at hf
  refine hv_iload (pn := 31) X d_Kc_raiseTo_29 ?_
  refine hv_iconst (pn := 32) (v := 5) X d_Kc_raiseTo_31 ?_
  refine hv_icmp_ge (pn := 35) (tgt := 67) X d_Kc_raiseTo_32 (by decide) (fun hc => ?_) (fun hc => ?_)
  · rw [if_pos hc] at hf
    refine hv_drop (i := 2) (lo' := [some (.ref a0), some (.int x1), none, none, some (.int x4)]) ?_
    refine hv_drop (i := 4) (lo' := [some (.ref a0), some (.int x1), none, none, none]) ?_
    cases hf
    exact E
  · rw [if_neg hc] at hf
    refine hv_aload_n (pn := 36) X d_Kc_raiseTo_35 ?_
    obtain ⟨b6, hb6, hf⟩ := bd_E hf
    refine hv_getR (pn := 39) X d_Kc_raiseTo_36 fa_Kc_31 hb6 ?_
    refine hv_iload (pn := 41) X d_Kc_raiseTo_39 ?_
    obtain ⟨v7, hv7, hf⟩ := bd_E hf
    refine hv_iald (pn := 42) X d_Kc_raiseTo_41 hv7 ?_
    refine hv_aload_n (pn := 43) X d_Kc_raiseTo_42 ?_
    obtain ⟨b8, hb8, hf⟩ := bd_E hf
    refine hv_getR (pn := 46) X d_Kc_raiseTo_43 fa_Kc_9 hb8 ?_
    refine hv_aload_n (pn := 47) X d_Kc_raiseTo_46 ?_
    obtain ⟨v9, hv9, hf⟩ := bd_E hf
    refine hv_getI (pn := 50) X d_Kc_raiseTo_47 fa_Kc_19 hv9 ?_
    refine hv_iconst (pn := 51) (v := 5) X d_Kc_raiseTo_50 ?_
    refine hv_imul (pn := 52) X d_Kc_raiseTo_51 ?_
    refine hv_iload (pn := 54) X d_Kc_raiseTo_52 ?_
    refine hv_iadd (pn := 55) X d_Kc_raiseTo_54 ?_
    obtain ⟨v10, hv10, hf⟩ := bd_E hf
    refine hv_iald (pn := 56) X d_Kc_raiseTo_55 hv10 ?_
    refine hv_icmp_eq (pn := 59) (tgt := 61) X d_Kc_raiseTo_56 (by decide) (fun hc => ?_) (fun hc => ?_)
    · rw [if_pos hc] at hf
      refine hv_iinc (pn := 64) (i := 4) (v := x4 + 1) (lo' := [some (.ref a0), some (.int x1), some (.ref a2), none, some (.int (x4 + 1))]) X d_Kc_raiseTo_61 ?_
      refine hv_goto (tgt := 29) X d_Kc_raiseTo_64 (by decide) ?_
      cases hf
      exact E
    · rw [if_neg hc] at hf
      refine hv_iconst (pn := 60) (v := 0) X d_Kc_raiseTo_59 ?_
      cases hf
      exact hv_zret X d_Kc_raiseTo_60 (by decide) E
set_option maxHeartbeats 4000000 in
set_option maxRecDepth 100000 in
theorem c_Kc_raiseTo (l : Launch) (G : ho_G) (N : Nat) (σ : ho_H) (a0 : Nat) (x1 : Int32) (a2 : Nat) (σ' : ho_H) (r : Int32) (hf : f_Kc_raiseTo G N σ a0 x1 a2 = some (σ', r)) : hv_C l G y_Kc_raiseTo (Cond.code y_Kc_raiseTo b_Kc_raiseTo 5 (some (.boolean)) :: hv_ws) 4 135 [.ref a0, .int x1, .ref a2] σ σ' (some (.int r)) := by
  refine hv_met [some (.ref a0), some (.int x1), some (.ref a2), none, none] (plainFor_of_name (by decide +kernel)) (by intro v hv; simp at hv; rcases hv with rfl | rfl | rfl <;> rfl) (Nat.le_of_ble_eq_true rfl) rfl ?_
  intro k X hkl hkG E
  subst hkl
  subst hkG
  unfold f_Kc_raiseTo at hf
  refine hv_aload_n (pn := 1) X d_Kc_raiseTo_0 ?_
  obtain ⟨v1, hv1, hf⟩ := bd_E hf
  refine hv_getI (pn := 4) X d_Kc_raiseTo_1 fa_Kc_19 hv1 ?_
  refine hv_iconst (pn := 5) (v := 1) X d_Kc_raiseTo_4 ?_
  refine hv_iadd (pn := 6) X d_Kc_raiseTo_5 ?_
  refine hv_iconst (pn := 7) (v := 5) X d_Kc_raiseTo_6 ?_
  refine hv_imul (pn := 8) X d_Kc_raiseTo_7 ?_
  refine hv_istore_n (pn := 9) (i := 3) (lo' := [some (.ref a0), some (.int x1), some (.ref a2), some (.int ((v1 + 1) * 5)), none]) X d_Kc_raiseTo_8 ?_
  refine hv_aload_n (pn := 10) X d_Kc_raiseTo_9 ?_
  refine hv_aload_n (pn := 11) X d_Kc_raiseTo_10 ?_
  obtain ⟨b2, hb2, hf⟩ := bd_E hf
  refine hv_getR (pn := 14) X d_Kc_raiseTo_11 fa_Kc_9 hb2 ?_
  refine hv_iload_n (pn := 15) X d_Kc_raiseTo_14 ?_
  refine hv_iconst (pn := 16) (v := 5) X d_Kc_raiseTo_15 ?_
  refine hv_gets (pn := 19) X d_Kc_raiseTo_16 (i := 2) rfl q_2_48 (Or.inl rfl) ?_
  refine hv_gets (pn := 22) X d_Kc_raiseTo_19 (i := 2) rfl q_2_48 (Or.inl rfl) ?_
  obtain ⟨v3, hv3, hf⟩ := bd_E hf
  refine hv_alenI (pn := 23) X d_Kc_raiseTo_22 hv3 ?_
  obtain ⟨_, hr4, hf⟩ := bd_E hf
  obtain ⟨σ5, hσ5, hf⟩ := bd_E hf
  obtain ⟨hσ5, mσ5⟩ := ho_cv_E hσ5
  refine hv_callV (pn := 26) X d_Kc_raiseTo_23 (c_Sl_seal _ _ N σ a2 b2 ((v1 + 1) * 5) 5 (gA k.2.1 2) v3 _ hσ5) cs_Kc_25 q_2_51 rfl q_2_52 hr4 (by decide) (by decide) mσ5 (Nat.le_of_ble_eq_true rfl) ?_
  refine hv_iconst (pn := 27) (v := 0) X d_Kc_raiseTo_26 ?_
  refine hv_istore (pn := 29) (i := 4) (lo' := [some (.ref a0), some (.int x1), some (.ref a2), some (.int ((v1 + 1) * 5)), some (.int 0)]) X d_Kc_raiseTo_27 ?_
  refine hv_drop (i := 3) (lo' := [some (.ref a0), some (.int x1), some (.ref a2), none, some (.int 0)]) ?_
  obtain ⟨e12, he13, hf⟩ := bd_E hf
  refine hv_loop (P := fun s => hv_V k σ5 29 [some (.ref a0), some (.int x1), some (.ref a2), none, some (.int s)] []) (Z := sm (fun s => hv_V k σ5 67 [some (.ref a0), some (.int x1), none, none, none] []) (fun z => hv_end k z.1 (some (.int z.2)))) (fun s r h1 h2 => by exact w_Kc_raiseTo_l29 X N σ5 a0 x1 a2 s r h1 h2) N 0 e12 he13 ?_
  rcases e12 with _ | z
  · try dsimp only [sm, sm_e] at hf ⊢
    refine hv_aload_n (pn := 68) X d_Kc_raiseTo_67 ?_
    refine hv_iload_n (pn := 69) X d_Kc_raiseTo_68 ?_
    obtain ⟨σ11, hσ11, hf⟩ := bd_E hf
    refine hv_put (pn := 72) X d_Kc_raiseTo_69 fp_Kc_19 hσ11 ?_
    refine hv_iconst (pn := 73) (v := 1) X d_Kc_raiseTo_72 ?_
    cases hf
    exact hv_zret X d_Kc_raiseTo_73 (by decide) E
  · cases (show some _ = some _ from hf); exact E
set_option maxHeartbeats 4000000 in
set_option maxRecDepth 100000 in
theorem c_Kc_sealPacket (l : Launch) (G : ho_G) (N : Nat) (σ : ho_H) (a0 : Nat) (x1 : Int32) (a2 : Nat) (a3 : Nat) (σ' : ho_H) (hf : f_Kc_sealPacket G N σ a0 x1 a2 a3 = some σ') : hv_C l G y_Kc_sealPacket (Cond.code y_Kc_sealPacket b_Kc_sealPacket 4 none :: hv_ws) 4 135 [.ref a0, .int x1, .ref a2, .ref a3] σ σ' (none) := by
  refine hv_met [some (.ref a0), some (.int x1), some (.ref a2), some (.ref a3)] (plainFor_of_name (by decide +kernel)) (by intro v hv; simp at hv; rcases hv with rfl | rfl | rfl | rfl <;> rfl) (Nat.le_of_ble_eq_true rfl) rfl ?_
  intro k X hkl hkG E
  subst hkl
  subst hkG
  unfold f_Kc_sealPacket at hf
  refine hv_aload_n (pn := 1) X d_Kc_sealPacket_0 ?_
  refine hv_aload_n (pn := 2) X d_Kc_sealPacket_1 ?_
  obtain ⟨b1, hb1, hf⟩ := bd_E hf
  refine hv_getR (pn := 5) X d_Kc_sealPacket_2 fa_Kc_9 hb1 ?_
  refine hv_iload_n (pn := 6) X d_Kc_sealPacket_5 ?_
  refine hv_iconst (pn := 7) (v := 5) X d_Kc_sealPacket_6 ?_
  refine hv_imul (pn := 8) X d_Kc_sealPacket_7 ?_
  refine hv_iconst (pn := 9) (v := 5) X d_Kc_sealPacket_8 ?_
  refine hv_gets (pn := 12) X d_Kc_sealPacket_9 (i := 3) rfl q_2_208 (Or.inl rfl) ?_
  refine hv_gets (pn := 15) X d_Kc_sealPacket_12 (i := 3) rfl q_2_208 (Or.inl rfl) ?_
  obtain ⟨v2, hv2, hf⟩ := bd_E hf
  refine hv_alenI (pn := 16) X d_Kc_sealPacket_15 hv2 ?_
  obtain ⟨_, hr3, hf⟩ := bd_E hf
  obtain ⟨σ4, hσ4, hf⟩ := bd_E hf
  obtain ⟨hσ4, mσ4⟩ := ho_cv_E hσ4
  refine hv_callV (pn := 19) X d_Kc_sealPacket_16 (c_Sl_seal _ _ N σ a3 b1 (x1 * 5) 5 (gA k.2.1 3) v2 _ hσ4) cs_Kc_25 q_2_51 rfl q_2_52 hr3 (by decide) (by decide) mσ4 (Nat.le_of_ble_eq_true rfl) ?_
  refine hv_aload_n (pn := 20) X d_Kc_sealPacket_19 ?_
  obtain ⟨b5, hb5, hf⟩ := bd_E hf
  refine hv_getR (pn := 23) X d_Kc_sealPacket_20 fa_Kc_31 hb5 ?_
  refine hv_iconst (pn := 24) (v := 0) X d_Kc_sealPacket_23 ?_
  refine hv_aload_n (pn := 25) X d_Kc_sealPacket_24 ?_
  obtain ⟨b6, hb6, hf⟩ := bd_E hf
  refine hv_getR (pn := 28) X d_Kc_sealPacket_25 fa_Kc_58 hb6 ?_
  refine hv_iconst (pn := 29) (v := 0) X d_Kc_sealPacket_28 ?_
  refine hv_bipush (pn := 31) (v := 8) X d_Kc_sealPacket_29 ?_
  obtain ⟨σ7, hσ7, hf⟩ := bd_E hf
  refine hv_cpI (pn := 34) X d_Kc_sealPacket_31 q_2_90 q_2_78 q_2_77 q_1_16 hσ7 (by decide) (by decide +kernel) (Nat.le_of_ble_eq_true rfl) ?_
  refine hv_aload_n (pn := 35) X d_Kc_sealPacket_34 ?_
  refine hv_aload_n (pn := 36) X d_Kc_sealPacket_35 ?_
  obtain ⟨b8, hb8, hf⟩ := bd_E hf
  refine hv_getR (pn := 39) X d_Kc_sealPacket_36 fa_Kc_58 hb8 ?_
  refine hv_iconst (pn := 40) (v := 0) X d_Kc_sealPacket_39 ?_
  refine hv_bipush (pn := 42) (v := 8) X d_Kc_sealPacket_40 ?_
  refine hv_aload_n (pn := 43) X d_Kc_sealPacket_42 ?_
  obtain ⟨b9, hb9, hf⟩ := bd_E hf
  refine hv_getR (pn := 46) X d_Kc_sealPacket_43 fa_Kc_61 hb9 ?_
  refine hv_aload_n (pn := 47) X d_Kc_sealPacket_46 ?_
  obtain ⟨_, hr10, hf⟩ := bd_E hf
  obtain ⟨v11, hv11, hf⟩ := bd_E hf
  refine hv_callV (pn := 50) X d_Kc_sealPacket_47 (c_Pk_codeAt _ _ N σ7 a2 _ hv11) cs_Kc_66 q_2_211 rfl q_2_212 hr10 (by decide) (by decide) ⟨Nat.le_refl _, Nat.le_refl _⟩ (Nat.le_of_ble_eq_true rfl) ?_
  obtain ⟨_, hr12, hf⟩ := bd_E hf
  obtain ⟨σ13, hσ13, hf⟩ := bd_E hf
  obtain ⟨hσ13, mσ13⟩ := ho_cv_E hσ13
  refine hv_callV (pn := 53) X d_Kc_sealPacket_50 (c_Sl_seal _ _ N σ7 a3 b8 0 8 b9 v11 _ hσ13) cs_Kc_25 q_2_51 rfl q_2_52 hr12 (by decide) (by decide) mσ13 (Nat.le_of_ble_eq_true rfl) ?_
  cases hf
  exact hv_vret X d_Kc_sealPacket_53 E
set_option maxHeartbeats 4000000 in
set_option maxRecDepth 100000 in
theorem w_Of_isReceiver_j15 {k : mk_T} (X : hv_X k b_Of_isReceiver y_Of_isReceiver.cls 2 0 0 (some (.boolean)) y_Of_isReceiver.name) (N : Nat) (σ : ho_H) (y0 : Int32)  (r : Int32) (hf : f_Of_isReceiver_j15 k.2.1 N σ y0 = some r) (E : hv_end k σ (some (.int r))) : hv_V k σ 15 [none, none] [.int y0] := by
  unfold f_Of_isReceiver_j15 at hf
  obtain ⟨_, hz, hf⟩ := bd_E hf
  cases hf
  exact hv_zret X d_Of_isReceiver_15 (ho_bz_E hz) E
set_option maxHeartbeats 4000000 in
set_option maxRecDepth 100000 in
theorem w_Of_isReceiver_j14 {k : mk_T} (X : hv_X k b_Of_isReceiver y_Of_isReceiver.cls 2 0 0 (some (.boolean)) y_Of_isReceiver.name) (N : Nat) (σ : ho_H)   (r : Int32) (hf : f_Of_isReceiver_j14 k.2.1 N σ  = some r) (E : hv_end k σ (some (.int r))) : hv_V k σ 14 [none, none] [] := by
  unfold f_Of_isReceiver_j14 at hf
  refine hv_iconst (pn := 15) (v := 0) X d_Of_isReceiver_14 ?_
  exact w_Of_isReceiver_j15 X N σ 0  _ hf E
set_option maxHeartbeats 4000000 in
set_option maxRecDepth 100000 in
theorem c_Of_isReceiver (l : Launch) (G : ho_G) (N : Nat) (σ : ho_H) (a0 : Nat) (x1 : Int32) (r : Int32) (hf : f_Of_isReceiver G N σ a0 x1 = some r) : hv_C l G y_Of_isReceiver (Cond.code y_Of_isReceiver b_Of_isReceiver 2 (some (.boolean)) :: hv_ws) 0 0 [.ref a0, .int x1] σ σ (some (.int r)) := by
  refine hv_met [some (.ref a0), some (.int x1)] (plainFor_of_name (by decide +kernel)) (by intro v hv; simp at hv; rcases hv with rfl | rfl <;> rfl) (Nat.le_of_ble_eq_true rfl) rfl ?_
  intro k X hkl hkG E
  subst hkl
  subst hkG
  unfold f_Of_isReceiver at hf
  refine hv_iload_n (pn := 1) X d_Of_isReceiver_0 ?_
  refine hv_if_lt (pn := 4) (tgt := 14) X d_Of_isReceiver_1 (by decide) (fun hc => ?_) (fun hc => ?_)
  · rw [if_pos hc] at hf
    refine hv_drop (i := 0) (lo' := [none, some (.int x1)]) ?_
    refine hv_drop (i := 1) (lo' := [none, none]) ?_
    exact w_Of_isReceiver_j14 X N σ   _ hf E
  · rw [if_neg hc] at hf
    refine hv_iload_n (pn := 5) X d_Of_isReceiver_4 ?_
    refine hv_bipush (pn := 7) (v := 8) X d_Of_isReceiver_5 ?_
    refine hv_icmp_ge (pn := 10) (tgt := 14) X d_Of_isReceiver_7 (by decide) (fun hc => ?_) (fun hc => ?_)
    · rw [if_pos hc] at hf
      refine hv_drop (i := 0) (lo' := [none, some (.int x1)]) ?_
      refine hv_drop (i := 1) (lo' := [none, none]) ?_
      exact w_Of_isReceiver_j14 X N σ   _ hf E
    · rw [if_neg hc] at hf
      refine hv_iconst (pn := 11) (v := 1) X d_Of_isReceiver_10 ?_
      refine hv_goto (tgt := 15) X d_Of_isReceiver_11 (by decide) ?_
      refine hv_drop (i := 0) (lo' := [none, some (.int x1)]) ?_
      refine hv_drop (i := 1) (lo' := [none, none]) ?_
      exact w_Of_isReceiver_j15 X N σ 1  _ hf E
set_option maxHeartbeats 4000000 in
set_option maxRecDepth 100000 in
theorem w_Lw_cell_j13 {k : mk_T} (X : hv_X k b_Lw_cell y_Lw_cell.cls 2 0 0 (some (.int)) y_Lw_cell.name) (N : Nat) (σ : ho_H) (y0 : Int32)  (r : Int32) (hf : f_Lw_cell_j13 k.2.1 N σ y0 = some r) (E : hv_end k σ (some (.int r))) : hv_V k σ 13 [none, none] [.int y0] := by
  unfold f_Lw_cell_j13 at hf
  cases hf
  exact hv_iret X d_Lw_cell_13 E
set_option maxHeartbeats 4000000 in
set_option maxRecDepth 100000 in
theorem c_Lw_cell (l : Launch) (G : ho_G) (N : Nat) (σ : ho_H) (a0 : Nat) (x1 : Int32) (r : Int32) (hf : f_Lw_cell G N σ a0 x1 = some r) : hv_C l G y_Lw_cell (Cond.code y_Lw_cell b_Lw_cell 2 (some (.int)) :: hv_ws) 0 0 [.ref a0, .int x1] σ σ (some (.int r)) := by
  refine hv_met [some (.ref a0), some (.int x1)] (plainFor_of_name (by decide +kernel)) (by intro v hv; simp at hv; rcases hv with rfl | rfl <;> rfl) (Nat.le_of_ble_eq_true rfl) rfl ?_
  intro k X hkl hkG E
  subst hkl
  subst hkG
  unfold f_Lw_cell at hf
  refine hv_iload_n (pn := 1) X d_Lw_cell_0 ?_
  refine hv_aload_n (pn := 2) X d_Lw_cell_1 ?_
  obtain ⟨v1, hv1, hf⟩ := bd_E hf
  refine hv_alenI (pn := 3) X d_Lw_cell_2 hv1 ?_
  refine hv_icmp_ge (pn := 6) (tgt := 12) X d_Lw_cell_3 (by decide) (fun hc => ?_) (fun hc => ?_)
  · rw [if_pos hc] at hf
    refine hv_iconst (pn := 13) (v := 0) X d_Lw_cell_12 ?_
    refine hv_drop (i := 0) (lo' := [none, some (.int x1)]) ?_
    refine hv_drop (i := 1) (lo' := [none, none]) ?_
    exact w_Lw_cell_j13 X N σ 0  _ hf E
  · rw [if_neg hc] at hf
    refine hv_aload_n (pn := 7) X d_Lw_cell_6 ?_
    refine hv_iload_n (pn := 8) X d_Lw_cell_7 ?_
    obtain ⟨v2, hv2, hf⟩ := bd_E hf
    refine hv_iald (pn := 9) X d_Lw_cell_8 hv2 ?_
    refine hv_goto (tgt := 13) X d_Lw_cell_9 (by decide) ?_
    refine hv_drop (i := 0) (lo' := [none, some (.int x1)]) ?_
    refine hv_drop (i := 1) (lo' := [none, none]) ?_
    exact w_Lw_cell_j13 X N σ v2  _ hf E
