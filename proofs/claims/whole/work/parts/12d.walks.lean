set_option maxHeartbeats 4000000 in
set_option maxRecDepth 100000 in
theorem c_Ac_init (l : Launch) (G : ho_G) (N : Nat) (σ : ho_H) (a0 : Nat)  (hf : f_Ac_init G N σ a0 = some ()) : hv_C l G y_Ac_init (Cond.code y_Ac_init b_Ac_init 1 none :: hv_ws) 1 20 [.ref a0] σ σ (none) := by
  refine hv_met [some (.ref a0)] (plainFor_of_name (by decide +kernel)) (by intro v hv; simp at hv; rcases hv with rfl <;> rfl) (Nat.le_of_ble_eq_true rfl) rfl ?_
  intro k X hkl hkG E
  subst hkl
  subst hkG
  unfold f_Ac_init at hf
  refine hv_aload_n (pn := 1) X d_Ac_init_0 ?_
  refine hv_oinit (pn := 4) X d_Ac_init_1 q_1_114 q_1_30 q_1_31 (by decide) (by decide) (Nat.le_of_ble_eq_true rfl) ?_
  cases hf
  exact hv_vret X d_Ac_init_4 E
set_option maxHeartbeats 4000000 in
set_option maxRecDepth 100000 in
theorem c_Ab_init (l : Launch) (G : ho_G) (N : Nat) (σ : ho_H) (a0 : Nat) (σ' : ho_H) (hf : f_Ab_init G N σ a0 = some σ') : hv_C l G y_Ab_init (Cond.code y_Ab_init b_Ab_init 1 none :: hv_ws) 2 40 [.ref a0] σ σ' (none) := by
  refine hv_met [some (.ref a0)] (plainFor_of_name (by decide +kernel)) (by intro v hv; simp at hv; rcases hv with rfl <;> rfl) (Nat.le_of_ble_eq_true rfl) rfl ?_
  intro k X hkl hkG E
  subst hkl
  subst hkG
  unfold f_Ab_init at hf
  refine hv_aload_n (pn := 1) X d_Ab_init_0 ?_
  obtain ⟨_, h2, hf⟩ := bd_E hf
  refine hv_callI (pn := 4) X d_Ab_init_1 (c_Ac_init _ _ N σ a0 h2) cs_Ab_1 rfl q_1_112 (by decide) (by decide) ⟨Nat.le_refl _, Nat.le_refl _⟩ (Nat.le_of_ble_eq_true rfl) ?_
  refine hv_aload_n (pn := 5) X d_Ab_init_4 ?_
  refine hv_iconst (pn := 6) (v := 0) X d_Ab_init_5 ?_
  obtain ⟨σ1, hσ1, hf⟩ := bd_E hf
  refine hv_put (pn := 9) X d_Ab_init_6 fp_Ab_7 hσ1 ?_
  cases hf
  exact hv_vret X d_Ab_init_9 E
set_option maxHeartbeats 4000000 in
set_option maxRecDepth 100000 in
theorem c_Al_init (l : Launch) (G : ho_G) (N : Nat) (σ : ho_H) (a0 : Nat) (σ' : ho_H) (hf : f_Al_init G N σ a0 = some σ') : hv_C l G y_Al_init (Cond.code y_Al_init b_Al_init 1 none :: hv_ws) 3 60 [.ref a0] σ σ' (none) := by
  refine hv_met [some (.ref a0)] (plainFor_of_name (by decide +kernel)) (by intro v hv; simp at hv; rcases hv with rfl <;> rfl) (Nat.le_of_ble_eq_true rfl) rfl ?_
  intro k X hkl hkG E
  subst hkl
  subst hkG
  unfold f_Al_init at hf
  refine hv_aload_n (pn := 1) X d_Al_init_0 ?_
  obtain ⟨σ1, hσ1, hf⟩ := bd_E hf
  obtain ⟨hσ1, mσ1⟩ := ho_cv_E hσ1
  refine hv_callI (pn := 4) X d_Al_init_1 (c_Ab_init _ _ N σ a0 _ hσ1) cs_Al_1 rfl q_1_109 (by decide) (by decide) mσ1 (Nat.le_of_ble_eq_true rfl) ?_
  refine hv_aload_n (pn := 5) X d_Al_init_4 ?_
  refine hv_gets (pn := 8) X d_Al_init_5 (i := 4) rfl q_1_115 (Or.inl rfl) ?_
  obtain ⟨σ2, hσ2, hf⟩ := bd_E hf
  refine hv_put (pn := 11) X d_Al_init_8 fp_Al_9 hσ2 ?_
  cases hf
  exact hv_vret X d_Al_init_11 E
set_option maxHeartbeats 4000000 in
set_option maxRecDepth 100000 in
theorem c_Al_size (l : Launch) (G : ho_G) (N : Nat) (σ : ho_H) (a0 : Nat) (r : Int32) (hf : f_Al_size G N σ a0 = some r) : hv_C l G y_Al_size (Cond.code y_Al_size b_Al_size 1 (some (.int)) :: hv_ws) 0 0 [.ref a0] σ σ (some (.int r)) := by
  refine hv_met [some (.ref a0)] (plainFor_of_name (by decide +kernel)) (by intro v hv; simp at hv; rcases hv with rfl <;> rfl) (Nat.le_of_ble_eq_true rfl) rfl ?_
  intro k X hkl hkG E
  subst hkl
  subst hkG
  unfold f_Al_size at hf
  refine hv_aload_n (pn := 1) X d_Al_size_0 ?_
  obtain ⟨v1, hv1, hf⟩ := bd_E hf
  refine hv_getI (pn := 4) X d_Al_size_1 fa_Al_48 hv1 ?_
  cases hf
  exact hv_iret X d_Al_size_4 E
set_option maxHeartbeats 4000000 in
set_option maxRecDepth 100000 in
theorem w_As_newLength_j21 {k : mk_T} (X : hv_X k b_As_newLength y_As_newLength.cls 4 2 82 (some (.int)) y_As_newLength.name) (N : Nat) (σ : ho_H) (x0 : Int32) (x1 : Int32)  (r : Int32) (hf : f_As_newLength_j21 k.2.1 N σ x0 x1 = some r) (E : hv_end k σ (some (.int r))) : hv_V k σ 21 [some (.int x0), some (.int x1), none, none] [] := by
  unfold f_As_newLength_j21 at hf
  cases hf
set_option maxHeartbeats 4000000 in
set_option maxRecDepth 100000 in
theorem c_As_newLength (l : Launch) (G : ho_G) (N : Nat) (σ : ho_H) (x0 : Int32) (x1 : Int32) (x2 : Int32) (r : Int32) (hf : f_As_newLength G N σ x0 x1 x2 = some r) : hv_C l G y_As_newLength (Cond.code y_As_newLength b_As_newLength 4 (some (.int)) :: hv_ws) 2 82 [.int x0, .int x1, .int x2] σ σ (some (.int r)) := by
  refine hv_met [some (.int x0), some (.int x1), some (.int x2), none] (plainFor_of_name (by decide +kernel)) (by intro v hv; simp at hv; rcases hv with rfl | rfl | rfl <;> rfl) (Nat.le_of_ble_eq_true rfl) rfl ?_
  intro k X hkl hkG E
  subst hkl
  subst hkG
  unfold f_As_newLength at hf
  refine hv_iload_n (pn := 1) X d_As_newLength_0 ?_
  refine hv_iload_n (pn := 2) X d_As_newLength_1 ?_
  refine hv_iload_n (pn := 3) X d_As_newLength_2 ?_
  refine hv_max (pn := 6) X d_As_newLength_3 q_3_16 q_3_17 q_1_3 q_3_18 (by decide) (by decide) (Nat.le_of_ble_eq_true rfl) ?_
  refine hv_iadd (pn := 7) X d_As_newLength_6 ?_
  refine hv_istore_n (pn := 8) (i := 3) (lo' := [some (.int x0), some (.int x1), some (.int x2), some (.int (x0 + (ho_mx x1 x2)))]) X d_As_newLength_7 ?_
  refine hv_iconst (pn := 9) (v := 0) X d_As_newLength_8 ?_
  refine hv_iload_n (pn := 10) X d_As_newLength_9 ?_
  refine hv_icmp_ge (pn := 13) (tgt := 21) X d_As_newLength_10 (by decide) (fun hc => ?_) (fun hc => ?_)
  · rw [if_pos hc] at hf
    refine hv_drop (i := 2) (lo' := [some (.int x0), some (.int x1), none, some (.int (x0 + (ho_mx x1 x2)))]) ?_
    refine hv_drop (i := 3) (lo' := [some (.int x0), some (.int x1), none, none]) ?_
    exact w_As_newLength_j21 X N σ x0 x1  _ hf E
  · rw [if_neg hc] at hf
    refine hv_iload_n (pn := 14) X d_As_newLength_13 ?_
    refine hv_ldc (pn := 16) X d_As_newLength_14 q_3_19 ?_
    refine hv_icmp_gt (pn := 19) (tgt := 21) X d_As_newLength_16 (by decide) (fun hc => ?_) (fun hc => ?_)
    · rw [if_pos hc] at hf
      refine hv_drop (i := 2) (lo' := [some (.int x0), some (.int x1), none, some (.int (x0 + (ho_mx x1 x2)))]) ?_
      refine hv_drop (i := 3) (lo' := [some (.int x0), some (.int x1), none, none]) ?_
      exact w_As_newLength_j21 X N σ x0 x1  _ hf E
    · rw [if_neg hc] at hf
      refine hv_iload_n (pn := 20) X d_As_newLength_19 ?_
      cases hf
      exact hv_iret X d_As_newLength_20 E
set_option maxHeartbeats 4000000 in
set_option maxRecDepth 100000 in
theorem w_Ar_copyOf2_j24 {k : mk_T} (X : hv_X k b_Ar_copyOf2 y_Ar_copyOf2.cls 4 1 60 (some (.array (.object "java/lang/Object"))) y_Ar_copyOf2.name) (N : Nat) (σ : ho_H) (a0 : Nat) (x1 : Int32) (c0 : Nat)  (r : ho_H × Nat) (hf : f_Ar_copyOf2_j24 k.2.1 N σ a0 x1 c0 = some r) (E : hv_end k r.1 (some (.ref r.2))) : hv_V k σ 24 [some (.ref a0), some (.int x1), none, none] [.ref c0] := by
  unfold f_Ar_copyOf2_j24 at hf
  refine hv_astore_n (pn := 25) (i := 3) (lo' := [some (.ref a0), some (.int x1), none, some (.ref c0)]) X d_Ar_copyOf2_24 ?_
  refine hv_aload_n (pn := 26) X d_Ar_copyOf2_25 ?_
  refine hv_iconst (pn := 27) (v := 0) X d_Ar_copyOf2_26 ?_
  refine hv_aload_n (pn := 28) X d_Ar_copyOf2_27 ?_
  refine hv_iconst (pn := 29) (v := 0) X d_Ar_copyOf2_28 ?_
  refine hv_aload_n (pn := 30) X d_Ar_copyOf2_29 ?_
  obtain ⟨v3, hv3, hf⟩ := bd_E hf
  refine hv_alenQ (pn := 31) X d_Ar_copyOf2_30 rfl hv3 ?_
  refine hv_iload_n (pn := 32) X d_Ar_copyOf2_31 ?_
  refine hv_min (pn := 35) X d_Ar_copyOf2_32 q_3_48 q_3_49 q_1_3 q_3_50 (by decide) (by decide) (Nat.le_of_ble_eq_true rfl) ?_
  obtain ⟨σ4, hσ4, hf⟩ := bd_E hf
  refine hv_cpR (pn := 38) X d_Ar_copyOf2_35 q_3_51 q_2_78 q_2_77 q_1_16 (List.mem_of_getElem? (i := 12) rfl) hσ4 (by decide) (by decide +kernel) (Nat.le_of_ble_eq_true rfl) ?_
  refine hv_aload_n (pn := 39) X d_Ar_copyOf2_38 ?_
  cases hf
  exact hv_aret X rfl (by first | exact Or.inl ⟨_, rfl⟩ | exact Or.inr ⟨_, rfl⟩) d_Ar_copyOf2_39 E
set_option maxHeartbeats 4000000 in
set_option maxRecDepth 100000 in
theorem c_Ar_copyOf2 (l : Launch) (G : ho_G) (N : Nat) (σ : ho_H) (a0 : Nat) (x1 : Int32) (a2 : Nat) (σ' : ho_H) (r : Nat) (hf : f_Ar_copyOf2 G N σ a0 x1 a2 = some (σ', r)) : hv_C l G y_Ar_copyOf2 (Cond.code y_Ar_copyOf2 b_Ar_copyOf2 4 (some (.array (.object "java/lang/Object"))) :: hv_ws) 1 60 [.ref a0, .int x1, .ref a2] σ σ' (some (.ref r)) := by
  refine hv_met [some (.ref a0), some (.int x1), some (.ref a2), none] (plainFor_of_name (by decide +kernel)) (by intro v hv; simp at hv; rcases hv with rfl | rfl | rfl <;> rfl) (Nat.le_of_ble_eq_true rfl) rfl ?_
  intro k X hkl hkG E
  subst hkl
  subst hkG
  unfold f_Ar_copyOf2 at hf
  refine hv_aload_n (pn := 1) X d_Ar_copyOf2_0 ?_
  refine hv_ldcM (pn := 3) X d_Ar_copyOf2_1 q_3_45 ?_
  refine hv_acmp_ne (pn := 6) (tgt := 13) X d_Ar_copyOf2_3 (by decide) (fun hc => ?_) (fun hc => ?_)
  · rw [if_pos hc] at hf
    cases hf
  · rw [if_neg hc] at hf
    refine hv_iload_n (pn := 7) X d_Ar_copyOf2_6 ?_
    obtain ⟨σ1, b2, hσ1, hf⟩ := bd2_E hf
    refine hv_anew (pn := 10) X d_Ar_copyOf2_7 q_3_47 (List.mem_of_getElem? (i := 2) rfl) rfl hσ1 ?_
    refine hv_goto (tgt := 24) X d_Ar_copyOf2_10 (by decide) ?_
    refine hv_drop (i := 2) (lo' := [some (.ref a0), some (.int x1), none, none]) ?_
    exact w_Ar_copyOf2_j24 X N σ1 a0 x1 b2  _ hf E
set_option maxHeartbeats 4000000 in
set_option maxRecDepth 100000 in
theorem c_Ar_copyOf1 (l : Launch) (G : ho_G) (N : Nat) (σ : ho_H) (a0 : Nat) (x1 : Int32) (σ' : ho_H) (r : Nat) (hf : f_Ar_copyOf1 G N σ a0 x1 = some (σ', r)) : hv_C l G y_Ar_copyOf1 (Cond.code y_Ar_copyOf1 b_Ar_copyOf1 2 (some (.array (.object "java/lang/Object"))) :: hv_ws) 2 83 [.ref a0, .int x1] σ σ' (some (.ref r)) := by
  refine hv_met [some (.ref a0), some (.int x1)] (plainFor_of_name (by decide +kernel)) (by intro v hv; simp at hv; rcases hv with rfl | rfl <;> rfl) (Nat.le_of_ble_eq_true rfl) rfl ?_
  intro k X hkl hkG E
  subst hkl
  subst hkG
  unfold f_Ar_copyOf1 at hf
  refine hv_aload_n (pn := 1) X d_Ar_copyOf1_0 ?_
  refine hv_iload_n (pn := 2) X d_Ar_copyOf1_1 ?_
  refine hv_aload_n (pn := 3) X d_Ar_copyOf1_2 ?_
  obtain ⟨_, hr1, hf⟩ := bd_E hf
  refine hv_getC (pn := 6) X d_Ar_copyOf1_3 q_3_26 (List.mem_of_getElem? (i := 6) rfl) q_5_166 q_3_27 q_3_41 hr1 (by decide) (by decide) (Nat.le_of_ble_eq_true rfl) ?_
  obtain ⟨σ2, b3, hσ2, hf⟩ := bd2_E hf
  obtain ⟨hσ2, mσ2⟩ := ho_ck_E hσ2
  refine hv_callS (pn := 9) X d_Ar_copyOf1_6 (c_Ar_copyOf2 _ _ N σ a0 x1 (gA k.2.1 5) _ _ hσ2) cs_Ar_300 q_3_43 (by decide) (by decide) mσ2 (Nat.le_of_ble_eq_true rfl) ?_
  cases hf
  exact hv_aret X rfl (by first | exact Or.inl ⟨_, rfl⟩ | exact Or.inr ⟨_, rfl⟩) d_Ar_copyOf1_9 E
set_option maxHeartbeats 4000000 in
set_option maxRecDepth 100000 in
theorem w_Al_grow2_j20 {k : mk_T} (X : hv_X k b_Al_grow2 y_Al_grow2.cls 4 3 105 (some (.array (.object "java/lang/Object"))) y_Al_grow2.name) (N : Nat) (σ : ho_H) (a0 : Nat) (x1 : Int32) (x2 : Int32)  (r : ho_H × Nat) (hf : f_Al_grow2_j20 k.2.1 N σ a0 x1 x2 = some r) (E : hv_end k r.1 (some (.ref r.2))) : hv_V k σ 20 [some (.ref a0), some (.int x1), some (.int x2), none] [] := by
  unfold f_Al_grow2_j20 at hf
  refine hv_iload_n (pn := 21) X d_Al_grow2_20 ?_
  refine hv_iload_n (pn := 22) X d_Al_grow2_21 ?_
  refine hv_iload_n (pn := 23) X d_Al_grow2_22 ?_
  refine hv_isub (pn := 24) X d_Al_grow2_23 ?_
  refine hv_iload_n (pn := 25) X d_Al_grow2_24 ?_
  refine hv_iconst (pn := 26) (v := 1) X d_Al_grow2_25 ?_
  refine hv_ishr (pn := 27) X d_Al_grow2_26 ?_
  obtain ⟨v3, hv3, hf⟩ := bd_E hf
  refine hv_callS (pn := 30) X d_Al_grow2_27 (c_As_newLength _ _ N σ x2 (x1 - x2) (ho_sr x2 1) _ hv3) cs_Al_73 q_3_14 (by decide) (by decide) ⟨Nat.le_refl _, Nat.le_refl _⟩ (Nat.le_of_ble_eq_true rfl) ?_
  refine hv_istore_n (pn := 31) (i := 3) (lo' := [some (.ref a0), some (.int x1), some (.int x2), some (.int v3)]) X d_Al_grow2_30 ?_
  refine hv_aload_n (pn := 32) X d_Al_grow2_31 ?_
  refine hv_aload_n (pn := 33) X d_Al_grow2_32 ?_
  obtain ⟨b4, hb4, hf⟩ := bd_E hf
  refine hv_getR (pn := 36) X d_Al_grow2_33 fa_Al_9 hb4 ?_
  refine hv_iload_n (pn := 37) X d_Al_grow2_36 ?_
  obtain ⟨σ5, b6, hσ5, hf⟩ := bd2_E hf
  obtain ⟨hσ5, mσ5⟩ := ho_ck_E hσ5
  refine hv_callS (pn := 40) X d_Al_grow2_37 (c_Ar_copyOf1 _ _ N σ b4 v3 _ _ hσ5) cs_Al_66 q_3_24 (by decide) (by decide) mσ5 (Nat.le_of_ble_eq_true rfl) ?_
  refine hv_dup_x1 (pn := 41) X d_Al_grow2_40 rfl rfl ?_
  obtain ⟨σ7, hσ7, hf⟩ := bd_E hf
  refine hv_put (pn := 44) X d_Al_grow2_41 fp_Al_9 hσ7 ?_
  cases hf
  exact hv_aret X rfl (by first | exact Or.inl ⟨_, rfl⟩ | exact Or.inr ⟨_, rfl⟩) d_Al_grow2_44 E
set_option maxHeartbeats 4000000 in
set_option maxRecDepth 100000 in
theorem c_Al_grow2 (l : Launch) (G : ho_G) (N : Nat) (σ : ho_H) (a0 : Nat) (x1 : Int32) (σ' : ho_H) (r : Nat) (hf : f_Al_grow2 G N σ a0 x1 = some (σ', r)) : hv_C l G y_Al_grow2 (Cond.code y_Al_grow2 b_Al_grow2 4 (some (.array (.object "java/lang/Object"))) :: hv_ws) 3 105 [.ref a0, .int x1] σ σ' (some (.ref r)) := by
  refine hv_met [some (.ref a0), some (.int x1), none, none] (plainFor_of_name (by decide +kernel)) (by intro v hv; simp at hv; rcases hv with rfl | rfl <;> rfl) (Nat.le_of_ble_eq_true rfl) rfl ?_
  intro k X hkl hkG E
  subst hkl
  subst hkG
  unfold f_Al_grow2 at hf
  refine hv_aload_n (pn := 1) X d_Al_grow2_0 ?_
  obtain ⟨b1, hb1, hf⟩ := bd_E hf
  refine hv_getR (pn := 4) X d_Al_grow2_1 fa_Al_9 hb1 ?_
  obtain ⟨v2, hv2, hf⟩ := bd_E hf
  refine hv_alenQ (pn := 5) X d_Al_grow2_4 rfl hv2 ?_
  refine hv_istore_n (pn := 6) (i := 2) (lo' := [some (.ref a0), some (.int x1), some (.int v2), none]) X d_Al_grow2_5 ?_
  refine hv_iload_n (pn := 7) X d_Al_grow2_6 ?_
  refine hv_if_gt (pn := 10) (tgt := 20) X d_Al_grow2_7 (by decide) (fun hc => ?_) (fun hc => ?_)
  · rw [if_pos hc] at hf
    exact w_Al_grow2_j20 X N σ a0 x1 v2  _ hf E
  · rw [if_neg hc] at hf
    refine hv_aload_n (pn := 11) X d_Al_grow2_10 ?_
    obtain ⟨b8, hb8, hf⟩ := bd_E hf
    refine hv_getR (pn := 14) X d_Al_grow2_11 fa_Al_9 hb8 ?_
    refine hv_gets (pn := 17) X d_Al_grow2_14 (i := 4) rfl q_1_115 (Or.inl rfl) ?_
    refine hv_acmp_eq (pn := 20) (tgt := 45) X d_Al_grow2_17 (by decide) (fun hc => ?_) (fun hc => ?_)
    · rw [if_pos hc] at hf
      refine hv_aload_n (pn := 46) X d_Al_grow2_45 ?_
      refine hv_bipush (pn := 48) (v := 10) X d_Al_grow2_46 ?_
      refine hv_iload_n (pn := 49) X d_Al_grow2_48 ?_
      refine hv_max (pn := 52) X d_Al_grow2_49 q_3_52 q_3_17 q_1_3 q_3_18 (by decide) (by decide) (Nat.le_of_ble_eq_true rfl) ?_
      obtain ⟨σ9, b10, hσ9, hf⟩ := bd2_E hf
      refine hv_anew (pn := 55) X d_Al_grow2_52 q_3_53 (List.mem_of_getElem? (i := 2) rfl) rfl hσ9 ?_
      refine hv_dup_x1 (pn := 56) X d_Al_grow2_55 rfl rfl ?_
      obtain ⟨σ11, hσ11, hf⟩ := bd_E hf
      refine hv_put (pn := 59) X d_Al_grow2_56 fp_Al_9 hσ11 ?_
      cases hf
      exact hv_aret X rfl (by first | exact Or.inl ⟨_, rfl⟩ | exact Or.inr ⟨_, rfl⟩) d_Al_grow2_59 E
    · rw [if_neg hc] at hf
      exact w_Al_grow2_j20 X N σ a0 x1 v2  _ hf E
set_option maxHeartbeats 4000000 in
set_option maxRecDepth 100000 in
theorem c_Al_grow1 (l : Launch) (G : ho_G) (N : Nat) (σ : ho_H) (a0 : Nat) (σ' : ho_H) (r : Nat) (hf : f_Al_grow1 G N σ a0 = some (σ', r)) : hv_C l G y_Al_grow1 (Cond.code y_Al_grow1 b_Al_grow1 1 (some (.array (.object "java/lang/Object"))) :: hv_ws) 4 128 [.ref a0] σ σ' (some (.ref r)) := by
  refine hv_met [some (.ref a0)] (plainFor_of_name (by decide +kernel)) (by intro v hv; simp at hv; rcases hv with rfl <;> rfl) (Nat.le_of_ble_eq_true rfl) rfl ?_
  intro k X hkl hkG E
  subst hkl
  subst hkG
  unfold f_Al_grow1 at hf
  refine hv_aload_n (pn := 1) X d_Al_grow1_0 ?_
  refine hv_aload_n (pn := 2) X d_Al_grow1_1 ?_
  obtain ⟨v1, hv1, hf⟩ := bd_E hf
  refine hv_getI (pn := 5) X d_Al_grow1_2 fa_Al_48 hv1 ?_
  refine hv_iconst (pn := 6) (v := 1) X d_Al_grow1_5 ?_
  refine hv_iadd (pn := 7) X d_Al_grow1_6 ?_
  obtain ⟨_, hr2, hf⟩ := bd_E hf
  obtain ⟨σ3, b4, hσ3, hf⟩ := bd2_E hf
  obtain ⟨hσ3, mσ3⟩ := ho_ck_E hσ3
  refine hv_callV (pn := 10) X d_Al_grow1_7 (c_Al_grow2 _ _ N σ a0 (v1 + 1) _ _ hσ3) cs_Al_69 q_3_11 rfl qs_Al_grow2 hr2 (by decide) (by decide) mσ3 (Nat.le_of_ble_eq_true rfl) ?_
  cases hf
  exact hv_aret X rfl (by first | exact Or.inl ⟨_, rfl⟩ | exact Or.inr ⟨_, rfl⟩) d_Al_grow1_10 E
set_option maxHeartbeats 4000000 in
set_option maxRecDepth 100000 in
theorem w_Al_add2_j11 {k : mk_T} (X : hv_X k b_Al_add2 y_Al_add2.cls 4 5 148 none y_Al_add2.name) (N : Nat) (σ : ho_H) (a0 : Nat) (a1 : Nat) (a2 : Nat) (x3 : Int32)  (r : ho_H) (hf : f_Al_add2_j11 k.2.1 N σ a0 a1 a2 x3 = some r) (E : hv_end k r none) : hv_V k σ 11 [some (.ref a0), some (.ref a1), some (.ref a2), some (.int x3)] [] := by
  unfold f_Al_add2_j11 at hf
  refine hv_aload_n (pn := 12) X d_Al_add2_11 ?_
  refine hv_iload_n (pn := 13) X d_Al_add2_12 ?_
  refine hv_aload_n (pn := 14) X d_Al_add2_13 ?_
  obtain ⟨_, hr3, hf⟩ := bd_E hf
  obtain ⟨σ2, hσ2, hf⟩ := bd_E hf
  refine hv_aast (pn := 15) X d_Al_add2_14 rfl rfl (Or.inr (List.mem_of_getElem? (i := 12) rfl)) hr3 hσ2 ?_
  refine hv_aload_n (pn := 16) X d_Al_add2_15 ?_
  refine hv_iload_n (pn := 17) X d_Al_add2_16 ?_
  refine hv_iconst (pn := 18) (v := 1) X d_Al_add2_17 ?_
  refine hv_iadd (pn := 19) X d_Al_add2_18 ?_
  obtain ⟨σ4, hσ4, hf⟩ := bd_E hf
  refine hv_put (pn := 22) X d_Al_add2_19 fp_Al_48 hσ4 ?_
  cases hf
  exact hv_vret X d_Al_add2_22 E
set_option maxHeartbeats 4000000 in
set_option maxRecDepth 100000 in
theorem c_Al_add2 (l : Launch) (G : ho_G) (N : Nat) (σ : ho_H) (a0 : Nat) (a1 : Nat) (a2 : Nat) (x3 : Int32) (σ' : ho_H) (hf : f_Al_add2 G N σ a0 a1 a2 x3 = some σ') : hv_C l G y_Al_add2 (Cond.code y_Al_add2 b_Al_add2 4 none :: hv_ws) 5 148 [.ref a0, .ref a1, .ref a2, .int x3] σ σ' (none) := by
  refine hv_met [some (.ref a0), some (.ref a1), some (.ref a2), some (.int x3)] (plainFor_of_name (by decide +kernel)) (by intro v hv; simp at hv; rcases hv with rfl | rfl | rfl | rfl <;> rfl) (Nat.le_of_ble_eq_true rfl) rfl ?_
  intro k X hkl hkG E
  subst hkl
  subst hkG
  unfold f_Al_add2 at hf
  refine hv_iload_n (pn := 1) X d_Al_add2_0 ?_
  refine hv_aload_n (pn := 2) X d_Al_add2_1 ?_
  obtain ⟨v1, hv1, hf⟩ := bd_E hf
  refine hv_alenQ (pn := 3) X d_Al_add2_2 rfl hv1 ?_
  refine hv_icmp_ne (pn := 6) (tgt := 11) X d_Al_add2_3 (by decide) (fun hc => ?_) (fun hc => ?_)
  · rw [if_pos hc] at hf
    exact w_Al_add2_j11 X N σ a0 a1 a2 x3  _ hf E
  · rw [if_neg hc] at hf
    refine hv_aload_n (pn := 7) X d_Al_add2_6 ?_
    obtain ⟨_, hr5, hf⟩ := bd_E hf
    obtain ⟨σ6, b7, hσ6, hf⟩ := bd2_E hf
    obtain ⟨hσ6, mσ6⟩ := ho_ck_E hσ6
    refine hv_callV (pn := 10) X d_Al_add2_7 (c_Al_grow1 _ _ N σ a0 _ _ hσ6) cs_Al_129 q_3_7 rfl qs_Al_grow1 hr5 (by decide) (by decide) mσ6 (Nat.le_of_ble_eq_true rfl) ?_
    refine hv_astore_n (pn := 11) (i := 2) (lo' := [some (.ref a0), some (.ref a1), some (.ref b7), some (.int x3)]) X d_Al_add2_10 ?_
    exact w_Al_add2_j11 X N σ6 a0 a1 b7 x3  _ hf E
set_option maxHeartbeats 4000000 in
set_option maxRecDepth 100000 in
theorem c_Al_add1 (l : Launch) (G : ho_G) (N : Nat) (σ : ho_H) (a0 : Nat) (a1 : Nat) (σ' : ho_H) (r : Int32) (hf : f_Al_add1 G N σ a0 a1 = some (σ', r)) : hv_C l G y_Al_add1 (Cond.code y_Al_add1 b_Al_add1 2 (some (.boolean)) :: hv_ws) 6 171 [.ref a0, .ref a1] σ σ' (some (.int r)) := by
  refine hv_met [some (.ref a0), some (.ref a1)] (plainFor_of_name (by decide +kernel)) (by intro v hv; simp at hv; rcases hv with rfl | rfl <;> rfl) (Nat.le_of_ble_eq_true rfl) rfl ?_
  intro k X hkl hkG E
  subst hkl
  subst hkG
  unfold f_Al_add1 at hf
  refine hv_aload_n (pn := 1) X d_Al_add1_0 ?_
  refine hv_dup (pn := 2) X d_Al_add1_1 rfl ?_
  obtain ⟨v1, hv1, hf⟩ := bd_E hf
  refine hv_getI (pn := 5) X d_Al_add1_2 fa_Al_63 hv1 ?_
  refine hv_iconst (pn := 6) (v := 1) X d_Al_add1_5 ?_
  refine hv_iadd (pn := 7) X d_Al_add1_6 ?_
  obtain ⟨σ2, hσ2, hf⟩ := bd_E hf
  refine hv_put (pn := 10) X d_Al_add1_7 fp_Al_63 hσ2 ?_
  refine hv_aload_n (pn := 11) X d_Al_add1_10 ?_
  refine hv_aload_n (pn := 12) X d_Al_add1_11 ?_
  refine hv_aload_n (pn := 13) X d_Al_add1_12 ?_
  obtain ⟨b3, hb3, hf⟩ := bd_E hf
  refine hv_getR (pn := 16) X d_Al_add1_13 fa_Al_9 hb3 ?_
  refine hv_aload_n (pn := 17) X d_Al_add1_16 ?_
  obtain ⟨v4, hv4, hf⟩ := bd_E hf
  refine hv_getI (pn := 20) X d_Al_add1_17 fa_Al_48 hv4 ?_
  obtain ⟨_, hr5, hf⟩ := bd_E hf
  obtain ⟨σ6, hσ6, hf⟩ := bd_E hf
  obtain ⟨hσ6, mσ6⟩ := ho_cv_E hσ6
  refine hv_callV (pn := 23) X d_Al_add1_20 (c_Al_add2 _ _ N σ2 a0 a1 b3 v4 _ hσ6) cs_Al_131 q_3_3 rfl qs_Al_add2 hr5 (by decide) (by decide) mσ6 (Nat.le_of_ble_eq_true rfl) ?_
  refine hv_iconst (pn := 24) (v := 1) X d_Al_add1_23 ?_
  cases hf
  exact hv_zret X d_Al_add1_24 (by decide) E
set_option maxHeartbeats 4000000 in
set_option maxRecDepth 100000 in
theorem w_Pc_checkIndex_j9 {k : mk_T} (X : hv_X k b_Pc_checkIndex y_Pc_checkIndex.cls 3 1 60 (some (.int)) y_Pc_checkIndex.name) (N : Nat) (σ : ho_H) (x0 : Int32) (x1 : Int32)  (r : Int32) (hf : f_Pc_checkIndex_j9 k.2.1 N σ x0 x1 = some r) (E : hv_end k σ (some (.int r))) : hv_V k σ 9 [some (.int x0), some (.int x1), some (.null)] [] := by
  unfold f_Pc_checkIndex_j9 at hf
  cases hf
set_option maxHeartbeats 4000000 in
set_option maxRecDepth 100000 in
theorem c_Pc_checkIndex (l : Launch) (G : ho_G) (N : Nat) (σ : ho_H) (x0 : Int32) (x1 : Int32) (r : Int32) (hf : f_Pc_checkIndex G N σ x0 x1 = some r) : hv_C l G y_Pc_checkIndex (Cond.code y_Pc_checkIndex b_Pc_checkIndex 3 (some (.int)) :: hv_ws) 1 60 [.int x0, .int x1, .null] σ σ (some (.int r)) := by
  refine hv_met [some (.int x0), some (.int x1), some (.null)] (plainFor_of_name (by decide +kernel)) (by intro v hv; simp at hv; rcases hv with rfl | rfl | rfl <;> rfl) (Nat.le_of_ble_eq_true rfl) rfl ?_
  intro k X hkl hkG E
  subst hkl
  subst hkG
  unfold f_Pc_checkIndex at hf
  refine hv_iload_n (pn := 1) X d_Pc_checkIndex_0 ?_
  refine hv_if_lt (pn := 4) (tgt := 9) X d_Pc_checkIndex_1 (by decide) (fun hc => ?_) (fun hc => ?_)
  · rw [if_pos hc] at hf
    exact w_Pc_checkIndex_j9 X N σ x0 x1  _ hf E
  · rw [if_neg hc] at hf
    refine hv_iload_n (pn := 5) X d_Pc_checkIndex_4 ?_
    refine hv_iload_n (pn := 6) X d_Pc_checkIndex_5 ?_
    refine hv_icmp_lt (pn := 9) (tgt := 16) X d_Pc_checkIndex_6 (by decide) (fun hc => ?_) (fun hc => ?_)
    · rw [if_pos hc] at hf
      refine hv_iload_n (pn := 17) X d_Pc_checkIndex_16 ?_
      cases hf
      exact hv_iret X d_Pc_checkIndex_17 E
    · rw [if_neg hc] at hf
      exact w_Pc_checkIndex_j9 X N σ x0 x1  _ hf E
set_option maxHeartbeats 4000000 in
set_option maxRecDepth 100000 in
theorem c_Ob_checkIndex (l : Launch) (G : ho_G) (N : Nat) (σ : ho_H) (x0 : Int32) (x1 : Int32) (r : Int32) (hf : f_Ob_checkIndex G N σ x0 x1 = some r) : hv_C l G y_Ob_checkIndex (Cond.code y_Ob_checkIndex b_Ob_checkIndex 2 (some (.int)) :: hv_ws) 2 82 [.int x0, .int x1] σ σ (some (.int r)) := by
  refine hv_met [some (.int x0), some (.int x1)] (plainFor_of_name (by decide +kernel)) (by intro v hv; simp at hv; rcases hv with rfl | rfl <;> rfl) (Nat.le_of_ble_eq_true rfl) rfl ?_
  intro k X hkl hkG E
  subst hkl
  subst hkG
  unfold f_Ob_checkIndex at hf
  refine hv_iload_n (pn := 1) X d_Ob_checkIndex_0 ?_
  refine hv_iload_n (pn := 2) X d_Ob_checkIndex_1 ?_
  refine hv_null (pn := 3) X d_Ob_checkIndex_2 ?_
  obtain ⟨v1, hv1, hf⟩ := bd_E hf
  refine hv_callS (pn := 6) X d_Ob_checkIndex_3 (c_Pc_checkIndex _ _ N σ x0 x1 _ hv1) cs_Ob_105 q_3_80 (by decide) (by decide) ⟨Nat.le_refl _, Nat.le_refl _⟩ (Nat.le_of_ble_eq_true rfl) ?_
  cases hf
  exact hv_iret X d_Ob_checkIndex_6 E
set_option maxHeartbeats 4000000 in
set_option maxRecDepth 100000 in
theorem c_Al_elementData (l : Launch) (G : ho_G) (N : Nat) (σ : ho_H) (a0 : Nat) (x1 : Int32) (r : Nat) (hf : f_Al_elementData G N σ a0 x1 = some r) : hv_C l G y_Al_elementData (Cond.code y_Al_elementData b_Al_elementData 2 (some (.object "java/lang/Object")) :: hv_ws) 0 0 [.ref a0, .int x1] σ σ (some (.ref r)) := by
  refine hv_met [some (.ref a0), some (.int x1)] (plainFor_of_name (by decide +kernel)) (by intro v hv; simp at hv; rcases hv with rfl | rfl <;> rfl) (Nat.le_of_ble_eq_true rfl) rfl ?_
  intro k X hkl hkG E
  subst hkl
  subst hkG
  unfold f_Al_elementData at hf
  refine hv_aload_n (pn := 1) X d_Al_elementData_0 ?_
  obtain ⟨b1, hb1, hf⟩ := bd_E hf
  refine hv_getR (pn := 4) X d_Al_elementData_1 fa_Al_9 hb1 ?_
  refine hv_iload_n (pn := 5) X d_Al_elementData_4 ?_
  obtain ⟨b2, hb2, hf⟩ := bd_E hf
  refine hv_aald (pn := 6) X d_Al_elementData_5 rfl hb2 ?_
  cases hf
  exact hv_aret X rfl (by first | exact Or.inl ⟨_, rfl⟩ | exact Or.inr ⟨_, rfl⟩) d_Al_elementData_6 E
set_option maxHeartbeats 4000000 in
set_option maxRecDepth 100000 in
theorem c_Al_get (l : Launch) (G : ho_G) (N : Nat) (σ : ho_H) (a0 : Nat) (x1 : Int32) (r : Nat) (hf : f_Al_get G N σ a0 x1 = some r) : hv_C l G y_Al_get (Cond.code y_Al_get b_Al_get 2 (some (.object "java/lang/Object")) :: hv_ws) 3 103 [.ref a0, .int x1] σ σ (some (.ref r)) := by
  refine hv_met [some (.ref a0), some (.int x1)] (plainFor_of_name (by decide +kernel)) (by intro v hv; simp at hv; rcases hv with rfl | rfl <;> rfl) (Nat.le_of_ble_eq_true rfl) rfl ?_
  intro k X hkl hkG E
  subst hkl
  subst hkG
  unfold f_Al_get at hf
  refine hv_iload_n (pn := 1) X d_Al_get_0 ?_
  refine hv_aload_n (pn := 2) X d_Al_get_1 ?_
  obtain ⟨v1, hv1, hf⟩ := bd_E hf
  refine hv_getI (pn := 5) X d_Al_get_2 fa_Al_48 hv1 ?_
  obtain ⟨v2, hv2, hf⟩ := bd_E hf
  refine hv_callS (pn := 8) X d_Al_get_5 (c_Ob_checkIndex _ _ N σ x1 v1 _ hv2) cs_Al_118 q_3_77 (by decide) (by decide) ⟨Nat.le_refl _, Nat.le_refl _⟩ (Nat.le_of_ble_eq_true rfl) ?_
  refine hv_pop (pn := 9) X d_Al_get_8 rfl ?_
  refine hv_aload_n (pn := 10) X d_Al_get_9 ?_
  refine hv_iload_n (pn := 11) X d_Al_get_10 ?_
  obtain ⟨_, hr3, hf⟩ := bd_E hf
  obtain ⟨b4, hb4, hf⟩ := bd_E hf
  refine hv_callV (pn := 14) X d_Al_get_11 (c_Al_elementData _ _ N σ a0 x1 _ hb4) cs_Al_123 q_3_83 rfl q_3_84 hr3 (by decide) (by decide) ⟨Nat.le_refl _, Nat.le_refl _⟩ (Nat.le_of_ble_eq_true rfl) ?_
  cases hf
  exact hv_aret X rfl (by first | exact Or.inl ⟨_, rfl⟩ | exact Or.inr ⟨_, rfl⟩) d_Al_get_14 E
set_option maxHeartbeats 4000000 in
set_option maxRecDepth 100000 in
theorem w_Al_clear_l27 {k : mk_T} (X : hv_X k b_Al_clear y_Al_clear.cls 4 0 0 none y_Al_clear.name) (N : Nat) (a1 : Nat) (x2 : Int32) (σ : ho_H) (x3 : Int32) (r : (ho_H × Int32) ⊕ (ho_H)) (hf : f_Al_clear_l27 k.2.1 N a1 x2 (σ, x3) = some r) (E : sm (fun s => hv_V k s.1 27 [none, some (.ref a1), some (.int x2), some (.int s.2)] []) (fun s => hv_V k s 42 [none, none, none, none] []) r) : hv_V k σ 27 [none, some (.ref a1), some (.int x2), some (.int x3)] [] := by
  unfold f_Al_clear_l27 at hf
  try dsimp only at hf
  refine hv_iload_n (pn := 28) X d_Al_clear_27 ?_
  refine hv_iload_n (pn := 29) X d_Al_clear_28 ?_
  refine hv_icmp_ge (pn := 32) (tgt := 42) X d_Al_clear_29 (by decide) (fun hc => ?_) (fun hc => ?_)
  · rw [if_pos hc] at hf
    refine hv_drop (i := 1) (lo' := [none, none, some (.int x2), some (.int x3)]) ?_
    refine hv_drop (i := 2) (lo' := [none, none, none, some (.int x3)]) ?_
    refine hv_drop (i := 3) (lo' := [none, none, none, none]) ?_
    cases hf
    exact E
  · rw [if_neg hc] at hf
    refine hv_aload_n (pn := 33) X d_Al_clear_32 ?_
    refine hv_iload_n (pn := 34) X d_Al_clear_33 ?_
    refine hv_null (pn := 35) X d_Al_clear_34 ?_
    obtain ⟨σ6, hσ6, hf⟩ := bd_E hf
    refine hv_aastN (pn := 36) X d_Al_clear_35 rfl hσ6 ?_
    refine hv_iinc (pn := 39) (i := 3) (v := x3 + 1) (lo' := [none, some (.ref a1), some (.int x2), some (.int (x3 + 1))]) X d_Al_clear_36 ?_
    refine hv_goto (tgt := 27) X d_Al_clear_39 (by decide) ?_
    cases hf
    exact E
set_option maxHeartbeats 4000000 in
set_option maxRecDepth 100000 in
theorem c_Al_clear (l : Launch) (G : ho_G) (N : Nat) (σ : ho_H) (a0 : Nat) (σ' : ho_H) (hf : f_Al_clear G N σ a0 = some σ') : hv_C l G y_Al_clear (Cond.code y_Al_clear b_Al_clear 4 none :: hv_ws) 0 0 [.ref a0] σ σ' (none) := by
  refine hv_met [some (.ref a0), none, none, none] (plainFor_of_name (by decide +kernel)) (by intro v hv; simp at hv; rcases hv with rfl <;> rfl) (Nat.le_of_ble_eq_true rfl) rfl ?_
  intro k X hkl hkG E
  subst hkl
  subst hkG
  unfold f_Al_clear at hf
  refine hv_aload_n (pn := 1) X d_Al_clear_0 ?_
  refine hv_dup (pn := 2) X d_Al_clear_1 rfl ?_
  obtain ⟨v1, hv1, hf⟩ := bd_E hf
  refine hv_getI (pn := 5) X d_Al_clear_2 fa_Al_63 hv1 ?_
  refine hv_iconst (pn := 6) (v := 1) X d_Al_clear_5 ?_
  refine hv_iadd (pn := 7) X d_Al_clear_6 ?_
  obtain ⟨σ2, hσ2, hf⟩ := bd_E hf
  refine hv_put (pn := 10) X d_Al_clear_7 fp_Al_63 hσ2 ?_
  refine hv_aload_n (pn := 11) X d_Al_clear_10 ?_
  obtain ⟨b3, hb3, hf⟩ := bd_E hf
  refine hv_getR (pn := 14) X d_Al_clear_11 fa_Al_9 hb3 ?_
  refine hv_astore_n (pn := 15) (i := 1) (lo' := [some (.ref a0), some (.ref b3), none, none]) X d_Al_clear_14 ?_
  refine hv_aload_n (pn := 16) X d_Al_clear_15 ?_
  obtain ⟨v4, hv4, hf⟩ := bd_E hf
  refine hv_getI (pn := 19) X d_Al_clear_16 fa_Al_48 hv4 ?_
  refine hv_istore_n (pn := 20) (i := 2) (lo' := [some (.ref a0), some (.ref b3), some (.int v4), none]) X d_Al_clear_19 ?_
  refine hv_aload_n (pn := 21) X d_Al_clear_20 ?_
  refine hv_iconst (pn := 22) (v := 0) X d_Al_clear_21 ?_
  refine hv_dup_x1 (pn := 23) X d_Al_clear_22 rfl rfl ?_
  obtain ⟨σ5, hσ5, hf⟩ := bd_E hf
  refine hv_put (pn := 26) X d_Al_clear_23 fp_Al_48 hσ5 ?_
  refine hv_istore_n (pn := 27) (i := 3) (lo' := [some (.ref a0), some (.ref b3), some (.int v4), some (.int 0)]) X d_Al_clear_26 ?_
  refine hv_drop (i := 0) (lo' := [none, some (.ref b3), some (.int v4), some (.int 0)]) ?_
  obtain ⟨σ7, he9, hf⟩ := bd_E hf
  refine hv_loop (P := fun s => hv_V k s.1 27 [none, some (.ref b3), some (.int v4), some (.int s.2)] []) (Z := fun s => hv_V k s 42 [none, none, none, none] []) (fun s r h1 h2 => by obtain ⟨σ, x3⟩ := s; exact w_Al_clear_l27 X N b3 v4 σ x3 r h1 h2) N (σ5, 0) _ he9 ?_
  try dsimp only at hf ⊢
  cases hf
  exact hv_vret X d_Al_clear_42 E
set_option maxHeartbeats 4000000 in
set_option maxRecDepth 100000 in
theorem w_Al_fastRemove_j34 {k : mk_T} (X : hv_X k b_Al_fastRemove y_Al_fastRemove.cls 4 1 60 none y_Al_fastRemove.name) (N : Nat) (σ : ho_H) (a0 : Nat) (a1 : Nat) (x3 : Int32)  (r : ho_H) (hf : f_Al_fastRemove_j34 k.2.1 N σ a0 a1 x3 = some r) (E : hv_end k r none) : hv_V k σ 34 [some (.ref a0), some (.ref a1), none, some (.int x3)] [] := by
  unfold f_Al_fastRemove_j34 at hf
  refine hv_aload_n (pn := 35) X d_Al_fastRemove_34 ?_
  refine hv_aload_n (pn := 36) X d_Al_fastRemove_35 ?_
  refine hv_iload_n (pn := 37) X d_Al_fastRemove_36 ?_
  refine hv_dup_x1 (pn := 38) X d_Al_fastRemove_37 rfl rfl ?_
  obtain ⟨σ4, hσ4, hf⟩ := bd_E hf
  refine hv_put (pn := 41) X d_Al_fastRemove_38 fp_Al_48 hσ4 ?_
  refine hv_null (pn := 42) X d_Al_fastRemove_41 ?_
  obtain ⟨σ5, hσ5, hf⟩ := bd_E hf
  refine hv_aastN (pn := 43) X d_Al_fastRemove_42 rfl hσ5 ?_
  cases hf
  exact hv_vret X d_Al_fastRemove_43 E
set_option maxHeartbeats 4000000 in
set_option maxRecDepth 100000 in
theorem c_Al_fastRemove (l : Launch) (G : ho_G) (N : Nat) (σ : ho_H) (a0 : Nat) (a1 : Nat) (x2 : Int32) (σ' : ho_H) (hf : f_Al_fastRemove G N σ a0 a1 x2 = some σ') : hv_C l G y_Al_fastRemove (Cond.code y_Al_fastRemove b_Al_fastRemove 4 none :: hv_ws) 1 60 [.ref a0, .ref a1, .int x2] σ σ' (none) := by
  refine hv_met [some (.ref a0), some (.ref a1), some (.int x2), none] (plainFor_of_name (by decide +kernel)) (by intro v hv; simp at hv; rcases hv with rfl | rfl | rfl <;> rfl) (Nat.le_of_ble_eq_true rfl) rfl ?_
  intro k X hkl hkG E
  subst hkl
  subst hkG
  unfold f_Al_fastRemove at hf
  refine hv_aload_n (pn := 1) X d_Al_fastRemove_0 ?_
  refine hv_dup (pn := 2) X d_Al_fastRemove_1 rfl ?_
  obtain ⟨v1, hv1, hf⟩ := bd_E hf
  refine hv_getI (pn := 5) X d_Al_fastRemove_2 fa_Al_63 hv1 ?_
  refine hv_iconst (pn := 6) (v := 1) X d_Al_fastRemove_5 ?_
  refine hv_iadd (pn := 7) X d_Al_fastRemove_6 ?_
  obtain ⟨σ2, hσ2, hf⟩ := bd_E hf
  refine hv_put (pn := 10) X d_Al_fastRemove_7 fp_Al_63 hσ2 ?_
  refine hv_aload_n (pn := 11) X d_Al_fastRemove_10 ?_
  obtain ⟨v3, hv3, hf⟩ := bd_E hf
  refine hv_getI (pn := 14) X d_Al_fastRemove_11 fa_Al_48 hv3 ?_
  refine hv_iconst (pn := 15) (v := 1) X d_Al_fastRemove_14 ?_
  refine hv_isub (pn := 16) X d_Al_fastRemove_15 ?_
  refine hv_dup (pn := 17) X d_Al_fastRemove_16 rfl ?_
  refine hv_istore_n (pn := 18) (i := 3) (lo' := [some (.ref a0), some (.ref a1), some (.int x2), some (.int (v3 - 1))]) X d_Al_fastRemove_17 ?_
  refine hv_iload_n (pn := 19) X d_Al_fastRemove_18 ?_
  refine hv_icmp_le (pn := 22) (tgt := 34) X d_Al_fastRemove_19 (by decide) (fun hc => ?_) (fun hc => ?_)
  · rw [if_pos hc] at hf
    refine hv_drop (i := 2) (lo' := [some (.ref a0), some (.ref a1), none, some (.int (v3 - 1))]) ?_
    exact w_Al_fastRemove_j34 X N σ2 a0 a1 (v3 - 1)  _ hf E
  · rw [if_neg hc] at hf
    refine hv_aload_n (pn := 23) X d_Al_fastRemove_22 ?_
    refine hv_iload_n (pn := 24) X d_Al_fastRemove_23 ?_
    refine hv_iconst (pn := 25) (v := 1) X d_Al_fastRemove_24 ?_
    refine hv_iadd (pn := 26) X d_Al_fastRemove_25 ?_
    refine hv_aload_n (pn := 27) X d_Al_fastRemove_26 ?_
    refine hv_iload_n (pn := 28) X d_Al_fastRemove_27 ?_
    refine hv_iload_n (pn := 29) X d_Al_fastRemove_28 ?_
    refine hv_iload_n (pn := 30) X d_Al_fastRemove_29 ?_
    refine hv_isub (pn := 31) X d_Al_fastRemove_30 ?_
    obtain ⟨σ6, hσ6, hf⟩ := bd_E hf
    refine hv_cpR (pn := 34) X d_Al_fastRemove_31 q_3_208 q_2_78 q_2_77 q_1_16 (List.mem_of_getElem? (i := 12) rfl) hσ6 (by decide) (by decide +kernel) (Nat.le_of_ble_eq_true rfl) ?_
    refine hv_drop (i := 2) (lo' := [some (.ref a0), some (.ref a1), none, some (.int (v3 - 1))]) ?_
    exact w_Al_fastRemove_j34 X N σ6 a0 a1 (v3 - 1)  _ hf E
set_option maxHeartbeats 4000000 in
set_option maxRecDepth 100000 in
theorem c_Al_remove (l : Launch) (G : ho_G) (N : Nat) (σ : ho_H) (a0 : Nat) (x1 : Int32) (σ' : ho_H) (r : Nat) (hf : f_Al_remove G N σ a0 x1 = some (σ', r)) : hv_C l G y_Al_remove (Cond.code y_Al_remove b_Al_remove 4 (some (.object "java/lang/Object")) :: hv_ws) 3 103 [.ref a0, .int x1] σ σ' (some (.ref r)) := by
  refine hv_met [some (.ref a0), some (.int x1), none, none] (plainFor_of_name (by decide +kernel)) (by intro v hv; simp at hv; rcases hv with rfl | rfl <;> rfl) (Nat.le_of_ble_eq_true rfl) rfl ?_
  intro k X hkl hkG E
  subst hkl
  subst hkG
  unfold f_Al_remove at hf
  refine hv_iload_n (pn := 1) X d_Al_remove_0 ?_
  refine hv_aload_n (pn := 2) X d_Al_remove_1 ?_
  obtain ⟨v1, hv1, hf⟩ := bd_E hf
  refine hv_getI (pn := 5) X d_Al_remove_2 fa_Al_48 hv1 ?_
  obtain ⟨v2, hv2, hf⟩ := bd_E hf
  refine hv_callS (pn := 8) X d_Al_remove_5 (c_Ob_checkIndex _ _ N σ x1 v1 _ hv2) cs_Al_118 q_3_77 (by decide) (by decide) ⟨Nat.le_refl _, Nat.le_refl _⟩ (Nat.le_of_ble_eq_true rfl) ?_
  refine hv_pop (pn := 9) X d_Al_remove_8 rfl ?_
  refine hv_aload_n (pn := 10) X d_Al_remove_9 ?_
  obtain ⟨b3, hb3, hf⟩ := bd_E hf
  refine hv_getR (pn := 13) X d_Al_remove_10 fa_Al_9 hb3 ?_
  refine hv_astore_n (pn := 14) (i := 2) (lo' := [some (.ref a0), some (.int x1), some (.ref b3), none]) X d_Al_remove_13 ?_
  refine hv_aload_n (pn := 15) X d_Al_remove_14 ?_
  refine hv_iload_n (pn := 16) X d_Al_remove_15 ?_
  obtain ⟨b4, hb4, hf⟩ := bd_E hf
  refine hv_aald (pn := 17) X d_Al_remove_16 rfl hb4 ?_
  refine hv_astore_n (pn := 18) (i := 3) (lo' := [some (.ref a0), some (.int x1), some (.ref b3), some (.ref b4)]) X d_Al_remove_17 ?_
  refine hv_aload_n (pn := 19) X d_Al_remove_18 ?_
  refine hv_aload_n (pn := 20) X d_Al_remove_19 ?_
  refine hv_iload_n (pn := 21) X d_Al_remove_20 ?_
  obtain ⟨_, hr5, hf⟩ := bd_E hf
  obtain ⟨σ6, hσ6, hf⟩ := bd_E hf
  obtain ⟨hσ6, mσ6⟩ := ho_cv_E hσ6
  refine hv_callV (pn := 24) X d_Al_remove_21 (c_Al_fastRemove _ _ N σ a0 b3 x1 _ hσ6) cs_Al_144 q_3_206 rfl qs_Al_fastRemove hr5 (by decide) (by decide) mσ6 (Nat.le_of_ble_eq_true rfl) ?_
  refine hv_aload_n (pn := 25) X d_Al_remove_24 ?_
  cases hf
  exact hv_aret X rfl (by first | exact Or.inl ⟨_, rfl⟩ | exact Or.inr ⟨_, rfl⟩) d_Al_remove_25 E
set_option maxHeartbeats 4000000 in
set_option maxRecDepth 100000 in
theorem c_Pk_init2 (l : Launch) (G : ho_G) (N : Nat) (σ : ho_H) (a0 : Nat) (a1 : Nat) (σ' : ho_H) (hf : f_Pk_init2 G N σ a0 a1 = some σ') : hv_C l G y_Pk_init2 (Cond.code y_Pk_init2 b_Pk_init2 2 none :: hv_ws) 1 60 [.ref a0, .ref a1] σ σ' (none) := by
  refine hv_met [some (.ref a0), some (.ref a1)] (plainFor_of_name (by decide +kernel)) (by intro v hv; simp at hv; rcases hv with rfl | rfl <;> rfl) (Nat.le_of_ble_eq_true rfl) rfl ?_
  intro k X hkl hkG E
  subst hkl
  subst hkG
  unfold f_Pk_init2 at hf
  refine hv_aload_n (pn := 1) X d_Pk_init2_0 ?_
  refine hv_oinit (pn := 4) X d_Pk_init2_1 q_2_182 q_1_30 q_1_31 (by decide) (by decide) (Nat.le_of_ble_eq_true rfl) ?_
  refine hv_aload_n (pn := 5) X d_Pk_init2_4 ?_
  refine hv_aload_n (pn := 6) X d_Pk_init2_5 ?_
  obtain ⟨b1, hb1, hf⟩ := bd_E hf
  refine hv_getR (pn := 9) X d_Pk_init2_6 fa_Pk_11 hb1 ?_
  obtain ⟨σ2, b3, hσ2, hf⟩ := bd2_E hf
  refine hv_clI (pn := 12) X d_Pk_init2_9 q_3_139 q_3_140 q_3_141 q_3_142 q_3_143 (List.mem_of_getElem? (i := 4) rfl) hσ2 (by decide) (by decide) (Nat.le_of_ble_eq_true rfl) ?_
  obtain ⟨_, hr4, hf⟩ := bd_E hf
  refine hv_cast_i (pn := 15) X d_Pk_init2_12 q_3_145 hr4 ?_
  obtain ⟨σ5, hσ5, hf⟩ := bd_E hf
  refine hv_putF (pn := 18) X d_Pk_init2_15 fp_Pk_11 hσ5 ?_
  cases hf
  exact hv_vret X d_Pk_init2_18 E
