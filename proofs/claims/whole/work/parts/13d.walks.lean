set_option maxHeartbeats 4000000 in
set_option maxRecDepth 100000 in
theorem w_Rc_init_l55 {k : mk_T} (X : hv_X k b_Rc_init y_Rc_init.cls 4 4 80 none y_Rc_init.name) (N : Nat) (a0 : Nat) (σ : ho_H) (x3 : Int32) (r : (ho_H × Int32) ⊕ (ho_H)) (hf : f_Rc_init_l55 k.2.1 N a0 (σ, x3) = some r) (E : sm (fun s => hv_V k s.1 55 [some (.ref a0), none, none, some (.int s.2)] []) (fun s => hv_V k s 80 [none, none, none, none] []) r) : hv_V k σ 55 [some (.ref a0), none, none, some (.int x3)] [] := by
  unfold f_Rc_init_l55 at hf
  try dsimp only at hf
  refine hv_iload_n (pn := 56) X d_Rc_init_55 ?_
  refine hv_bipush (pn := 58) (v := 8) X d_Rc_init_56 ?_
  refine hv_icmp_ge (pn := 61) (tgt := 80) X d_Rc_init_58 (by decide) (fun hc => ?_) (fun hc => ?_)
  · rw [if_pos hc] at hf
    refine hv_drop (i := 0) (lo' := [none, none, none, some (.int x3)]) ?_
    refine hv_drop (i := 3) (lo' := [none, none, none, none]) ?_
    cases hf
    exact E
  · rw [if_neg hc] at hf
    refine hv_aload_n (pn := 62) X d_Rc_init_61 ?_
    obtain ⟨b17, hb17, hf⟩ := bd_E hf
    refine hv_getR (pn := 65) X d_Rc_init_62 fa_Rc_11 hb17 ?_
    refine hv_iload_n (pn := 66) X d_Rc_init_65 ?_
    obtain ⟨σ18, b19, hσ18, hf⟩ := bd2_E hf
    refine hv_new (pn := 69) X d_Rc_init_66 nw_Rc_9 hσ18 ?_
    refine hv_dup (pn := 70) X d_Rc_init_69 rfl ?_
    obtain ⟨σ20, hσ20, hf⟩ := bd_E hf
    obtain ⟨hσ20, mσ20⟩ := ho_cv_E hσ20
    refine hv_callI (pn := 73) X d_Rc_init_70 (c_Kc_init _ _ N σ18 b19 _ hσ20) cs_Rc_39 rfl q_1_88 (by decide) (by decide) mσ20 (Nat.le_of_ble_eq_true rfl) ?_
    obtain ⟨_, hr22, hf⟩ := bd_E hf
    obtain ⟨σ21, hσ21, hf⟩ := bd_E hf
    refine hv_aast (pn := 74) X d_Rc_init_73 rfl rfl (Or.inl rfl) hr22 hσ21 ?_
    refine hv_iinc (pn := 77) (i := 3) (v := x3 + 1) (lo' := [some (.ref a0), none, none, some (.int (x3 + 1))]) X d_Rc_init_74 ?_
    refine hv_goto (tgt := 55) X d_Rc_init_77 (by decide) ?_
    cases hf
    exact E
set_option maxHeartbeats 4000000 in
set_option maxRecDepth 100000 in
theorem c_Rc_init (l : Launch) (G : ho_G) (N : Nat) (σ : ho_H) (a0 : Nat) (a1 : Nat) (a2 : Nat) (σ' : ho_H) (hf : f_Rc_init G N σ a0 a1 a2 = some σ') : hv_C l G y_Rc_init (Cond.code y_Rc_init b_Rc_init 4 none :: hv_ws) 4 80 [.ref a0, .ref a1, .ref a2] σ σ' (none) := by
  refine hv_met [some (.ref a0), some (.ref a1), some (.ref a2), none] (plainFor_of_name (by decide +kernel)) (by intro v hv; simp at hv; rcases hv with rfl | rfl | rfl <;> rfl) (Nat.le_of_ble_eq_true rfl) rfl ?_
  intro k X hkl hkG E
  subst hkl
  subst hkG
  unfold f_Rc_init at hf
  refine hv_aload_n (pn := 1) X d_Rc_init_0 ?_
  refine hv_oinit (pn := 4) X d_Rc_init_1 q_1_135 q_1_30 q_1_31 (by decide) (by decide) (Nat.le_of_ble_eq_true rfl) ?_
  refine hv_aload_n (pn := 5) X d_Rc_init_4 ?_
  refine hv_bipush (pn := 7) (v := 8) X d_Rc_init_5 ?_
  obtain ⟨σ1, b2, hσ1, hf⟩ := bd2_E hf
  refine hv_anew (pn := 10) X d_Rc_init_7 q_1_136 (List.mem_of_getElem? (i := 0) rfl) rfl hσ1 ?_
  obtain ⟨σ3, hσ3, hf⟩ := bd_E hf
  refine hv_putF (pn := 13) X d_Rc_init_10 fp_Rc_11 hσ3 ?_
  refine hv_aload_n (pn := 14) X d_Rc_init_13 ?_
  obtain ⟨σ4, b5, hσ4, hf⟩ := bd2_E hf
  refine hv_new (pn := 17) X d_Rc_init_14 nw_Rc_17 hσ4 ?_
  refine hv_dup (pn := 18) X d_Rc_init_17 rfl ?_
  obtain ⟨σ6, hσ6, hf⟩ := bd_E hf
  obtain ⟨hσ6, mσ6⟩ := ho_cv_E hσ6
  refine hv_callI (pn := 21) X d_Rc_init_18 (c_Al_init _ _ N σ4 b5 _ hσ6) cs_Rc_19 rfl q_1_106 (by decide) (by decide) mσ6 (Nat.le_of_ble_eq_true rfl) ?_
  obtain ⟨σ7, hσ7, hf⟩ := bd_E hf
  refine hv_putF (pn := 24) X d_Rc_init_21 fp_Rc_20 hσ7 ?_
  refine hv_aload_n (pn := 25) X d_Rc_init_24 ?_
  obtain ⟨σ8, b9, hσ8, hf⟩ := bd2_E hf
  refine hv_new (pn := 28) X d_Rc_init_25 nw_Rc_17 hσ8 ?_
  refine hv_dup (pn := 29) X d_Rc_init_28 rfl ?_
  obtain ⟨σ10, hσ10, hf⟩ := bd_E hf
  obtain ⟨hσ10, mσ10⟩ := ho_cv_E hσ10
  refine hv_callI (pn := 32) X d_Rc_init_29 (c_Al_init _ _ N σ8 b9 _ hσ10) cs_Rc_19 rfl q_1_106 (by decide) (by decide) mσ10 (Nat.le_of_ble_eq_true rfl) ?_
  obtain ⟨σ11, hσ11, hf⟩ := bd_E hf
  refine hv_putF (pn := 35) X d_Rc_init_32 fp_Rc_24 hσ11 ?_
  refine hv_aload_n (pn := 36) X d_Rc_init_35 ?_
  refine hv_bipush (pn := 38) (v := 7) X d_Rc_init_36 ?_
  obtain ⟨σ12, b13, hσ12, hf⟩ := bd2_E hf
  refine hv_nwI (pn := 40) X d_Rc_init_38 q_1_83 hσ12 ?_
  obtain ⟨σ14, hσ14, hf⟩ := bd_E hf
  refine hv_putF (pn := 43) X d_Rc_init_40 fp_Rc_27 hσ14 ?_
  refine hv_aload_n (pn := 44) X d_Rc_init_43 ?_
  refine hv_aload_n (pn := 45) X d_Rc_init_44 ?_
  obtain ⟨σ15, hσ15, hf⟩ := bd_E hf
  refine hv_putF (pn := 48) X d_Rc_init_45 fp_Rc_31 hσ15 ?_
  refine hv_aload_n (pn := 49) X d_Rc_init_48 ?_
  refine hv_aload_n (pn := 50) X d_Rc_init_49 ?_
  obtain ⟨σ16, hσ16, hf⟩ := bd_E hf
  refine hv_putF (pn := 53) X d_Rc_init_50 fp_Rc_35 hσ16 ?_
  refine hv_iconst (pn := 54) (v := 0) X d_Rc_init_53 ?_
  refine hv_istore_n (pn := 55) (i := 3) (lo' := [some (.ref a0), some (.ref a1), some (.ref a2), some (.int 0)]) X d_Rc_init_54 ?_
  refine hv_drop (i := 1) (lo' := [some (.ref a0), none, some (.ref a2), some (.int 0)]) ?_
  refine hv_drop (i := 2) (lo' := [some (.ref a0), none, none, some (.int 0)]) ?_
  obtain ⟨σ23, he25, hf⟩ := bd_E hf
  refine hv_loop (P := fun s => hv_V k s.1 55 [some (.ref a0), none, none, some (.int s.2)] []) (Z := fun s => hv_V k s 80 [none, none, none, none] []) (fun s r h1 h2 => by obtain ⟨σ, x3⟩ := s; exact w_Rc_init_l55 X N a0 σ x3 r h1 h2) N (σ16, 0) _ he25 ?_
  try dsimp only at hf ⊢
  cases hf
  exact hv_vret X d_Rc_init_80 E
set_option maxHeartbeats 4000000 in
set_option maxRecDepth 100000 in
theorem w_Of_init_l70 {k : mk_T} (X : hv_X k b_Of_init y_Of_init.cls 5 5 103 none y_Of_init.name) (N : Nat) (a0 : Nat) (σ : ho_H) (x4 : Int32) (r : (ho_H × Int32) ⊕ (ho_H)) (hf : f_Of_init_l70 k.2.1 N a0 (σ, x4) = some r) (E : sm (fun s => hv_V k s.1 70 [some (.ref a0), none, none, none, some (.int s.2)] []) (fun s => hv_V k s 97 [some (.ref a0), none, none, none, none] []) r) : hv_V k σ 70 [some (.ref a0), none, none, none, some (.int x4)] [] := by
  unfold f_Of_init_l70 at hf
  try dsimp only at hf
  refine hv_iload (pn := 72) X d_Of_init_70 ?_
  refine hv_bipush (pn := 74) (v := 8) X d_Of_init_72 ?_
  refine hv_icmp_ge (pn := 77) (tgt := 97) X d_Of_init_74 (by decide) (fun hc => ?_) (fun hc => ?_)
  · rw [if_pos hc] at hf
    refine hv_drop (i := 4) (lo' := [some (.ref a0), none, none, none, none]) ?_
    cases hf
    exact E
  · rw [if_neg hc] at hf
    refine hv_aload_n (pn := 78) X d_Of_init_77 ?_
    obtain ⟨b18, hb18, hf⟩ := bd_E hf
    refine hv_getR (pn := 81) X d_Of_init_78 fa_Of_37 hb18 ?_
    refine hv_iload (pn := 83) X d_Of_init_81 ?_
    obtain ⟨σ19, b20, hσ19, hf⟩ := bd2_E hf
    refine hv_new (pn := 86) X d_Of_init_83 nw_Of_35 hσ19 ?_
    refine hv_dup (pn := 87) X d_Of_init_86 rfl ?_
    obtain ⟨σ21, hσ21, hf⟩ := bd_E hf
    obtain ⟨hσ21, mσ21⟩ := ho_cv_E hσ21
    refine hv_callI (pn := 90) X d_Of_init_87 (c_Kc_init _ _ N σ19 b20 _ hσ21) cs_Of_41 rfl q_1_88 (by decide) (by decide) mσ21 (Nat.le_of_ble_eq_true rfl) ?_
    obtain ⟨_, hr23, hf⟩ := bd_E hf
    obtain ⟨σ22, hσ22, hf⟩ := bd_E hf
    refine hv_aast (pn := 91) X d_Of_init_90 rfl rfl (Or.inl rfl) hr23 hσ22 ?_
    refine hv_iinc (pn := 94) (i := 4) (v := x4 + 1) (lo' := [some (.ref a0), none, none, none, some (.int (x4 + 1))]) X d_Of_init_91 ?_
    refine hv_goto (tgt := 70) X d_Of_init_94 (by decide) ?_
    cases hf
    exact E
set_option maxHeartbeats 4000000 in
set_option maxRecDepth 100000 in
theorem w_Of_init_l120 {k : mk_T} (X : hv_X k b_Of_init y_Of_init.cls 5 5 103 none y_Of_init.name) (N : Nat) (a0 : Nat) (σ : ho_H) (x4 : Int32) (r : (ho_H × Int32) ⊕ (ho_H)) (hf : f_Of_init_l120 k.2.1 N a0 (σ, x4) = some r) (E : sm (fun s => hv_V k s.1 120 [some (.ref a0), none, none, none, some (.int s.2)] []) (fun s => hv_V k s 155 [none, none, none, none, none] []) r) : hv_V k σ 120 [some (.ref a0), none, none, none, some (.int x4)] [] := by
  unfold f_Of_init_l120 at hf
  try dsimp only at hf
  refine hv_iload (pn := 122) X d_Of_init_120 ?_
  refine hv_bipush (pn := 124) (v := 8) X d_Of_init_122 ?_
  refine hv_icmp_ge (pn := 127) (tgt := 155) X d_Of_init_124 (by decide) (fun hc => ?_) (fun hc => ?_)
  · rw [if_pos hc] at hf
    refine hv_drop (i := 0) (lo' := [none, none, none, none, some (.int x4)]) ?_
    refine hv_drop (i := 4) (lo' := [none, none, none, none, none]) ?_
    cases hf
    exact E
  · rw [if_neg hc] at hf
    refine hv_aload_n (pn := 128) X d_Of_init_127 ?_
    obtain ⟨b32, hb32, hf⟩ := bd_E hf
    refine hv_getR (pn := 131) X d_Of_init_128 fa_Of_51 hb32 ?_
    refine hv_iload (pn := 133) X d_Of_init_131 ?_
    obtain ⟨σ33, b34, hσ33, hf⟩ := bd2_E hf
    refine hv_new (pn := 136) X d_Of_init_133 nw_Of_49 hσ33 ?_
    refine hv_dup (pn := 137) X d_Of_init_136 rfl ?_
    refine hv_aload_n (pn := 138) X d_Of_init_137 ?_
    obtain ⟨b35, hb35, hf⟩ := bd_E hf
    refine hv_getR (pn := 141) X d_Of_init_138 fa_Of_18 hb35 ?_
    refine hv_aload_n (pn := 142) X d_Of_init_141 ?_
    obtain ⟨b36, hb36, hf⟩ := bd_E hf
    refine hv_getR (pn := 145) X d_Of_init_142 fa_Of_27 hb36 ?_
    obtain ⟨σ37, hσ37, hf⟩ := bd_E hf
    obtain ⟨hσ37, mσ37⟩ := ho_cv_E hσ37
    refine hv_callI (pn := 148) X d_Of_init_145 (c_Rc_init _ _ N σ33 b34 b35 b36 _ hσ37) cs_Of_55 rfl q_1_133 (by decide) (by decide) mσ37 (Nat.le_of_ble_eq_true rfl) ?_
    obtain ⟨_, hr39, hf⟩ := bd_E hf
    obtain ⟨σ38, hσ38, hf⟩ := bd_E hf
    refine hv_aast (pn := 149) X d_Of_init_148 rfl rfl (Or.inl rfl) hr39 hσ38 ?_
    refine hv_iinc (pn := 152) (i := 4) (v := x4 + 1) (lo' := [some (.ref a0), none, none, none, some (.int (x4 + 1))]) X d_Of_init_149 ?_
    refine hv_goto (tgt := 120) X d_Of_init_152 (by decide) ?_
    cases hf
    exact E
set_option maxHeartbeats 4000000 in
set_option maxRecDepth 100000 in
theorem c_Of_init (l : Launch) (G : ho_G) (N : Nat) (σ : ho_H) (a0 : Nat) (x1 : Int32) (x2 : Int32) (x3 : Int32) (σ' : ho_H) (hf : f_Of_init G N σ a0 x1 x2 x3 = some σ') : hv_C l G y_Of_init (Cond.code y_Of_init b_Of_init 5 none :: hv_ws) 5 103 [.ref a0, .int x1, .int x2, .int x3] σ σ' (none) := by
  refine hv_met [some (.ref a0), some (.int x1), some (.int x2), some (.int x3), none] (plainFor_of_name (by decide +kernel)) (by intro v hv; simp at hv; rcases hv with rfl | rfl | rfl | rfl <;> rfl) (Nat.le_of_ble_eq_true rfl) rfl ?_
  intro k X hkl hkG E
  subst hkl
  subst hkG
  unfold f_Of_init at hf
  refine hv_aload_n (pn := 1) X d_Of_init_0 ?_
  refine hv_oinit (pn := 4) X d_Of_init_1 q_1_29 q_1_30 q_1_31 (by decide) (by decide) (Nat.le_of_ble_eq_true rfl) ?_
  refine hv_aload_n (pn := 5) X d_Of_init_4 ?_
  obtain ⟨σ1, b2, hσ1, hf⟩ := bd2_E hf
  refine hv_new (pn := 8) X d_Of_init_5 nw_Of_7 hσ1 ?_
  refine hv_dup (pn := 9) X d_Of_init_8 rfl ?_
  refine hv_iconst (pn := 10) (v := 1) X d_Of_init_9 ?_
  refine hv_iload_n (pn := 11) X d_Of_init_10 ?_
  refine hv_bipush (pn := 13) (v := 8) X d_Of_init_11 ?_
  obtain ⟨v3, hv3, hf⟩ := bd_E hf
  refine hv_callS (pn := 16) X d_Of_init_13 (c_Mt_floorMod _ _ N σ1 x1 8 _ hv3) cs_Of_9 q_1_35 (by decide) (by decide) ⟨Nat.le_refl _, Nat.le_refl _⟩ (Nat.le_of_ble_eq_true rfl) ?_
  refine hv_iadd (pn := 17) X d_Of_init_16 ?_
  refine hv_iconst (pn := 18) (v := 1) X d_Of_init_17 ?_
  refine hv_iload_n (pn := 19) X d_Of_init_18 ?_
  refine hv_sipush (pn := 22) (v := 1000) X d_Of_init_19 ?_
  obtain ⟨v4, hv4, hf⟩ := bd_E hf
  refine hv_callS (pn := 25) X d_Of_init_22 (c_Mt_floorMod _ _ N σ1 x2 1000 _ hv4) cs_Of_9 q_1_35 (by decide) (by decide) ⟨Nat.le_refl _, Nat.le_refl _⟩ (Nat.le_of_ble_eq_true rfl) ?_
  refine hv_iadd (pn := 26) X d_Of_init_25 ?_
  refine hv_iload_n (pn := 27) X d_Of_init_26 ?_
  refine hv_sipush (pn := 30) (v := 10001) X d_Of_init_27 ?_
  obtain ⟨v5, hv5, hf⟩ := bd_E hf
  refine hv_callS (pn := 33) X d_Of_init_30 (c_Mt_floorMod _ _ N σ1 x3 10001 _ hv5) cs_Of_9 q_1_35 (by decide) (by decide) ⟨Nat.le_refl _, Nat.le_refl _⟩ (Nat.le_of_ble_eq_true rfl) ?_
  obtain ⟨σ6, hσ6, hf⟩ := bd_E hf
  obtain ⟨hσ6, mσ6⟩ := ho_cv_E hσ6
  refine hv_callI (pn := 36) X d_Of_init_33 (c_Ck_init _ _ N σ1 b2 (1 + v3) (1 + v4) v5 _ hσ6) cs_Of_15 rfl q_1_38 (by decide) (by decide) mσ6 (Nat.le_of_ble_eq_true rfl) ?_
  obtain ⟨σ7, hσ7, hf⟩ := bd_E hf
  refine hv_putF (pn := 39) X d_Of_init_36 fp_Of_18 hσ7 ?_
  refine hv_aload_n (pn := 40) X d_Of_init_39 ?_
  obtain ⟨σ8, b9, hσ8, hf⟩ := bd2_E hf
  refine hv_new (pn := 43) X d_Of_init_40 nw_Of_24 hσ8 ?_
  refine hv_dup (pn := 44) X d_Of_init_43 rfl ?_
  obtain ⟨σ10, hσ10, hf⟩ := bd_E hf
  obtain ⟨hσ10, mσ10⟩ := ho_cv_E hσ10
  refine hv_callI (pn := 47) X d_Of_init_44 (c_Sl_init _ _ N σ8 b9 _ hσ10) cs_Of_26 rfl q_1_60 (by decide) (by decide) mσ10 (Nat.le_of_ble_eq_true rfl) ?_
  obtain ⟨σ11, hσ11, hf⟩ := bd_E hf
  refine hv_putF (pn := 50) X d_Of_init_47 fp_Of_27 hσ11 ?_
  refine hv_aload_n (pn := 51) X d_Of_init_50 ?_
  refine hv_bipush (pn := 53) (v := 8) X d_Of_init_51 ?_
  obtain ⟨σ12, b13, hσ12, hf⟩ := bd2_E hf
  refine hv_nwI (pn := 55) X d_Of_init_53 q_1_83 hσ12 ?_
  obtain ⟨σ14, hσ14, hf⟩ := bd_E hf
  refine hv_putF (pn := 58) X d_Of_init_55 fp_Of_31 hσ14 ?_
  refine hv_aload_n (pn := 59) X d_Of_init_58 ?_
  refine hv_bipush (pn := 61) (v := 8) X d_Of_init_59 ?_
  obtain ⟨σ15, b16, hσ15, hf⟩ := bd2_E hf
  refine hv_anew (pn := 64) X d_Of_init_61 q_1_84 (List.mem_of_getElem? (i := 0) rfl) rfl hσ15 ?_
  obtain ⟨σ17, hσ17, hf⟩ := bd_E hf
  refine hv_putF (pn := 67) X d_Of_init_64 fp_Of_37 hσ17 ?_
  refine hv_iconst (pn := 68) (v := 0) X d_Of_init_67 ?_
  refine hv_istore (pn := 70) (i := 4) (lo' := [some (.ref a0), some (.int x1), some (.int x2), some (.int x3), some (.int 0)]) X d_Of_init_68 ?_
  refine hv_drop (i := 1) (lo' := [some (.ref a0), none, some (.int x2), some (.int x3), some (.int 0)]) ?_
  refine hv_drop (i := 2) (lo' := [some (.ref a0), none, none, some (.int x3), some (.int 0)]) ?_
  refine hv_drop (i := 3) (lo' := [some (.ref a0), none, none, none, some (.int 0)]) ?_
  obtain ⟨σ24, he44, hf⟩ := bd_E hf
  refine hv_loop (P := fun s => hv_V k s.1 70 [some (.ref a0), none, none, none, some (.int s.2)] []) (Z := fun s => hv_V k s 97 [some (.ref a0), none, none, none, none] []) (fun s r h1 h2 => by obtain ⟨σ, x4⟩ := s; exact w_Of_init_l70 X N a0 σ x4 r h1 h2) N (σ17, 0) _ he44 ?_
  try dsimp only at hf ⊢
  refine hv_aload_n (pn := 98) X d_Of_init_97 ?_
  obtain ⟨σ25, b26, hσ25, hf⟩ := bd2_E hf
  refine hv_new (pn := 101) X d_Of_init_98 nw_Of_42 hσ25 ?_
  refine hv_dup (pn := 102) X d_Of_init_101 rfl ?_
  obtain ⟨σ27, hσ27, hf⟩ := bd_E hf
  obtain ⟨hσ27, mσ27⟩ := ho_cv_E hσ27
  refine hv_callI (pn := 105) X d_Of_init_102 (c_Al_init _ _ N σ25 b26 _ hσ27) cs_Of_44 rfl q_1_106 (by decide) (by decide) mσ27 (Nat.le_of_ble_eq_true rfl) ?_
  obtain ⟨σ28, hσ28, hf⟩ := bd_E hf
  refine hv_putF (pn := 108) X d_Of_init_105 fp_Of_45 hσ28 ?_
  refine hv_aload_n (pn := 109) X d_Of_init_108 ?_
  refine hv_bipush (pn := 111) (v := 8) X d_Of_init_109 ?_
  obtain ⟨σ29, b30, hσ29, hf⟩ := bd2_E hf
  refine hv_anew (pn := 114) X d_Of_init_111 q_1_129 (List.mem_of_getElem? (i := 1) rfl) rfl hσ29 ?_
  obtain ⟨σ31, hσ31, hf⟩ := bd_E hf
  refine hv_putF (pn := 117) X d_Of_init_114 fp_Of_51 hσ31 ?_
  refine hv_iconst (pn := 118) (v := 0) X d_Of_init_117 ?_
  refine hv_istore (pn := 120) (i := 4) (lo' := [some (.ref a0), none, none, none, some (.int 0)]) X d_Of_init_118 ?_
  obtain ⟨σ40, he42, hf⟩ := bd_E hf
  refine hv_loop (P := fun s => hv_V k s.1 120 [some (.ref a0), none, none, none, some (.int s.2)] []) (Z := fun s => hv_V k s 155 [none, none, none, none, none] []) (fun s r h1 h2 => by obtain ⟨σ, x4⟩ := s; exact w_Of_init_l120 X N a0 σ x4 r h1 h2) N (σ31, 0) _ he42 ?_
  try dsimp only at hf ⊢
  cases hf
  exact hv_vret X d_Of_init_155 E
set_option maxHeartbeats 4000000 in
set_option maxRecDepth 100000 in
theorem c_Of_count (l : Launch) (G : ho_G) (N : Nat) (σ : ho_H) (a0 : Nat) (x1 : Int32) (r : Int32) (hf : f_Of_count G N σ a0 x1 = some r) : hv_C l G y_Of_count (Cond.code y_Of_count b_Of_count 2 (some (.int)) :: hv_ws) 1 21 [.ref a0, .int x1] σ σ (some (.int r)) := by
  refine hv_met [some (.ref a0), some (.int x1)] (plainFor_of_name (by decide +kernel)) (by intro v hv; simp at hv; rcases hv with rfl | rfl <;> rfl) (Nat.le_of_ble_eq_true rfl) rfl ?_
  intro k X hkl hkG E
  subst hkl
  subst hkG
  unfold f_Of_count at hf
  refine hv_iload_n (pn := 1) X d_Of_count_0 ?_
  by_cases hs1_0 : x1 = 0
  · rw [if_pos hs1_0] at hf
    refine hv_tsw_in (n := 0) (off := 31) (tgt := 32) X d_Of_count_1 (by rw [hs1_0]; decide) (by decide) (by decide) (by decide) (by decide) ?_
    refine hv_aload_n (pn := 33) X d_Of_count_32 ?_
    obtain ⟨b2, hb2, hf⟩ := bd_E hf
    refine hv_getR (pn := 36) X d_Of_count_33 fa_Of_18 hb2 ?_
    obtain ⟨v3, hv3, hf⟩ := bd_E hf
    refine hv_getI (pn := 39) X d_Of_count_36 fa_Of_77 hv3 ?_
    cases hf
    exact hv_iret X d_Of_count_39 E
  · rw [if_neg hs1_0] at hf
    by_cases hs1_1 : x1 = 1
    · rw [if_pos hs1_1] at hf
      refine hv_tsw_in (n := 1) (off := 39) (tgt := 40) X d_Of_count_1 (by rw [hs1_1]; decide) (by decide) (by decide) (by decide) (by decide) ?_
      refine hv_aload_n (pn := 41) X d_Of_count_40 ?_
      obtain ⟨b4, hb4, hf⟩ := bd_E hf
      refine hv_getR (pn := 44) X d_Of_count_41 fa_Of_18 hb4 ?_
      refine hv_aload_n (pn := 45) X d_Of_count_44 ?_
      obtain ⟨b5, hb5, hf⟩ := bd_E hf
      refine hv_getR (pn := 48) X d_Of_count_45 fa_Of_18 hb5 ?_
      obtain ⟨v6, hv6, hf⟩ := bd_E hf
      refine hv_getI (pn := 51) X d_Of_count_48 fa_Of_77 hv6 ?_
      obtain ⟨_, hr7, hf⟩ := bd_E hf
      obtain ⟨v8, hv8, hf⟩ := bd_E hf
      refine hv_callV (pn := 54) X d_Of_count_51 (c_Ck_intervalAt _ _ N σ b4 v6 _ hv8) cs_Of_80 q_1_198 rfl q_1_199 hr7 (by decide) (by decide) ⟨Nat.le_refl _, Nat.le_refl _⟩ (Nat.le_of_ble_eq_true rfl) ?_
      cases hf
      exact hv_iret X d_Of_count_54 E
    · rw [if_neg hs1_1] at hf
      by_cases hs1_2 : x1 = 2
      · rw [if_pos hs1_2] at hf
        refine hv_tsw_in (n := 2) (off := 54) (tgt := 55) X d_Of_count_1 (by rw [hs1_2]; decide) (by decide) (by decide) (by decide) (by decide) ?_
        refine hv_aload_n (pn := 56) X d_Of_count_55 ?_
        obtain ⟨v9, hv9, hf⟩ := bd_E hf
        refine hv_getI (pn := 59) X d_Of_count_56 fa_Of_58 hv9 ?_
        cases hf
        exact hv_iret X d_Of_count_59 E
      · rw [if_neg hs1_2] at hf
        by_cases hs1_3 : x1 = 3
        · rw [if_pos hs1_3] at hf
          refine hv_tsw_in (n := 3) (off := 59) (tgt := 60) X d_Of_count_1 (by rw [hs1_3]; decide) (by decide) (by decide) (by decide) (by decide) ?_
          refine hv_aload_n (pn := 61) X d_Of_count_60 ?_
          obtain ⟨b10, hb10, hf⟩ := bd_E hf
          refine hv_getR (pn := 64) X d_Of_count_61 fa_Of_45 hb10 ?_
          obtain ⟨_, hr11, hf⟩ := bd_E hf
          obtain ⟨v12, hv12, hf⟩ := bd_E hf
          refine hv_callV (pn := 67) X d_Of_count_64 (c_Al_size _ _ N σ b10 _ hv12) cs_Of_107 q_1_202 rfl q_1_203 hr11 (by decide) (by decide) ⟨Nat.le_refl _, Nat.le_refl _⟩ (Nat.le_of_ble_eq_true rfl) ?_
          cases hf
          exact hv_iret X d_Of_count_67 E
        · rw [if_neg hs1_3] at hf
          refine hv_tsw_out (tgt := 68) X d_Of_count_1 (sw_out2 (a := 0) (n := 4) (by decide) (fun j hj => by match j, hj with | 0, _ => exact hs1_0 | 1, _ => exact hs1_1 | 2, _ => exact hs1_2 | 3, _ => exact hs1_3 | q + 4, h => exact absurd h (by omega))) (by decide) ?_
          refine hv_iconst (pn := 69) (v := (-1)) X d_Of_count_68 ?_
          cases hf
          exact hv_iret X d_Of_count_69 E
set_option maxHeartbeats 4000000 in
set_option maxRecDepth 100000 in
theorem w_Of_post_j76 {k : mk_T} (X : hv_X k b_Of_post y_Of_post.cls 4 7 192 (some (.int)) y_Of_post.name) (N : Nat) (σ : ho_H) (a0 : Nat) (a1 : Nat)  (r : ho_H × Int32) (hf : f_Of_post_j76 k.2.1 N σ a0 a1 = some r) (E : hv_end k r.1 (some (.int r.2))) : hv_V k σ 76 [some (.ref a0), some (.ref a1), none, none] [] := by
  unfold f_Of_post_j76 at hf
  refine hv_aload_n (pn := 77) X d_Of_post_76 ?_
  obtain ⟨b16, hb16, hf⟩ := bd_E hf
  refine hv_getR (pn := 80) X d_Of_post_77 fa_Of_45 hb16 ?_
  refine hv_aload_n (pn := 81) X d_Of_post_80 ?_
  obtain ⟨_, hr17, hf⟩ := bd_E hf
  obtain ⟨σ18, v19, hσ18, hf⟩ := bd2_E hf
  obtain ⟨hσ18, mσ18⟩ := ho_ck_E hσ18
  refine hv_callV (pn := 84) X d_Of_post_81 (c_Al_add1 _ _ N σ b16 a1 _ _ hσ18) cs_Of_204 q_2_238 rfl q_2_239 hr17 (by decide) (by decide) mσ18 (Nat.le_of_ble_eq_true rfl) ?_
  refine hv_pop (pn := 85) X d_Of_post_84 rfl ?_
  refine hv_aload_n (pn := 86) X d_Of_post_85 ?_
  obtain ⟨b20, hb20, hf⟩ := bd_E hf
  refine hv_getR (pn := 89) X d_Of_post_86 fa_Of_45 hb20 ?_
  obtain ⟨_, hr21, hf⟩ := bd_E hf
  obtain ⟨v22, hv22, hf⟩ := bd_E hf
  refine hv_callV (pn := 92) X d_Of_post_89 (c_Al_size _ _ N σ18 b20 _ hv22) cs_Of_107 q_1_202 rfl q_1_203 hr21 (by decide) (by decide) ⟨Nat.le_refl _, Nat.le_refl _⟩ (Nat.le_of_ble_eq_true rfl) ?_
  refine hv_iconst (pn := 93) (v := 1) X d_Of_post_92 ?_
  refine hv_isub (pn := 94) X d_Of_post_93 ?_
  cases hf
  exact hv_iret X d_Of_post_94 E
set_option maxHeartbeats 4000000 in
set_option maxRecDepth 100000 in
theorem c_Of_post (l : Launch) (G : ho_G) (N : Nat) (σ : ho_H) (a0 : Nat) (a1 : Nat) (σ' : ho_H) (r : Int32) (hf : f_Of_post G N σ a0 a1 = some (σ', r)) : hv_C l G y_Of_post (Cond.code y_Of_post b_Of_post 4 (some (.int)) :: hv_ws) 7 192 [.ref a0, .ref a1] σ σ' (some (.int r)) := by
  refine hv_met [some (.ref a0), some (.ref a1), none, none] (plainFor_of_name (by decide +kernel)) (by intro v hv; simp at hv; rcases hv with rfl | rfl <;> rfl) (Nat.le_of_ble_eq_true rfl) rfl ?_
  intro k X hkl hkG E
  subst hkl
  subst hkG
  unfold f_Of_post at hf
  refine hv_aload_n (pn := 1) X d_Of_post_0 ?_
  obtain ⟨_, hr1, hf⟩ := bd_E hf
  obtain ⟨v2, hv2, hf⟩ := bd_E hf
  refine hv_callV (pn := 4) X d_Of_post_1 (c_Pk_interval _ _ N σ a1 _ hv2) cs_Of_180 q_2_195 rfl q_2_196 hr1 (by decide) (by decide) ⟨Nat.le_refl _, Nat.le_refl _⟩ (Nat.le_of_ble_eq_true rfl) ?_
  refine hv_istore_n (pn := 5) (i := 2) (lo' := [some (.ref a0), some (.ref a1), some (.int v2), none]) X d_Of_post_4 ?_
  refine hv_aload_n (pn := 6) X d_Of_post_5 ?_
  obtain ⟨b3, hb3, hf⟩ := bd_E hf
  refine hv_getR (pn := 9) X d_Of_post_6 fa_Of_37 hb3 ?_
  refine hv_iload_n (pn := 10) X d_Of_post_9 ?_
  obtain ⟨v4, hv4, hf⟩ := bd_E hf
  refine hv_callS (pn := 13) X d_Of_post_10 (c_Of_chainOf _ _ N σ v2 _ hv4) cs_Of_104 q_2_160 (by decide) (by decide) ⟨Nat.le_refl _, Nat.le_refl _⟩ (Nat.le_of_ble_eq_true rfl) ?_
  obtain ⟨b5, hb5, hf⟩ := bd_E hf
  refine hv_aald (pn := 14) X d_Of_post_13 rfl hb5 ?_
  refine hv_iload_n (pn := 15) X d_Of_post_14 ?_
  obtain ⟨v6, hv6, hf⟩ := bd_E hf
  refine hv_callS (pn := 18) X d_Of_post_15 (c_Of_numberInChain _ _ N σ v2 _ hv6) cs_Of_187 q_2_202 (by decide) (by decide) ⟨Nat.le_refl _, Nat.le_refl _⟩ (Nat.le_of_ble_eq_true rfl) ?_
  refine hv_aload_n (pn := 19) X d_Of_post_18 ?_
  refine hv_aload_n (pn := 20) X d_Of_post_19 ?_
  obtain ⟨b7, hb7, hf⟩ := bd_E hf
  refine hv_getR (pn := 23) X d_Of_post_20 fa_Of_27 hb7 ?_
  obtain ⟨_, hr8, hf⟩ := bd_E hf
  obtain ⟨σ9, hσ9, hf⟩ := bd_E hf
  obtain ⟨hσ9, mσ9⟩ := ho_cv_E hσ9
  refine hv_callV (pn := 26) X d_Of_post_23 (c_Kc_sealPacket _ _ N σ b5 v6 a1 b7 _ hσ9) cs_Of_190 q_2_205 rfl q_2_206 hr8 (by decide) (by decide) mσ9 (Nat.le_of_ble_eq_true rfl) ?_
  refine hv_aload_n (pn := 27) X d_Of_post_26 ?_
  refine hv_aload_n (pn := 28) X d_Of_post_27 ?_
  obtain ⟨b10, hb10, hf⟩ := bd_E hf
  refine hv_getR (pn := 31) X d_Of_post_28 fa_Of_27 hb10 ?_
  obtain ⟨b11, hb11, hf⟩ := bd_E hf
  refine hv_getR (pn := 34) X d_Of_post_31 fa_Of_101 hb11 ?_
  obtain ⟨_, hr12, hf⟩ := bd_E hf
  obtain ⟨σ13, hσ13, hf⟩ := bd_E hf
  obtain ⟨hσ13, mσ13⟩ := ho_cv_E hσ13
  refine hv_callV (pn := 37) X d_Of_post_34 (c_Pk_writeCode _ _ N σ9 a1 b11 _ hσ13) cs_Of_194 q_2_219 rfl q_2_220 hr12 (by decide) (by decide) mσ13 (Nat.le_of_ble_eq_true rfl) ?_
  refine hv_iload_n (pn := 38) X d_Of_post_37 ?_
  refine hv_aload_n (pn := 39) X d_Of_post_38 ?_
  obtain ⟨b14, hb14, hf⟩ := bd_E hf
  refine hv_getR (pn := 42) X d_Of_post_39 fa_Of_18 hb14 ?_
  obtain ⟨v15, hv15, hf⟩ := bd_E hf
  refine hv_getI (pn := 45) X d_Of_post_42 fa_Of_198 hv15 ?_
  refine hv_isub (pn := 46) X d_Of_post_45 ?_
  refine hv_istore_n (pn := 47) (i := 3) (lo' := [some (.ref a0), some (.ref a1), some (.int v2), some (.int (v2 - v15))]) X d_Of_post_46 ?_
  refine hv_iload_n (pn := 48) X d_Of_post_47 ?_
  refine hv_iconst (pn := 49) (v := 1) X d_Of_post_48 ?_
  refine hv_icmp_lt (pn := 52) (tgt := 76) X d_Of_post_49 (by decide) (fun hc => ?_) (fun hc => ?_)
  · rw [if_pos hc] at hf
    refine hv_drop (i := 2) (lo' := [some (.ref a0), some (.ref a1), none, some (.int (v2 - v15))]) ?_
    refine hv_drop (i := 3) (lo' := [some (.ref a0), some (.ref a1), none, none]) ?_
    exact w_Of_post_j76 X N σ13 a0 a1  _ hf E
  · rw [if_neg hc] at hf
    refine hv_aload_n (pn := 53) X d_Of_post_52 ?_
    obtain ⟨b23, hb23, hf⟩ := bd_E hf
    refine hv_getR (pn := 56) X d_Of_post_53 fa_Of_37 hb23 ?_
    refine hv_iload_n (pn := 57) X d_Of_post_56 ?_
    obtain ⟨v24, hv24, hf⟩ := bd_E hf
    refine hv_callS (pn := 60) X d_Of_post_57 (c_Of_chainOf _ _ N σ13 (v2 - v15) _ hv24) cs_Of_104 q_2_160 (by decide) (by decide) ⟨Nat.le_refl _, Nat.le_refl _⟩ (Nat.le_of_ble_eq_true rfl) ?_
    obtain ⟨b25, hb25, hf⟩ := bd_E hf
    refine hv_aald (pn := 61) X d_Of_post_60 rfl hb25 ?_
    refine hv_iload_n (pn := 62) X d_Of_post_61 ?_
    obtain ⟨v26, hv26, hf⟩ := bd_E hf
    refine hv_callS (pn := 65) X d_Of_post_62 (c_Of_numberInChain _ _ N σ13 (v2 - v15) _ hv26) cs_Of_187 q_2_202 (by decide) (by decide) ⟨Nat.le_refl _, Nat.le_refl _⟩ (Nat.le_of_ble_eq_true rfl) ?_
    refine hv_aload_n (pn := 66) X d_Of_post_65 ?_
    obtain ⟨b27, hb27, hf⟩ := bd_E hf
    refine hv_getR (pn := 69) X d_Of_post_66 fa_Of_117 hb27 ?_
    refine hv_aload_n (pn := 70) X d_Of_post_69 ?_
    obtain ⟨_, hr28, hf⟩ := bd_E hf
    obtain ⟨v29, hv29, hf⟩ := bd_E hf
    refine hv_callV (pn := 73) X d_Of_post_70 (c_Pk_shownAt _ _ N σ13 a1 _ hv29) cs_Of_201 q_2_225 rfl q_2_226 hr28 (by decide) (by decide) ⟨Nat.le_refl _, Nat.le_refl _⟩ (Nat.le_of_ble_eq_true rfl) ?_
    obtain ⟨_, hr30, hf⟩ := bd_E hf
    obtain ⟨σ31, hσ31, hf⟩ := bd_E hf
    obtain ⟨hσ31, mσ31⟩ := ho_cv_E hσ31
    refine hv_callV (pn := 76) X d_Of_post_73 (c_Kc_writeKey _ _ N σ13 b25 v26 b27 v29 _ hσ31) cs_Of_124 q_2_229 rfl q_2_230 hr30 (by decide) (by decide) mσ31 (Nat.le_of_ble_eq_true rfl) ?_
    refine hv_drop (i := 2) (lo' := [some (.ref a0), some (.ref a1), none, some (.int (v2 - v15))]) ?_
    refine hv_drop (i := 3) (lo' := [some (.ref a0), some (.ref a1), none, none]) ?_
    exact w_Of_post_j76 X N σ31 a0 a1  _ hf E
set_option maxHeartbeats 4000000 in
set_option maxRecDepth 100000 in
theorem w_Of_hasPacketByte_j43 {k : mk_T} (X : hv_X k b_Of_hasPacketByte y_Of_hasPacketByte.cls 3 4 124 (some (.boolean)) y_Of_hasPacketByte.name) (N : Nat) (σ : ho_H) (y0 : Int32)  (r : Int32) (hf : f_Of_hasPacketByte_j43 k.2.1 N σ y0 = some r) (E : hv_end k σ (some (.int r))) : hv_V k σ 43 [none, none, none] [.int y0] := by
  unfold f_Of_hasPacketByte_j43 at hf
  obtain ⟨_, hz, hf⟩ := bd_E hf
  cases hf
  exact hv_zret X d_Of_hasPacketByte_43 (ho_bz_E hz) E
set_option maxHeartbeats 4000000 in
set_option maxRecDepth 100000 in
theorem w_Of_hasPacketByte_j42 {k : mk_T} (X : hv_X k b_Of_hasPacketByte y_Of_hasPacketByte.cls 3 4 124 (some (.boolean)) y_Of_hasPacketByte.name) (N : Nat) (σ : ho_H)   (r : Int32) (hf : f_Of_hasPacketByte_j42 k.2.1 N σ  = some r) (E : hv_end k σ (some (.int r))) : hv_V k σ 42 [none, none, none] [] := by
  unfold f_Of_hasPacketByte_j42 at hf
  refine hv_iconst (pn := 43) (v := 0) X d_Of_hasPacketByte_42 ?_
  exact w_Of_hasPacketByte_j43 X N σ 0  _ hf E
set_option maxHeartbeats 4000000 in
set_option maxRecDepth 100000 in
theorem c_Of_hasPacketByte (l : Launch) (G : ho_G) (N : Nat) (σ : ho_H) (a0 : Nat) (x1 : Int32) (x2 : Int32) (r : Int32) (hf : f_Of_hasPacketByte G N σ a0 x1 x2 = some r) : hv_C l G y_Of_hasPacketByte (Cond.code y_Of_hasPacketByte b_Of_hasPacketByte 3 (some (.boolean)) :: hv_ws) 4 124 [.ref a0, .int x1, .int x2] σ σ (some (.int r)) := by
  refine hv_met [some (.ref a0), some (.int x1), some (.int x2)] (plainFor_of_name (by decide +kernel)) (by intro v hv; simp at hv; rcases hv with rfl | rfl | rfl <;> rfl) (Nat.le_of_ble_eq_true rfl) rfl ?_
  intro k X hkl hkG E
  subst hkl
  subst hkG
  unfold f_Of_hasPacketByte at hf
  refine hv_iload_n (pn := 1) X d_Of_hasPacketByte_0 ?_
  refine hv_if_lt (pn := 4) (tgt := 42) X d_Of_hasPacketByte_1 (by decide) (fun hc => ?_) (fun hc => ?_)
  · rw [if_pos hc] at hf
    refine hv_drop (i := 0) (lo' := [none, some (.int x1), some (.int x2)]) ?_
    refine hv_drop (i := 1) (lo' := [none, none, some (.int x2)]) ?_
    refine hv_drop (i := 2) (lo' := [none, none, none]) ?_
    exact w_Of_hasPacketByte_j42 X N σ   _ hf E
  · rw [if_neg hc] at hf
    refine hv_iload_n (pn := 5) X d_Of_hasPacketByte_4 ?_
    refine hv_aload_n (pn := 6) X d_Of_hasPacketByte_5 ?_
    obtain ⟨b1, hb1, hf⟩ := bd_E hf
    refine hv_getR (pn := 9) X d_Of_hasPacketByte_6 fa_Of_45 hb1 ?_
    obtain ⟨_, hr2, hf⟩ := bd_E hf
    obtain ⟨v3, hv3, hf⟩ := bd_E hf
    refine hv_callV (pn := 12) X d_Of_hasPacketByte_9 (c_Al_size _ _ N σ b1 _ hv3) cs_Of_107 q_1_202 rfl q_1_203 hr2 (by decide) (by decide) ⟨Nat.le_refl _, Nat.le_refl _⟩ (Nat.le_of_ble_eq_true rfl) ?_
    refine hv_icmp_ge (pn := 15) (tgt := 42) X d_Of_hasPacketByte_12 (by decide) (fun hc => ?_) (fun hc => ?_)
    · rw [if_pos hc] at hf
      refine hv_drop (i := 0) (lo' := [none, some (.int x1), some (.int x2)]) ?_
      refine hv_drop (i := 1) (lo' := [none, none, some (.int x2)]) ?_
      refine hv_drop (i := 2) (lo' := [none, none, none]) ?_
      exact w_Of_hasPacketByte_j42 X N σ   _ hf E
    · rw [if_neg hc] at hf
      refine hv_iload_n (pn := 16) X d_Of_hasPacketByte_15 ?_
      refine hv_if_lt (pn := 19) (tgt := 42) X d_Of_hasPacketByte_16 (by decide) (fun hc => ?_) (fun hc => ?_)
      · rw [if_pos hc] at hf
        refine hv_drop (i := 0) (lo' := [none, some (.int x1), some (.int x2)]) ?_
        refine hv_drop (i := 1) (lo' := [none, none, some (.int x2)]) ?_
        refine hv_drop (i := 2) (lo' := [none, none, none]) ?_
        exact w_Of_hasPacketByte_j42 X N σ   _ hf E
      · rw [if_neg hc] at hf
        refine hv_iload_n (pn := 20) X d_Of_hasPacketByte_19 ?_
        refine hv_aload_n (pn := 21) X d_Of_hasPacketByte_20 ?_
        obtain ⟨b4, hb4, hf⟩ := bd_E hf
        refine hv_getR (pn := 24) X d_Of_hasPacketByte_21 fa_Of_45 hb4 ?_
        refine hv_iload_n (pn := 25) X d_Of_hasPacketByte_24 ?_
        obtain ⟨_, hr5, hf⟩ := bd_E hf
        obtain ⟨b6, hb6, hf⟩ := bd_E hf
        refine hv_callV (pn := 28) X d_Of_hasPacketByte_25 (c_Al_get _ _ N σ b4 x1 _ hb6) cs_Of_132 q_3_73 rfl q_3_74 hr5 (by decide) (by decide) ⟨Nat.le_refl _, Nat.le_refl _⟩ (Nat.le_of_ble_eq_true rfl) ?_
        obtain ⟨_, hr7, hf⟩ := bd_E hf
        refine hv_cast_o (pn := 31) X d_Of_hasPacketByte_28 q_2_177 rfl (List.mem_of_getElem? (i := 5) rfl) hr7 ?_
        obtain ⟨b8, hb8, hf⟩ := bd_E hf
        refine hv_getR (pn := 34) X d_Of_hasPacketByte_31 fa_Of_117 hb8 ?_
        obtain ⟨v9, hv9, hf⟩ := bd_E hf
        refine hv_alenI (pn := 35) X d_Of_hasPacketByte_34 hv9 ?_
        refine hv_icmp_ge (pn := 38) (tgt := 42) X d_Of_hasPacketByte_35 (by decide) (fun hc => ?_) (fun hc => ?_)
        · rw [if_pos hc] at hf
          refine hv_drop (i := 0) (lo' := [none, some (.int x1), some (.int x2)]) ?_
          refine hv_drop (i := 1) (lo' := [none, none, some (.int x2)]) ?_
          refine hv_drop (i := 2) (lo' := [none, none, none]) ?_
          exact w_Of_hasPacketByte_j42 X N σ   _ hf E
        · rw [if_neg hc] at hf
          refine hv_iconst (pn := 39) (v := 1) X d_Of_hasPacketByte_38 ?_
          refine hv_goto (tgt := 43) X d_Of_hasPacketByte_39 (by decide) ?_
          refine hv_drop (i := 0) (lo' := [none, some (.int x1), some (.int x2)]) ?_
          refine hv_drop (i := 1) (lo' := [none, none, some (.int x2)]) ?_
          refine hv_drop (i := 2) (lo' := [none, none, none]) ?_
          exact w_Of_hasPacketByte_j43 X N σ 1  _ hf E
set_option maxHeartbeats 4000000 in
set_option maxRecDepth 100000 in
theorem w_Of_isKept_j33 {k : mk_T} (X : hv_X k b_Of_isKept y_Of_isKept.cls 3 1 21 (some (.boolean)) y_Of_isKept.name) (N : Nat) (σ : ho_H) (y0 : Int32)  (r : Int32) (hf : f_Of_isKept_j33 k.2.1 N σ y0 = some r) (E : hv_end k σ (some (.int r))) : hv_V k σ 33 [none, none, none] [.int y0] := by
  unfold f_Of_isKept_j33 at hf
  obtain ⟨_, hz, hf⟩ := bd_E hf
  cases hf
  exact hv_zret X d_Of_isKept_33 (ho_bz_E hz) E
set_option maxHeartbeats 4000000 in
set_option maxRecDepth 100000 in
theorem w_Of_isKept_j32 {k : mk_T} (X : hv_X k b_Of_isKept y_Of_isKept.cls 3 1 21 (some (.boolean)) y_Of_isKept.name) (N : Nat) (σ : ho_H)   (r : Int32) (hf : f_Of_isKept_j32 k.2.1 N σ  = some r) (E : hv_end k σ (some (.int r))) : hv_V k σ 32 [none, none, none] [] := by
  unfold f_Of_isKept_j32 at hf
  refine hv_iconst (pn := 33) (v := 0) X d_Of_isKept_32 ?_
  exact w_Of_isKept_j33 X N σ 0  _ hf E
set_option maxHeartbeats 4000000 in
set_option maxRecDepth 100000 in
theorem c_Of_isKept (l : Launch) (G : ho_G) (N : Nat) (σ : ho_H) (a0 : Nat) (x1 : Int32) (x2 : Int32) (r : Int32) (hf : f_Of_isKept G N σ a0 x1 x2 = some r) : hv_C l G y_Of_isKept (Cond.code y_Of_isKept b_Of_isKept 3 (some (.boolean)) :: hv_ws) 1 21 [.ref a0, .int x1, .int x2] σ σ (some (.int r)) := by
  refine hv_met [some (.ref a0), some (.int x1), some (.int x2)] (plainFor_of_name (by decide +kernel)) (by intro v hv; simp at hv; rcases hv with rfl | rfl | rfl <;> rfl) (Nat.le_of_ble_eq_true rfl) rfl ?_
  intro k X hkl hkG E
  subst hkl
  subst hkG
  unfold f_Of_isKept at hf
  refine hv_aload_n (pn := 1) X d_Of_isKept_0 ?_
  refine hv_iload_n (pn := 2) X d_Of_isKept_1 ?_
  obtain ⟨_, hr1, hf⟩ := bd_E hf
  obtain ⟨v2, hv2, hf⟩ := bd_E hf
  refine hv_callV (pn := 5) X d_Of_isKept_2 (c_Of_isReceiver _ _ N σ a0 x1 _ hv2) cs_Of_139 q_3_103 rfl qs_Of_isReceiver hr1 (by decide) (by decide) ⟨Nat.le_refl _, Nat.le_refl _⟩ (Nat.le_of_ble_eq_true rfl) ?_
  refine hv_if_eq (pn := 8) (tgt := 32) X d_Of_isKept_5 (by decide) (fun hc => ?_) (fun hc => ?_)
  · rw [if_pos hc] at hf
    refine hv_drop (i := 0) (lo' := [none, some (.int x1), some (.int x2)]) ?_
    refine hv_drop (i := 1) (lo' := [none, none, some (.int x2)]) ?_
    refine hv_drop (i := 2) (lo' := [none, none, none]) ?_
    exact w_Of_isKept_j32 X N σ   _ hf E
  · rw [if_neg hc] at hf
    refine hv_iload_n (pn := 9) X d_Of_isKept_8 ?_
    refine hv_if_lt (pn := 12) (tgt := 32) X d_Of_isKept_9 (by decide) (fun hc => ?_) (fun hc => ?_)
    · rw [if_pos hc] at hf
      refine hv_drop (i := 0) (lo' := [none, some (.int x1), some (.int x2)]) ?_
      refine hv_drop (i := 1) (lo' := [none, none, some (.int x2)]) ?_
      refine hv_drop (i := 2) (lo' := [none, none, none]) ?_
      exact w_Of_isKept_j32 X N σ   _ hf E
    · rw [if_neg hc] at hf
      refine hv_iload_n (pn := 13) X d_Of_isKept_12 ?_
      refine hv_aload_n (pn := 14) X d_Of_isKept_13 ?_
      obtain ⟨b3, hb3, hf⟩ := bd_E hf
      refine hv_getR (pn := 17) X d_Of_isKept_14 fa_Of_51 hb3 ?_
      refine hv_iload_n (pn := 18) X d_Of_isKept_17 ?_
      obtain ⟨b4, hb4, hf⟩ := bd_E hf
      refine hv_aald (pn := 19) X d_Of_isKept_18 rfl hb4 ?_
      obtain ⟨b5, hb5, hf⟩ := bd_E hf
      refine hv_getR (pn := 22) X d_Of_isKept_19 fa_Of_177 hb5 ?_
      obtain ⟨_, hr6, hf⟩ := bd_E hf
      obtain ⟨v7, hv7, hf⟩ := bd_E hf
      refine hv_callV (pn := 25) X d_Of_isKept_22 (c_Al_size _ _ N σ b5 _ hv7) cs_Of_107 q_1_202 rfl q_1_203 hr6 (by decide) (by decide) ⟨Nat.le_refl _, Nat.le_refl _⟩ (Nat.le_of_ble_eq_true rfl) ?_
      refine hv_icmp_ge (pn := 28) (tgt := 32) X d_Of_isKept_25 (by decide) (fun hc => ?_) (fun hc => ?_)
      · rw [if_pos hc] at hf
        refine hv_drop (i := 0) (lo' := [none, some (.int x1), some (.int x2)]) ?_
        refine hv_drop (i := 1) (lo' := [none, none, some (.int x2)]) ?_
        refine hv_drop (i := 2) (lo' := [none, none, none]) ?_
        exact w_Of_isKept_j32 X N σ   _ hf E
      · rw [if_neg hc] at hf
        refine hv_iconst (pn := 29) (v := 1) X d_Of_isKept_28 ?_
        refine hv_goto (tgt := 33) X d_Of_isKept_29 (by decide) ?_
        refine hv_drop (i := 0) (lo' := [none, some (.int x1), some (.int x2)]) ?_
        refine hv_drop (i := 1) (lo' := [none, none, some (.int x2)]) ?_
        refine hv_drop (i := 2) (lo' := [none, none, none]) ?_
        exact w_Of_isKept_j33 X N σ 1  _ hf E
set_option maxHeartbeats 4000000 in
set_option maxRecDepth 100000 in
theorem w_Rc_beginAnew_l2 {k : mk_T} (X : hv_X k b_Rc_beginAnew y_Rc_beginAnew.cls 2 1 23 none y_Rc_beginAnew.name) (N : Nat) (a0 : Nat) (σ : ho_H) (x1 : Int32) (r : (ho_H × Int32) ⊕ (ho_H)) (hf : f_Rc_beginAnew_l2 k.2.1 N a0 (σ, x1) = some r) (E : sm (fun s => hv_V k s.1 2 [some (.ref a0), some (.int s.2)] []) (fun s => hv_V k s 23 [some (.ref a0), none] []) r) : hv_V k σ 2 [some (.ref a0), some (.int x1)] [] := by
  unfold f_Rc_beginAnew_l2 at hf
  try dsimp only at hf
  refine hv_iload_n (pn := 3) X d_Rc_beginAnew_2 ?_
  refine hv_bipush (pn := 5) (v := 8) X d_Rc_beginAnew_3 ?_
  refine hv_icmp_ge (pn := 8) (tgt := 23) X d_Rc_beginAnew_5 (by decide) (fun hc => ?_) (fun hc => ?_)
  · rw [if_pos hc] at hf
    refine hv_drop (i := 1) (lo' := [some (.ref a0), none]) ?_
    cases hf
    exact E
  · rw [if_neg hc] at hf
    refine hv_aload_n (pn := 9) X d_Rc_beginAnew_8 ?_
    obtain ⟨b1, hb1, hf⟩ := bd_E hf
    refine hv_getR (pn := 12) X d_Rc_beginAnew_9 fa_Rc_11 hb1 ?_
    refine hv_iload_n (pn := 13) X d_Rc_beginAnew_12 ?_
    obtain ⟨b2, hb2, hf⟩ := bd_E hf
    refine hv_aald (pn := 14) X d_Rc_beginAnew_13 rfl hb2 ?_
    obtain ⟨_, hr3, hf⟩ := bd_E hf
    obtain ⟨σ4, hσ4, hf⟩ := bd_E hf
    obtain ⟨hσ4, mσ4⟩ := ho_cv_E hσ4
    refine hv_callV (pn := 17) X d_Rc_beginAnew_14 (c_Kc_forget _ _ N σ b2 _ hσ4) cs_Rc_40 q_3_110 rfl q_3_111 hr3 (by decide) (by decide) mσ4 (Nat.le_of_ble_eq_true rfl) ?_
    refine hv_iinc (pn := 20) (i := 1) (v := x1 + 1) (lo' := [some (.ref a0), some (.int (x1 + 1))]) X d_Rc_beginAnew_17 ?_
    refine hv_goto (tgt := 2) X d_Rc_beginAnew_20 (by decide) ?_
    cases hf
    exact E
set_option maxHeartbeats 4000000 in
set_option maxRecDepth 100000 in
theorem c_Rc_beginAnew (l : Launch) (G : ho_G) (N : Nat) (σ : ho_H) (a0 : Nat) (σ' : ho_H) (hf : f_Rc_beginAnew G N σ a0 = some σ') : hv_C l G y_Rc_beginAnew (Cond.code y_Rc_beginAnew b_Rc_beginAnew 2 none :: hv_ws) 1 23 [.ref a0] σ σ' (none) := by
  refine hv_met [some (.ref a0), none] (plainFor_of_name (by decide +kernel)) (by intro v hv; simp at hv; rcases hv with rfl <;> rfl) (Nat.le_of_ble_eq_true rfl) rfl ?_
  intro k X hkl hkG E
  subst hkl
  subst hkG
  unfold f_Rc_beginAnew at hf
  refine hv_iconst (pn := 1) (v := 0) X d_Rc_beginAnew_0 ?_
  refine hv_istore_n (pn := 2) (i := 1) (lo' := [some (.ref a0), some (.int 0)]) X d_Rc_beginAnew_1 ?_
  obtain ⟨σ5, he16, hf⟩ := bd_E hf
  refine hv_loop (P := fun s => hv_V k s.1 2 [some (.ref a0), some (.int s.2)] []) (Z := fun s => hv_V k s 23 [some (.ref a0), none] []) (fun s r h1 h2 => by obtain ⟨σ, x1⟩ := s; exact w_Rc_beginAnew_l2 X N a0 σ x1 r h1 h2) N (σ, 0) _ he16 ?_
  try dsimp only at hf ⊢
  refine hv_aload_n (pn := 24) X d_Rc_beginAnew_23 ?_
  obtain ⟨b6, hb6, hf⟩ := bd_E hf
  refine hv_getR (pn := 27) X d_Rc_beginAnew_24 fa_Rc_20 hb6 ?_
  obtain ⟨_, hr7, hf⟩ := bd_E hf
  obtain ⟨σ8, hσ8, hf⟩ := bd_E hf
  obtain ⟨hσ8, mσ8⟩ := ho_cv_E hσ8
  refine hv_callV (pn := 30) X d_Rc_beginAnew_27 (c_Al_clear _ _ N σ5 b6 _ hσ8) cs_Rc_43 q_3_114 rfl q_3_115 hr7 (by decide) (by decide) mσ8 (Nat.le_of_ble_eq_true rfl) ?_
  refine hv_aload_n (pn := 31) X d_Rc_beginAnew_30 ?_
  obtain ⟨b9, hb9, hf⟩ := bd_E hf
  refine hv_getR (pn := 34) X d_Rc_beginAnew_31 fa_Rc_24 hb9 ?_
  obtain ⟨_, hr10, hf⟩ := bd_E hf
  obtain ⟨σ11, hσ11, hf⟩ := bd_E hf
  obtain ⟨hσ11, mσ11⟩ := ho_cv_E hσ11
  refine hv_callV (pn := 37) X d_Rc_beginAnew_34 (c_Al_clear _ _ N σ8 b9 _ hσ11) cs_Rc_43 q_3_114 rfl q_3_115 hr10 (by decide) (by decide) mσ11 (Nat.le_of_ble_eq_true rfl) ?_
  refine hv_aload_n (pn := 38) X d_Rc_beginAnew_37 ?_
  obtain ⟨b12, hb12, hf⟩ := bd_E hf
  refine hv_getR (pn := 41) X d_Rc_beginAnew_38 fa_Rc_27 hb12 ?_
  refine hv_iconst (pn := 42) (v := 0) X d_Rc_beginAnew_41 ?_
  obtain ⟨σ13, hσ13, hf⟩ := bd_E hf
  obtain ⟨hσ13, mσ13⟩ := ho_cv_E hσ13
  refine hv_callS (pn := 45) X d_Rc_beginAnew_42 (c_Ar_fill _ _ N σ11 b12 0 _ hσ13) cs_Rc_46 q_2_64 (by decide) (by decide) mσ13 (Nat.le_of_ble_eq_true rfl) ?_
  refine hv_aload_n (pn := 46) X d_Rc_beginAnew_45 ?_
  refine hv_iconst (pn := 47) (v := 0) X d_Rc_beginAnew_46 ?_
  obtain ⟨σ14, hσ14, hf⟩ := bd_E hf
  refine hv_put (pn := 50) X d_Rc_beginAnew_47 fp_Rc_52 hσ14 ?_
  cases hf
  exact hv_vret X d_Rc_beginAnew_50 E
set_option maxHeartbeats 4000000 in
set_option maxRecDepth 100000 in
theorem w_Rc_latestInterval_l3 {k : mk_T} (X : hv_X k b_Rc_latestInterval y_Rc_latestInterval.cls 2 1 20 (some (.int)) y_Rc_latestInterval.name) (N : Nat) (σ : ho_H) (a0 : Nat) (x1 : Int32) (r : (Int32) ⊕ ((Unit) ⊕ (Int32))) (hf : f_Rc_latestInterval_l3 k.2.1 N σ a0 x1 = some r) (E : sm (fun s => hv_V k σ 3 [some (.ref a0), some (.int s)] []) (sm (fun s => hv_V k σ 40 [none, none] []) (fun z => hv_end k σ (some (.int z)))) r) : hv_V k σ 3 [some (.ref a0), some (.int x1)] [] := by
  unfold f_Rc_latestInterval_l3 at hf
  try dsimp only at hf
  refine hv_iload_n (pn := 4) X d_Rc_latestInterval_3 ?_
  refine hv_if_lt (pn := 7) (tgt := 40) X d_Rc_latestInterval_4 (by decide) (fun hc => ?_) (fun hc => ?_)
  · rw [if_pos hc] at hf
    refine hv_drop (i := 0) (lo' := [none, some (.int x1)]) ?_
    refine hv_drop (i := 1) (lo' := [none, none]) ?_
    cases hf
    exact E
  · rw [if_neg hc] at hf
    refine hv_aload_n (pn := 8) X d_Rc_latestInterval_7 ?_
    obtain ⟨b1, hb1, hf⟩ := bd_E hf
    refine hv_getR (pn := 11) X d_Rc_latestInterval_8 fa_Rc_11 hb1 ?_
    refine hv_iload_n (pn := 12) X d_Rc_latestInterval_11 ?_
    obtain ⟨b2, hb2, hf⟩ := bd_E hf
    refine hv_aald (pn := 13) X d_Rc_latestInterval_12 rfl hb2 ?_
    obtain ⟨_, hr3, hf⟩ := bd_E hf
    obtain ⟨v4, hv4, hf⟩ := bd_E hf
    refine hv_callV (pn := 16) X d_Rc_latestInterval_13 (c_Kc_isKnown _ _ N σ b2 _ hv4) cs_Rc_56 q_3_167 rfl q_3_168 hr3 (by decide) (by decide) ⟨Nat.le_refl _, Nat.le_refl _⟩ (Nat.le_of_ble_eq_true rfl) ?_
    refine hv_if_eq (pn := 19) (tgt := 34) X d_Rc_latestInterval_16 (by decide) (fun hc => ?_) (fun hc => ?_)
    · rw [if_pos hc] at hf
      refine hv_iinc (pn := 37) (i := 1) (v := x1 + (-1)) (lo' := [some (.ref a0), some (.int (x1 + (-1)))]) X d_Rc_latestInterval_34 ?_
      refine hv_goto (tgt := 3) X d_Rc_latestInterval_37 (by decide) ?_
      cases hf
      exact E
    · rw [if_neg hc] at hf
      refine hv_iload_n (pn := 20) X d_Rc_latestInterval_19 ?_
      refine hv_bipush (pn := 22) (v := 64) X d_Rc_latestInterval_20 ?_
      refine hv_imul (pn := 23) X d_Rc_latestInterval_22 ?_
      refine hv_aload_n (pn := 24) X d_Rc_latestInterval_23 ?_
      obtain ⟨b5, hb5, hf⟩ := bd_E hf
      refine hv_getR (pn := 27) X d_Rc_latestInterval_24 fa_Rc_11 hb5 ?_
      refine hv_iload_n (pn := 28) X d_Rc_latestInterval_27 ?_
      obtain ⟨b6, hb6, hf⟩ := bd_E hf
      refine hv_aald (pn := 29) X d_Rc_latestInterval_28 rfl hb6 ?_
      obtain ⟨v7, hv7, hf⟩ := bd_E hf
      refine hv_getI (pn := 32) X d_Rc_latestInterval_29 fa_Rc_60 hv7 ?_
      refine hv_iadd (pn := 33) X d_Rc_latestInterval_32 ?_
      cases hf
      exact hv_iret X d_Rc_latestInterval_33 E
set_option maxHeartbeats 4000000 in
set_option maxRecDepth 100000 in
theorem c_Rc_latestInterval (l : Launch) (G : ho_G) (N : Nat) (σ : ho_H) (a0 : Nat) (r : Int32) (hf : f_Rc_latestInterval G N σ a0 = some r) : hv_C l G y_Rc_latestInterval (Cond.code y_Rc_latestInterval b_Rc_latestInterval 2 (some (.int)) :: hv_ws) 1 20 [.ref a0] σ σ (some (.int r)) := by
  refine hv_met [some (.ref a0), none] (plainFor_of_name (by decide +kernel)) (by intro v hv; simp at hv; rcases hv with rfl <;> rfl) (Nat.le_of_ble_eq_true rfl) rfl ?_
  intro k X hkl hkG E
  subst hkl
  subst hkG
  unfold f_Rc_latestInterval at hf
  refine hv_bipush (pn := 2) (v := 7) X d_Rc_latestInterval_0 ?_
  refine hv_istore_n (pn := 3) (i := 1) (lo' := [some (.ref a0), some (.int 7)]) X d_Rc_latestInterval_2 ?_
  obtain ⟨e8, he9, hf⟩ := bd_E hf
  refine hv_loop (P := fun s => hv_V k σ 3 [some (.ref a0), some (.int s)] []) (Z := sm (fun s => hv_V k σ 40 [none, none] []) (fun z => hv_end k σ (some (.int z)))) (fun s r h1 h2 => by exact w_Rc_latestInterval_l3 X N σ a0 s r h1 h2) N 7 e8 he9 ?_
  rcases e8 with _ | z
  · try dsimp only [sm, sm_e] at hf ⊢
    refine hv_iconst (pn := 41) (v := (-1)) X d_Rc_latestInterval_40 ?_
    cases hf
    exact hv_iret X d_Rc_latestInterval_41 E
  · cases (show some _ = some _ from hf); exact E
set_option maxHeartbeats 4000000 in
set_option maxRecDepth 100000 in
theorem w_Rc_takeShownKey_j52 {k : mk_T} (X : hv_X k b_Rc_takeShownKey y_Rc_takeShownKey.cls 5 5 159 (some (.boolean)) y_Rc_takeShownKey.name) (N : Nat) (σ : ho_H)   (r : ho_H × Int32) (hf : f_Rc_takeShownKey_j52 k.2.1 N σ  = some r) (E : hv_end k r.1 (some (.int r.2))) : hv_V k σ 52 [none, none, none, none, none] [] := by
  unfold f_Rc_takeShownKey_j52 at hf
  refine hv_iconst (pn := 53) (v := 1) X d_Rc_takeShownKey_52 ?_
  cases hf
  exact hv_zret X d_Rc_takeShownKey_53 (by decide) E
set_option maxHeartbeats 4000000 in
set_option maxRecDepth 100000 in
theorem c_Rc_takeShownKey (l : Launch) (G : ho_G) (N : Nat) (σ : ho_H) (a0 : Nat) (a1 : Nat) (σ' : ho_H) (r : Int32) (hf : f_Rc_takeShownKey G N σ a0 a1 = some (σ', r)) : hv_C l G y_Rc_takeShownKey (Cond.code y_Rc_takeShownKey b_Rc_takeShownKey 5 (some (.boolean)) :: hv_ws) 5 159 [.ref a0, .ref a1] σ σ' (some (.int r)) := by
  refine hv_met [some (.ref a0), some (.ref a1), none, none, none] (plainFor_of_name (by decide +kernel)) (by intro v hv; simp at hv; rcases hv with rfl | rfl <;> rfl) (Nat.le_of_ble_eq_true rfl) rfl ?_
  intro k X hkl hkG E
  subst hkl
  subst hkG
  unfold f_Rc_takeShownKey at hf
  refine hv_aload_n (pn := 1) X d_Rc_takeShownKey_0 ?_
  obtain ⟨_, hr1, hf⟩ := bd_E hf
  obtain ⟨v2, hv2, hf⟩ := bd_E hf
  refine hv_callV (pn := 4) X d_Rc_takeShownKey_1 (c_Pk_interval _ _ N σ a1 _ hv2) cs_Rc_75 q_2_195 rfl q_2_196 hr1 (by decide) (by decide) ⟨Nat.le_refl _, Nat.le_refl _⟩ (Nat.le_of_ble_eq_true rfl) ?_
  refine hv_aload_n (pn := 5) X d_Rc_takeShownKey_4 ?_
  obtain ⟨b3, hb3, hf⟩ := bd_E hf
  refine hv_getR (pn := 8) X d_Rc_takeShownKey_5 fa_Rc_31 hb3 ?_
  obtain ⟨v4, hv4, hf⟩ := bd_E hf
  refine hv_getI (pn := 11) X d_Rc_takeShownKey_8 fa_Rc_102 hv4 ?_
  refine hv_isub (pn := 12) X d_Rc_takeShownKey_11 ?_
  refine hv_istore_n (pn := 13) (i := 2) (lo' := [some (.ref a0), some (.ref a1), some (.int (v2 - v4)), none, none]) X d_Rc_takeShownKey_12 ?_
  refine hv_iload_n (pn := 14) X d_Rc_takeShownKey_13 ?_
  refine hv_iconst (pn := 15) (v := 1) X d_Rc_takeShownKey_14 ?_
  refine hv_icmp_ge (pn := 18) (tgt := 20) X d_Rc_takeShownKey_15 (by decide) (fun hc => ?_) (fun hc => ?_)
  · rw [if_pos hc] at hf
    refine hv_aload_n (pn := 21) X d_Rc_takeShownKey_20 ?_
    obtain ⟨b5, hb5, hf⟩ := bd_E hf
    refine hv_getR (pn := 24) X d_Rc_takeShownKey_21 fa_Rc_11 hb5 ?_
    refine hv_iload_n (pn := 25) X d_Rc_takeShownKey_24 ?_
    obtain ⟨v6, hv6, hf⟩ := bd_E hf
    refine hv_callS (pn := 28) X d_Rc_takeShownKey_25 (c_Of_chainOf _ _ N σ (v2 - v4) _ hv6) cs_Rc_105 q_2_160 (by decide) (by decide) ⟨Nat.le_refl _, Nat.le_refl _⟩ (Nat.le_of_ble_eq_true rfl) ?_
    obtain ⟨b7, hb7, hf⟩ := bd_E hf
    refine hv_aald (pn := 29) X d_Rc_takeShownKey_28 rfl hb7 ?_
    refine hv_astore_n (pn := 30) (i := 3) (lo' := [some (.ref a0), some (.ref a1), some (.int (v2 - v4)), some (.ref b7), none]) X d_Rc_takeShownKey_29 ?_
    refine hv_iload_n (pn := 31) X d_Rc_takeShownKey_30 ?_
    obtain ⟨v8, hv8, hf⟩ := bd_E hf
    refine hv_callS (pn := 34) X d_Rc_takeShownKey_31 (c_Of_numberInChain _ _ N σ (v2 - v4) _ hv8) cs_Rc_109 q_2_202 (by decide) (by decide) ⟨Nat.le_refl _, Nat.le_refl _⟩ (Nat.le_of_ble_eq_true rfl) ?_
    refine hv_istore (pn := 36) (i := 4) (lo' := [some (.ref a0), some (.ref a1), some (.int (v2 - v4)), some (.ref b7), some (.int v8)]) X d_Rc_takeShownKey_34 ?_
    refine hv_aload_n (pn := 37) X d_Rc_takeShownKey_36 ?_
    obtain ⟨_, hr9, hf⟩ := bd_E hf
    obtain ⟨v10, hv10, hf⟩ := bd_E hf
    refine hv_callV (pn := 40) X d_Rc_takeShownKey_37 (c_Kc_isKnown _ _ N σ b7 _ hv10) cs_Rc_56 q_3_167 rfl q_3_168 hr9 (by decide) (by decide) ⟨Nat.le_refl _, Nat.le_refl _⟩ (Nat.le_of_ble_eq_true rfl) ?_
    refine hv_if_eq (pn := 43) (tgt := 52) X d_Rc_takeShownKey_40 (by decide) (fun hc => ?_) (fun hc => ?_)
    · rw [if_pos hc] at hf
      refine hv_drop (i := 0) (lo' := [none, some (.ref a1), some (.int (v2 - v4)), some (.ref b7), some (.int v8)]) ?_
      refine hv_drop (i := 1) (lo' := [none, none, some (.int (v2 - v4)), some (.ref b7), some (.int v8)]) ?_
      refine hv_drop (i := 2) (lo' := [none, none, none, some (.ref b7), some (.int v8)]) ?_
      refine hv_drop (i := 3) (lo' := [none, none, none, none, some (.int v8)]) ?_
      refine hv_drop (i := 4) (lo' := [none, none, none, none, none]) ?_
      exact w_Rc_takeShownKey_j52 X N σ   _ hf E
    · rw [if_neg hc] at hf
      refine hv_iload (pn := 45) X d_Rc_takeShownKey_43 ?_
      refine hv_aload_n (pn := 46) X d_Rc_takeShownKey_45 ?_
      obtain ⟨v11, hv11, hf⟩ := bd_E hf
      refine hv_getI (pn := 49) X d_Rc_takeShownKey_46 fa_Rc_112 hv11 ?_
      refine hv_icmp_ge (pn := 52) (tgt := 54) X d_Rc_takeShownKey_49 (by decide) (fun hc => ?_) (fun hc => ?_)
      · rw [if_pos hc] at hf
        refine hv_iload (pn := 56) X d_Rc_takeShownKey_54 ?_
        refine hv_aload_n (pn := 57) X d_Rc_takeShownKey_56 ?_
        obtain ⟨v12, hv12, hf⟩ := bd_E hf
        refine hv_getI (pn := 60) X d_Rc_takeShownKey_57 fa_Rc_60 hv12 ?_
        refine hv_icmp_gt (pn := 63) (tgt := 78) X d_Rc_takeShownKey_60 (by decide) (fun hc => ?_) (fun hc => ?_)
        · rw [if_pos hc] at hf
          refine hv_aload_n (pn := 79) X d_Rc_takeShownKey_78 ?_
          refine hv_iload (pn := 81) X d_Rc_takeShownKey_79 ?_
          refine hv_aload_n (pn := 82) X d_Rc_takeShownKey_81 ?_
          obtain ⟨b13, hb13, hf⟩ := bd_E hf
          refine hv_getR (pn := 85) X d_Rc_takeShownKey_82 fa_Rc_115 hb13 ?_
          refine hv_aload_n (pn := 86) X d_Rc_takeShownKey_85 ?_
          obtain ⟨_, hr14, hf⟩ := bd_E hf
          obtain ⟨v15, hv15, hf⟩ := bd_E hf
          refine hv_callV (pn := 89) X d_Rc_takeShownKey_86 (c_Pk_shownAt _ _ N σ a1 _ hv15) cs_Rc_118 q_2_225 rfl q_2_226 hr14 (by decide) (by decide) ⟨Nat.le_refl _, Nat.le_refl _⟩ (Nat.le_of_ble_eq_true rfl) ?_
          obtain ⟨_, hr16, hf⟩ := bd_E hf
          obtain ⟨σ17, hσ17, hf⟩ := bd_E hf
          obtain ⟨hσ17, mσ17⟩ := ho_cv_E hσ17
          refine hv_callV (pn := 92) X d_Rc_takeShownKey_89 (c_Kc_readKey _ _ N σ b7 v8 b13 v15 _ hσ17) cs_Rc_125 q_3_176 rfl q_3_177 hr16 (by decide) (by decide) mσ17 (Nat.le_of_ble_eq_true rfl) ?_
          refine hv_aload_n (pn := 93) X d_Rc_takeShownKey_92 ?_
          refine hv_iload (pn := 95) X d_Rc_takeShownKey_93 ?_
          refine hv_aload_n (pn := 96) X d_Rc_takeShownKey_95 ?_
          obtain ⟨v18, hv18, hf⟩ := bd_E hf
          refine hv_getI (pn := 99) X d_Rc_takeShownKey_96 fa_Rc_60 hv18 ?_
          refine hv_iconst (pn := 100) (v := 1) X d_Rc_takeShownKey_99 ?_
          refine hv_iadd (pn := 101) X d_Rc_takeShownKey_100 ?_
          refine hv_aload_n (pn := 102) X d_Rc_takeShownKey_101 ?_
          obtain ⟨b19, hb19, hf⟩ := bd_E hf
          refine hv_getR (pn := 105) X d_Rc_takeShownKey_102 fa_Rc_35 hb19 ?_
          obtain ⟨_, hr20, hf⟩ := bd_E hf
          obtain ⟨σ21, hσ21, hf⟩ := bd_E hf
          obtain ⟨hσ21, mσ21⟩ := ho_cv_E hσ21
          refine hv_callV (pn := 108) X d_Rc_takeShownKey_105 (c_Kc_fillDown _ _ N σ17 b7 v8 (v18 + 1) b19 _ hσ21) cs_Rc_129 q_2_45 rfl q_2_46 hr20 (by decide) (by decide) mσ21 (Nat.le_of_ble_eq_true rfl) ?_
          refine hv_aload_n (pn := 109) X d_Rc_takeShownKey_108 ?_
          refine hv_iload (pn := 111) X d_Rc_takeShownKey_109 ?_
          refine hv_aload_n (pn := 112) X d_Rc_takeShownKey_111 ?_
          obtain ⟨b22, hb22, hf⟩ := bd_E hf
          refine hv_getR (pn := 115) X d_Rc_takeShownKey_112 fa_Rc_35 hb22 ?_
          obtain ⟨_, hr23, hf⟩ := bd_E hf
          obtain ⟨σ24, v25, hσ24, hf⟩ := bd2_E hf
          obtain ⟨hσ24, mσ24⟩ := ho_ck_E hσ24
          refine hv_callV (pn := 118) X d_Rc_takeShownKey_115 (c_Kc_raiseTo _ _ N σ21 b7 v8 b22 _ _ hσ24) cs_Rc_133 q_3_182 rfl q_3_183 hr23 (by decide) (by decide) mσ24 (Nat.le_of_ble_eq_true rfl) ?_
          obtain ⟨_, hz, hf⟩ := bd_E hf
          cases hf
          exact hv_zret X d_Rc_takeShownKey_118 (ho_bz_E hz) E
        · rw [if_neg hc] at hf
          refine hv_aload_n (pn := 64) X d_Rc_takeShownKey_63 ?_
          refine hv_iload (pn := 66) X d_Rc_takeShownKey_64 ?_
          refine hv_aload_n (pn := 67) X d_Rc_takeShownKey_66 ?_
          obtain ⟨b26, hb26, hf⟩ := bd_E hf
          refine hv_getR (pn := 70) X d_Rc_takeShownKey_67 fa_Rc_115 hb26 ?_
          refine hv_aload_n (pn := 71) X d_Rc_takeShownKey_70 ?_
          obtain ⟨_, hr27, hf⟩ := bd_E hf
          obtain ⟨v28, hv28, hf⟩ := bd_E hf
          refine hv_callV (pn := 74) X d_Rc_takeShownKey_71 (c_Pk_shownAt _ _ N σ a1 _ hv28) cs_Rc_118 q_2_225 rfl q_2_226 hr27 (by decide) (by decide) ⟨Nat.le_refl _, Nat.le_refl _⟩ (Nat.le_of_ble_eq_true rfl) ?_
          obtain ⟨_, hr29, hf⟩ := bd_E hf
          obtain ⟨v30, hv30, hf⟩ := bd_E hf
          refine hv_callV (pn := 77) X d_Rc_takeShownKey_74 (c_Kc_isKey _ _ N σ b7 v8 b26 v28 _ hv30) cs_Rc_121 q_3_172 rfl q_3_173 hr29 (by decide) (by decide) ⟨Nat.le_refl _, Nat.le_refl _⟩ (Nat.le_of_ble_eq_true rfl) ?_
          obtain ⟨_, hz, hf⟩ := bd_E hf
          cases hf
          exact hv_zret X d_Rc_takeShownKey_77 (ho_bz_E hz) E
      · rw [if_neg hc] at hf
        refine hv_drop (i := 0) (lo' := [none, some (.ref a1), some (.int (v2 - v4)), some (.ref b7), some (.int v8)]) ?_
        refine hv_drop (i := 1) (lo' := [none, none, some (.int (v2 - v4)), some (.ref b7), some (.int v8)]) ?_
        refine hv_drop (i := 2) (lo' := [none, none, none, some (.ref b7), some (.int v8)]) ?_
        refine hv_drop (i := 3) (lo' := [none, none, none, none, some (.int v8)]) ?_
        refine hv_drop (i := 4) (lo' := [none, none, none, none, none]) ?_
        exact w_Rc_takeShownKey_j52 X N σ   _ hf E
  · rw [if_neg hc] at hf
    refine hv_iconst (pn := 19) (v := 1) X d_Rc_takeShownKey_18 ?_
    cases hf
    exact hv_zret X d_Rc_takeShownKey_19 (by decide) E
set_option maxHeartbeats 4000000 in
set_option maxRecDepth 100000 in
theorem w_Rc_hasKeyFor_j24 {k : mk_T} (X : hv_X k b_Rc_hasKeyFor y_Rc_hasKeyFor.cls 2 1 20 (some (.boolean)) y_Rc_hasKeyFor.name) (N : Nat) (σ : ho_H) (y0 : Int32)  (r : Int32) (hf : f_Rc_hasKeyFor_j24 k.2.1 N σ y0 = some r) (E : hv_end k σ (some (.int r))) : hv_V k σ 24 [none, none] [.int y0] := by
  unfold f_Rc_hasKeyFor_j24 at hf
  obtain ⟨_, hz, hf⟩ := bd_E hf
  cases hf
  exact hv_zret X d_Rc_hasKeyFor_24 (ho_bz_E hz) E
set_option maxHeartbeats 4000000 in
set_option maxRecDepth 100000 in
theorem c_Rc_hasKeyFor (l : Launch) (G : ho_G) (N : Nat) (σ : ho_H) (a0 : Nat) (x1 : Int32) (r : Int32) (hf : f_Rc_hasKeyFor G N σ a0 x1 = some r) : hv_C l G y_Rc_hasKeyFor (Cond.code y_Rc_hasKeyFor b_Rc_hasKeyFor 2 (some (.boolean)) :: hv_ws) 1 20 [.ref a0, .int x1] σ σ (some (.int r)) := by
  refine hv_met [some (.ref a0), some (.int x1)] (plainFor_of_name (by decide +kernel)) (by intro v hv; simp at hv; rcases hv with rfl | rfl <;> rfl) (Nat.le_of_ble_eq_true rfl) rfl ?_
  intro k X hkl hkG E
  subst hkl
  subst hkG
  unfold f_Rc_hasKeyFor at hf
  refine hv_aload_n (pn := 1) X d_Rc_hasKeyFor_0 ?_
  obtain ⟨b1, hb1, hf⟩ := bd_E hf
  refine hv_getR (pn := 4) X d_Rc_hasKeyFor_1 fa_Rc_11 hb1 ?_
  refine hv_iload_n (pn := 5) X d_Rc_hasKeyFor_4 ?_
  obtain ⟨v2, hv2, hf⟩ := bd_E hf
  refine hv_callS (pn := 8) X d_Rc_hasKeyFor_5 (c_Of_chainOf _ _ N σ x1 _ hv2) cs_Rc_105 q_2_160 (by decide) (by decide) ⟨Nat.le_refl _, Nat.le_refl _⟩ (Nat.le_of_ble_eq_true rfl) ?_
  obtain ⟨b3, hb3, hf⟩ := bd_E hf
  refine hv_aald (pn := 9) X d_Rc_hasKeyFor_8 rfl hb3 ?_
  obtain ⟨v4, hv4, hf⟩ := bd_E hf
  refine hv_getI (pn := 12) X d_Rc_hasKeyFor_9 fa_Rc_60 hv4 ?_
  refine hv_iload_n (pn := 13) X d_Rc_hasKeyFor_12 ?_
  obtain ⟨v5, hv5, hf⟩ := bd_E hf
  refine hv_callS (pn := 16) X d_Rc_hasKeyFor_13 (c_Of_numberInChain _ _ N σ x1 _ hv5) cs_Rc_109 q_2_202 (by decide) (by decide) ⟨Nat.le_refl _, Nat.le_refl _⟩ (Nat.le_of_ble_eq_true rfl) ?_
  refine hv_icmp_lt (pn := 19) (tgt := 23) X d_Rc_hasKeyFor_16 (by decide) (fun hc => ?_) (fun hc => ?_)
  · rw [if_pos hc] at hf
    refine hv_iconst (pn := 24) (v := 0) X d_Rc_hasKeyFor_23 ?_
    refine hv_drop (i := 0) (lo' := [none, some (.int x1)]) ?_
    refine hv_drop (i := 1) (lo' := [none, none]) ?_
    exact w_Rc_hasKeyFor_j24 X N σ 0  _ hf E
  · rw [if_neg hc] at hf
    refine hv_iconst (pn := 20) (v := 1) X d_Rc_hasKeyFor_19 ?_
    refine hv_goto (tgt := 24) X d_Rc_hasKeyFor_20 (by decide) ?_
    refine hv_drop (i := 0) (lo' := [none, some (.int x1)]) ?_
    refine hv_drop (i := 1) (lo' := [none, none]) ?_
    exact w_Rc_hasKeyFor_j24 X N σ 1  _ hf E
set_option maxHeartbeats 4000000 in
set_option maxRecDepth 100000 in
theorem w_Rc_holdsTwinOf_l2 {k : mk_T} (X : hv_X k b_Rc_holdsTwinOf y_Rc_holdsTwinOf.cls 3 4 124 (some (.boolean)) y_Rc_holdsTwinOf.name) (N : Nat) (σ : ho_H) (a0 : Nat) (a1 : Nat) (x2 : Int32) (r : (Int32) ⊕ ((Unit) ⊕ (Int32))) (hf : f_Rc_holdsTwinOf_l2 k.2.1 N σ a0 a1 x2 = some r) (E : sm (fun s => hv_V k σ 2 [some (.ref a0), some (.ref a1), some (.int s)] []) (sm (fun s => hv_V k σ 39 [none, none, none] []) (fun z => hv_end k σ (some (.int z)))) r) : hv_V k σ 2 [some (.ref a0), some (.ref a1), some (.int x2)] [] := by
  unfold f_Rc_holdsTwinOf_l2 at hf
  try dsimp only at hf
  refine hv_iload_n (pn := 3) X d_Rc_holdsTwinOf_2 ?_
  refine hv_aload_n (pn := 4) X d_Rc_holdsTwinOf_3 ?_
  obtain ⟨b1, hb1, hf⟩ := bd_E hf
  refine hv_getR (pn := 7) X d_Rc_holdsTwinOf_4 fa_Rc_20 hb1 ?_
  obtain ⟨_, hr2, hf⟩ := bd_E hf
  obtain ⟨v3, hv3, hf⟩ := bd_E hf
  refine hv_callV (pn := 10) X d_Rc_holdsTwinOf_7 (c_Al_size _ _ N σ b1 _ hv3) cs_Rc_95 q_1_202 rfl q_1_203 hr2 (by decide) (by decide) ⟨Nat.le_refl _, Nat.le_refl _⟩ (Nat.le_of_ble_eq_true rfl) ?_
  refine hv_icmp_ge (pn := 13) (tgt := 39) X d_Rc_holdsTwinOf_10 (by decide) (fun hc => ?_) (fun hc => ?_)
  · rw [if_pos hc] at hf
    refine hv_drop (i := 0) (lo' := [none, some (.ref a1), some (.int x2)]) ?_
    refine hv_drop (i := 1) (lo' := [none, none, some (.int x2)]) ?_
    refine hv_drop (i := 2) (lo' := [none, none, none]) ?_
    cases hf
    exact E
  · rw [if_neg hc] at hf
    refine hv_aload_n (pn := 14) X d_Rc_holdsTwinOf_13 ?_
    obtain ⟨b4, hb4, hf⟩ := bd_E hf
    refine hv_getR (pn := 17) X d_Rc_holdsTwinOf_14 fa_Rc_20 hb4 ?_
    refine hv_iload_n (pn := 18) X d_Rc_holdsTwinOf_17 ?_
    obtain ⟨_, hr5, hf⟩ := bd_E hf
    obtain ⟨b6, hb6, hf⟩ := bd_E hf
    refine hv_callV (pn := 21) X d_Rc_holdsTwinOf_18 (c_Al_get _ _ N σ b4 x2 _ hb6) cs_Rc_137 q_3_73 rfl q_3_74 hr5 (by decide) (by decide) ⟨Nat.le_refl _, Nat.le_refl _⟩ (Nat.le_of_ble_eq_true rfl) ?_
    obtain ⟨_, hr7, hf⟩ := bd_E hf
    refine hv_cast_o (pn := 24) X d_Rc_holdsTwinOf_21 q_3_195 rfl (List.mem_of_getElem? (i := 5) rfl) hr7 ?_
    refine hv_aload_n (pn := 25) X d_Rc_holdsTwinOf_24 ?_
    obtain ⟨_, hr8, hf⟩ := bd_E hf
    obtain ⟨v9, hv9, hf⟩ := bd_E hf
    refine hv_callV (pn := 28) X d_Rc_holdsTwinOf_25 (c_Pk_isTwinOf _ _ N σ b6 a1 _ hv9) cs_Rc_141 q_3_234 rfl q_3_235 hr8 (by decide) (by decide) ⟨Nat.le_refl _, Nat.le_refl _⟩ (Nat.le_of_ble_eq_true rfl) ?_
    refine hv_if_eq (pn := 31) (tgt := 33) X d_Rc_holdsTwinOf_28 (by decide) (fun hc => ?_) (fun hc => ?_)
    · rw [if_pos hc] at hf
      refine hv_iinc (pn := 36) (i := 2) (v := x2 + 1) (lo' := [some (.ref a0), some (.ref a1), some (.int (x2 + 1))]) X d_Rc_holdsTwinOf_33 ?_
      refine hv_goto (tgt := 2) X d_Rc_holdsTwinOf_36 (by decide) ?_
      cases hf
      exact E
    · rw [if_neg hc] at hf
      refine hv_iconst (pn := 32) (v := 1) X d_Rc_holdsTwinOf_31 ?_
      cases hf
      exact hv_zret X d_Rc_holdsTwinOf_32 (by decide) E
set_option maxHeartbeats 4000000 in
set_option maxRecDepth 100000 in
theorem c_Rc_holdsTwinOf (l : Launch) (G : ho_G) (N : Nat) (σ : ho_H) (a0 : Nat) (a1 : Nat) (r : Int32) (hf : f_Rc_holdsTwinOf G N σ a0 a1 = some r) : hv_C l G y_Rc_holdsTwinOf (Cond.code y_Rc_holdsTwinOf b_Rc_holdsTwinOf 3 (some (.boolean)) :: hv_ws) 4 124 [.ref a0, .ref a1] σ σ (some (.int r)) := by
  refine hv_met [some (.ref a0), some (.ref a1), none] (plainFor_of_name (by decide +kernel)) (by intro v hv; simp at hv; rcases hv with rfl | rfl <;> rfl) (Nat.le_of_ble_eq_true rfl) rfl ?_
  intro k X hkl hkG E
  subst hkl
  subst hkG
  unfold f_Rc_holdsTwinOf at hf
  refine hv_iconst (pn := 1) (v := 0) X d_Rc_holdsTwinOf_0 ?_
  refine hv_istore_n (pn := 2) (i := 2) (lo' := [some (.ref a0), some (.ref a1), some (.int 0)]) X d_Rc_holdsTwinOf_1 ?_
  obtain ⟨e10, he11, hf⟩ := bd_E hf
  refine hv_loop (P := fun s => hv_V k σ 2 [some (.ref a0), some (.ref a1), some (.int s)] []) (Z := sm (fun s => hv_V k σ 39 [none, none, none] []) (fun z => hv_end k σ (some (.int z)))) (fun s r h1 h2 => by exact w_Rc_holdsTwinOf_l2 X N σ a0 a1 s r h1 h2) N 0 e10 he11 ?_
  rcases e10 with _ | z
  · try dsimp only [sm, sm_e] at hf ⊢
    refine hv_iconst (pn := 40) (v := 0) X d_Rc_holdsTwinOf_39 ?_
    cases hf
    exact hv_zret X d_Rc_holdsTwinOf_40 (by decide) E
  · cases (show some _ = some _ from hf); exact E
set_option maxHeartbeats 4000000 in
set_option maxRecDepth 100000 in
theorem w_Rc_nextToRelease_j55_in8 {k : mk_T} (X : hv_X k b_Rc_nextToRelease y_Rc_nextToRelease.cls 5 4 124 (some (.int)) y_Rc_nextToRelease.name) (N : Nat) (σ : ho_H) (a0 : Nat) (x1 : Int32) (x2 : Int32) (x3 : Int32)  (r : (Int32 × Int32 × Int32) ⊕ (Int32)) (hf : f_Rc_nextToRelease_j55_in8 k.2.1 N σ a0 x1 x2 x3 = some r) (E : sm (fun s => hv_V k σ 8 [some (.ref a0), some (.int s.1), some (.int s.2.1), some (.int s.2.2), none] []) (fun s => hv_V k σ 61 [none, some (.int s), none, none, none] []) r) : hv_V k σ 55 [some (.ref a0), some (.int x1), some (.int x2), some (.int x3), none] [] := by
  unfold f_Rc_nextToRelease_j55_in8 at hf
  refine hv_iinc (pn := 58) (i := 3) (v := x3 + 1) (lo' := [some (.ref a0), some (.int x1), some (.int x2), some (.int (x3 + 1)), none]) X d_Rc_nextToRelease_55 ?_
  refine hv_goto (tgt := 8) X d_Rc_nextToRelease_58 (by decide) ?_
  cases hf
  exact E
set_option maxHeartbeats 4000000 in
set_option maxRecDepth 100000 in
theorem w_Rc_nextToRelease_l8 {k : mk_T} (X : hv_X k b_Rc_nextToRelease y_Rc_nextToRelease.cls 5 4 124 (some (.int)) y_Rc_nextToRelease.name) (N : Nat) (σ : ho_H) (a0 : Nat) (x1 : Int32) (x2 : Int32) (x3 : Int32) (r : (Int32 × Int32 × Int32) ⊕ (Int32)) (hf : f_Rc_nextToRelease_l8 k.2.1 N σ a0 (x1, x2, x3) = some r) (E : sm (fun s => hv_V k σ 8 [some (.ref a0), some (.int s.1), some (.int s.2.1), some (.int s.2.2), none] []) (fun s => hv_V k σ 61 [none, some (.int s), none, none, none] []) r) : hv_V k σ 8 [some (.ref a0), some (.int x1), some (.int x2), some (.int x3), none] [] := by
  unfold f_Rc_nextToRelease_l8 at hf
  try dsimp only at hf
  refine hv_iload_n (pn := 9) X d_Rc_nextToRelease_8 ?_
  refine hv_aload_n (pn := 10) X d_Rc_nextToRelease_9 ?_
  obtain ⟨b1, hb1, hf⟩ := bd_E hf
  refine hv_getR (pn := 13) X d_Rc_nextToRelease_10 fa_Rc_20 hb1 ?_
  obtain ⟨_, hr2, hf⟩ := bd_E hf
  obtain ⟨v3, hv3, hf⟩ := bd_E hf
  refine hv_callV (pn := 16) X d_Rc_nextToRelease_13 (c_Al_size _ _ N σ b1 _ hv3) cs_Rc_95 q_1_202 rfl q_1_203 hr2 (by decide) (by decide) ⟨Nat.le_refl _, Nat.le_refl _⟩ (Nat.le_of_ble_eq_true rfl) ?_
  refine hv_icmp_ge (pn := 19) (tgt := 61) X d_Rc_nextToRelease_16 (by decide) (fun hc => ?_) (fun hc => ?_)
  · rw [if_pos hc] at hf
    refine hv_drop (i := 0) (lo' := [none, some (.int x1), some (.int x2), some (.int x3), none]) ?_
    refine hv_drop (i := 2) (lo' := [none, some (.int x1), none, some (.int x3), none]) ?_
    refine hv_drop (i := 3) (lo' := [none, some (.int x1), none, none, none]) ?_
    cases hf
    exact E
  · rw [if_neg hc] at hf
    refine hv_aload_n (pn := 20) X d_Rc_nextToRelease_19 ?_
    obtain ⟨b4, hb4, hf⟩ := bd_E hf
    refine hv_getR (pn := 23) X d_Rc_nextToRelease_20 fa_Rc_20 hb4 ?_
    refine hv_iload_n (pn := 24) X d_Rc_nextToRelease_23 ?_
    obtain ⟨_, hr5, hf⟩ := bd_E hf
    obtain ⟨b6, hb6, hf⟩ := bd_E hf
    refine hv_callV (pn := 27) X d_Rc_nextToRelease_24 (c_Al_get _ _ N σ b4 x3 _ hb6) cs_Rc_137 q_3_73 rfl q_3_74 hr5 (by decide) (by decide) ⟨Nat.le_refl _, Nat.le_refl _⟩ (Nat.le_of_ble_eq_true rfl) ?_
    obtain ⟨_, hr7, hf⟩ := bd_E hf
    refine hv_cast_o (pn := 30) X d_Rc_nextToRelease_27 q_3_195 rfl (List.mem_of_getElem? (i := 5) rfl) hr7 ?_
    obtain ⟨_, hr8, hf⟩ := bd_E hf
    obtain ⟨v9, hv9, hf⟩ := bd_E hf
    refine hv_callV (pn := 33) X d_Rc_nextToRelease_30 (c_Pk_interval _ _ N σ b6 _ hv9) cs_Rc_75 q_2_195 rfl q_2_196 hr8 (by decide) (by decide) ⟨Nat.le_refl _, Nat.le_refl _⟩ (Nat.le_of_ble_eq_true rfl) ?_
    refine hv_istore (pn := 35) (i := 4) (lo' := [some (.ref a0), some (.int x1), some (.int x2), some (.int x3), some (.int v9)]) X d_Rc_nextToRelease_33 ?_
    refine hv_iload (pn := 37) X d_Rc_nextToRelease_35 ?_
    refine hv_iload_n (pn := 38) X d_Rc_nextToRelease_37 ?_
    refine hv_icmp_ge (pn := 41) (tgt := 55) X d_Rc_nextToRelease_38 (by decide) (fun hc => ?_) (fun hc => ?_)
    · rw [if_pos hc] at hf
      refine hv_drop (i := 4) (lo' := [some (.ref a0), some (.int x1), some (.int x2), some (.int x3), none]) ?_
      exact w_Rc_nextToRelease_j55_in8 X N σ a0 x1 x2 x3  _ hf E
    · rw [if_neg hc] at hf
      refine hv_aload_n (pn := 42) X d_Rc_nextToRelease_41 ?_
      refine hv_iload (pn := 44) X d_Rc_nextToRelease_42 ?_
      obtain ⟨_, hr10, hf⟩ := bd_E hf
      obtain ⟨v11, hv11, hf⟩ := bd_E hf
      refine hv_callV (pn := 47) X d_Rc_nextToRelease_44 (c_Rc_hasKeyFor _ _ N σ a0 v9 _ hv11) cs_Rc_88 q_3_198 rfl qs_Rc_hasKeyFor hr10 (by decide) (by decide) ⟨Nat.le_refl _, Nat.le_refl _⟩ (Nat.le_of_ble_eq_true rfl) ?_
      refine hv_if_eq (pn := 50) (tgt := 55) X d_Rc_nextToRelease_47 (by decide) (fun hc => ?_) (fun hc => ?_)
      · rw [if_pos hc] at hf
        refine hv_drop (i := 4) (lo' := [some (.ref a0), some (.int x1), some (.int x2), some (.int x3), none]) ?_
        exact w_Rc_nextToRelease_j55_in8 X N σ a0 x1 x2 x3  _ hf E
      · rw [if_neg hc] at hf
        refine hv_iload_n (pn := 51) X d_Rc_nextToRelease_50 ?_
        refine hv_istore_n (pn := 52) (i := 1) (lo' := [some (.ref a0), some (.int x3), some (.int x2), some (.int x3), some (.int v9)]) X d_Rc_nextToRelease_51 ?_
        refine hv_iload (pn := 54) X d_Rc_nextToRelease_52 ?_
        refine hv_istore_n (pn := 55) (i := 2) (lo' := [some (.ref a0), some (.int x3), some (.int v9), some (.int x3), some (.int v9)]) X d_Rc_nextToRelease_54 ?_
        refine hv_drop (i := 4) (lo' := [some (.ref a0), some (.int x3), some (.int v9), some (.int x3), none]) ?_
        exact w_Rc_nextToRelease_j55_in8 X N σ a0 x3 v9 x3  _ hf E
set_option maxHeartbeats 4000000 in
set_option maxRecDepth 100000 in
theorem c_Rc_nextToRelease (l : Launch) (G : ho_G) (N : Nat) (σ : ho_H) (a0 : Nat) (r : Int32) (hf : f_Rc_nextToRelease G N σ a0 = some r) : hv_C l G y_Rc_nextToRelease (Cond.code y_Rc_nextToRelease b_Rc_nextToRelease 5 (some (.int)) :: hv_ws) 4 124 [.ref a0] σ σ (some (.int r)) := by
  refine hv_met [some (.ref a0), none, none, none, none] (plainFor_of_name (by decide +kernel)) (by intro v hv; simp at hv; rcases hv with rfl <;> rfl) (Nat.le_of_ble_eq_true rfl) rfl ?_
  intro k X hkl hkG E
  subst hkl
  subst hkG
  unfold f_Rc_nextToRelease at hf
  refine hv_iconst (pn := 1) (v := (-1)) X d_Rc_nextToRelease_0 ?_
  refine hv_istore_n (pn := 2) (i := 1) (lo' := [some (.ref a0), some (.int (-1)), none, none, none]) X d_Rc_nextToRelease_1 ?_
  refine hv_sipush (pn := 5) (v := 513) X d_Rc_nextToRelease_2 ?_
  refine hv_istore_n (pn := 6) (i := 2) (lo' := [some (.ref a0), some (.int (-1)), some (.int 513), none, none]) X d_Rc_nextToRelease_5 ?_
  refine hv_iconst (pn := 7) (v := 0) X d_Rc_nextToRelease_6 ?_
  refine hv_istore_n (pn := 8) (i := 3) (lo' := [some (.ref a0), some (.int (-1)), some (.int 513), some (.int 0), none]) X d_Rc_nextToRelease_7 ?_
  obtain ⟨x12, he14, hf⟩ := bd_E hf
  refine hv_loop (P := fun s => hv_V k σ 8 [some (.ref a0), some (.int s.1), some (.int s.2.1), some (.int s.2.2), none] []) (Z := fun s => hv_V k σ 61 [none, some (.int s), none, none, none] []) (fun s r h1 h2 => by obtain ⟨x1, x2, x3⟩ := s; exact w_Rc_nextToRelease_l8 X N σ a0 x1 x2 x3 r h1 h2) N ((-1), 513, 0) _ he14 ?_
  try dsimp only at hf ⊢
  refine hv_iload_n (pn := 62) X d_Rc_nextToRelease_61 ?_
  cases hf
  exact hv_iret X d_Rc_nextToRelease_62 E
set_option maxHeartbeats 4000000 in
set_option maxRecDepth 100000 in
theorem w_Rc_letGo_j82 {k : mk_T} (X : hv_X k b_Rc_letGo y_Rc_letGo.cls 3 7 192 none y_Rc_letGo.name) (N : Nat) (σ : ho_H)   (r : ho_H) (hf : f_Rc_letGo_j82 k.2.1 N σ  = some r) (E : hv_end k r none) : hv_V k σ 82 [none, none, none] [] := by
  unfold f_Rc_letGo_j82 at hf
  cases hf
  exact hv_vret X d_Rc_letGo_82 E
set_option maxHeartbeats 4000000 in
set_option maxRecDepth 100000 in
theorem w_Rc_letGo_j31 {k : mk_T} (X : hv_X k b_Rc_letGo y_Rc_letGo.cls 3 7 192 none y_Rc_letGo.name) (N : Nat) (σ : ho_H) (a0 : Nat) (a1 : Nat)  (r : ho_H) (hf : f_Rc_letGo_j31 k.2.1 N σ a0 a1 = some r) (E : hv_end k r none) : hv_V k σ 31 [some (.ref a0), some (.ref a1), none] [] := by
  unfold f_Rc_letGo_j31 at hf
  refine hv_aload_n (pn := 32) X d_Rc_letGo_31 ?_
  obtain ⟨_, hr6, hf⟩ := bd_E hf
  obtain ⟨v7, hv7, hf⟩ := bd_E hf
  refine hv_callV (pn := 35) X d_Rc_letGo_32 (c_Pk_interval _ _ N σ a1 _ hv7) cs_Rc_75 q_2_195 rfl q_2_196 hr6 (by decide) (by decide) ⟨Nat.le_refl _, Nat.le_refl _⟩ (Nat.le_of_ble_eq_true rfl) ?_
  obtain ⟨v8, hv8, hf⟩ := bd_E hf
  refine hv_callS (pn := 38) X d_Rc_letGo_35 (c_Of_chainOf _ _ N σ v7 _ hv8) cs_Rc_105 q_2_160 (by decide) (by decide) ⟨Nat.le_refl _, Nat.le_refl _⟩ (Nat.le_of_ble_eq_true rfl) ?_
  refine hv_iconst (pn := 39) (v := 1) X d_Rc_letGo_38 ?_
  refine hv_iadd (pn := 40) X d_Rc_letGo_39 ?_
  refine hv_istore_n (pn := 41) (i := 2) (lo' := [some (.ref a0), some (.ref a1), some (.int (v8 + 1))]) X d_Rc_letGo_40 ?_
  refine hv_aload_n (pn := 42) X d_Rc_letGo_41 ?_
  obtain ⟨_, hr9, hf⟩ := bd_E hf
  obtain ⟨v10, hv10, hf⟩ := bd_E hf
  refine hv_callV (pn := 45) X d_Rc_letGo_42 (c_Pk_kind _ _ N σ a1 _ hv10) cs_Rc_167 q_3_156 rfl q_3_157 hr9 (by decide) (by decide) ⟨Nat.le_refl _, Nat.le_refl _⟩ (Nat.le_of_ble_eq_true rfl) ?_
  refine hv_iconst (pn := 46) (v := 1) X d_Rc_letGo_45 ?_
  refine hv_icmp_ne (pn := 49) (tgt := 82) X d_Rc_letGo_46 (by decide) (fun hc => ?_) (fun hc => ?_)
  · rw [if_pos hc] at hf
    refine hv_drop (i := 0) (lo' := [none, some (.ref a1), some (.int (v8 + 1))]) ?_
    refine hv_drop (i := 1) (lo' := [none, none, some (.int (v8 + 1))]) ?_
    refine hv_drop (i := 2) (lo' := [none, none, none]) ?_
    exact w_Rc_letGo_j82 X N σ   _ hf E
  · rw [if_neg hc] at hf
    refine hv_iload_n (pn := 50) X d_Rc_letGo_49 ?_
    refine hv_bipush (pn := 52) (v := 8) X d_Rc_letGo_50 ?_
    refine hv_icmp_ge (pn := 55) (tgt := 82) X d_Rc_letGo_52 (by decide) (fun hc => ?_) (fun hc => ?_)
    · rw [if_pos hc] at hf
      refine hv_drop (i := 0) (lo' := [none, some (.ref a1), some (.int (v8 + 1))]) ?_
      refine hv_drop (i := 1) (lo' := [none, none, some (.int (v8 + 1))]) ?_
      refine hv_drop (i := 2) (lo' := [none, none, none]) ?_
      exact w_Rc_letGo_j82 X N σ   _ hf E
    · rw [if_neg hc] at hf
      refine hv_aload_n (pn := 56) X d_Rc_letGo_55 ?_
      obtain ⟨b11, hb11, hf⟩ := bd_E hf
      refine hv_getR (pn := 59) X d_Rc_letGo_56 fa_Rc_11 hb11 ?_
      refine hv_iload_n (pn := 60) X d_Rc_letGo_59 ?_
      obtain ⟨b12, hb12, hf⟩ := bd_E hf
      refine hv_aald (pn := 61) X d_Rc_letGo_60 rfl hb12 ?_
      obtain ⟨_, hr13, hf⟩ := bd_E hf
      obtain ⟨v14, hv14, hf⟩ := bd_E hf
      refine hv_callV (pn := 64) X d_Rc_letGo_61 (c_Kc_isKnown _ _ N σ b12 _ hv14) cs_Rc_56 q_3_167 rfl q_3_168 hr13 (by decide) (by decide) ⟨Nat.le_refl _, Nat.le_refl _⟩ (Nat.le_of_ble_eq_true rfl) ?_
      refine hv_if_ne (pn := 67) (tgt := 82) X d_Rc_letGo_64 (by decide) (fun hc => ?_) (fun hc => ?_)
      · rw [if_pos hc] at hf
        refine hv_drop (i := 0) (lo' := [none, some (.ref a1), some (.int (v8 + 1))]) ?_
        refine hv_drop (i := 1) (lo' := [none, none, some (.int (v8 + 1))]) ?_
        refine hv_drop (i := 2) (lo' := [none, none, none]) ?_
        exact w_Rc_letGo_j82 X N σ   _ hf E
      · rw [if_neg hc] at hf
        refine hv_aload_n (pn := 68) X d_Rc_letGo_67 ?_
        obtain ⟨b15, hb15, hf⟩ := bd_E hf
        refine hv_getR (pn := 71) X d_Rc_letGo_68 fa_Rc_11 hb15 ?_
        refine hv_iload_n (pn := 72) X d_Rc_letGo_71 ?_
        obtain ⟨b16, hb16, hf⟩ := bd_E hf
        refine hv_aald (pn := 73) X d_Rc_letGo_72 rfl hb16 ?_
        refine hv_aload_n (pn := 74) X d_Rc_letGo_73 ?_
        obtain ⟨b17, hb17, hf⟩ := bd_E hf
        refine hv_getR (pn := 77) X d_Rc_letGo_74 fa_Rc_115 hb17 ?_
        refine hv_bipush (pn := 79) (v := 6) X d_Rc_letGo_77 ?_
        obtain ⟨_, hr18, hf⟩ := bd_E hf
        obtain ⟨σ19, hσ19, hf⟩ := bd_E hf
        obtain ⟨hσ19, mσ19⟩ := ho_cv_E hσ19
        refine hv_callV (pn := 82) X d_Rc_letGo_79 (c_Kc_learnRoot _ _ N σ b16 b17 6 _ hσ19) cs_Rc_170 q_3_221 rfl q_3_222 hr18 (by decide) (by decide) mσ19 (Nat.le_of_ble_eq_true rfl) ?_
        refine hv_drop (i := 0) (lo' := [none, some (.ref a1), some (.int (v8 + 1))]) ?_
        refine hv_drop (i := 1) (lo' := [none, none, some (.int (v8 + 1))]) ?_
        refine hv_drop (i := 2) (lo' := [none, none, none]) ?_
        exact w_Rc_letGo_j82 X N σ19   _ hf E
set_option maxHeartbeats 4000000 in
set_option maxRecDepth 100000 in
theorem c_Rc_letGo (l : Launch) (G : ho_G) (N : Nat) (σ : ho_H) (a0 : Nat) (a1 : Nat) (σ' : ho_H) (hf : f_Rc_letGo G N σ a0 a1 = some σ') : hv_C l G y_Rc_letGo (Cond.code y_Rc_letGo b_Rc_letGo 3 none :: hv_ws) 7 192 [.ref a0, .ref a1] σ σ' (none) := by
  refine hv_met [some (.ref a0), some (.ref a1), none] (plainFor_of_name (by decide +kernel)) (by intro v hv; simp at hv; rcases hv with rfl | rfl <;> rfl) (Nat.le_of_ble_eq_true rfl) rfl ?_
  intro k X hkl hkG E
  subst hkl
  subst hkG
  unfold f_Rc_letGo at hf
  refine hv_aload_n (pn := 1) X d_Rc_letGo_0 ?_
  refine hv_dup (pn := 2) X d_Rc_letGo_1 rfl ?_
  obtain ⟨v1, hv1, hf⟩ := bd_E hf
  refine hv_getI (pn := 5) X d_Rc_letGo_2 fa_Rc_52 hv1 ?_
  refine hv_iconst (pn := 6) (v := 1) X d_Rc_letGo_5 ?_
  refine hv_iadd (pn := 7) X d_Rc_letGo_6 ?_
  obtain ⟨σ2, hσ2, hf⟩ := bd_E hf
  refine hv_put (pn := 10) X d_Rc_letGo_7 fp_Rc_52 hσ2 ?_
  refine hv_aload_n (pn := 11) X d_Rc_letGo_10 ?_
  obtain ⟨b3, hb3, hf⟩ := bd_E hf
  refine hv_getR (pn := 14) X d_Rc_letGo_11 fa_Rc_24 hb3 ?_
  obtain ⟨_, hr4, hf⟩ := bd_E hf
  obtain ⟨v5, hv5, hf⟩ := bd_E hf
  refine hv_callV (pn := 17) X d_Rc_letGo_14 (c_Al_size _ _ N σ2 b3 _ hv5) cs_Rc_95 q_1_202 rfl q_1_203 hr4 (by decide) (by decide) ⟨Nat.le_refl _, Nat.le_refl _⟩ (Nat.le_of_ble_eq_true rfl) ?_
  refine hv_bipush (pn := 19) (v := 100) X d_Rc_letGo_17 ?_
  refine hv_icmp_ge (pn := 22) (tgt := 31) X d_Rc_letGo_19 (by decide) (fun hc => ?_) (fun hc => ?_)
  · rw [if_pos hc] at hf
    exact w_Rc_letGo_j31 X N σ2 a0 a1  _ hf E
  · rw [if_neg hc] at hf
    refine hv_aload_n (pn := 23) X d_Rc_letGo_22 ?_
    obtain ⟨b20, hb20, hf⟩ := bd_E hf
    refine hv_getR (pn := 26) X d_Rc_letGo_23 fa_Rc_24 hb20 ?_
    refine hv_aload_n (pn := 27) X d_Rc_letGo_26 ?_
    obtain ⟨_, hr21, hf⟩ := bd_E hf
    obtain ⟨σ22, v23, hσ22, hf⟩ := bd2_E hf
    obtain ⟨hσ22, mσ22⟩ := ho_ck_E hσ22
    refine hv_callV (pn := 30) X d_Rc_letGo_27 (c_Al_add1 _ _ N σ2 b20 a1 _ _ hσ22) cs_Rc_98 q_2_238 rfl q_2_239 hr21 (by decide) (by decide) mσ22 (Nat.le_of_ble_eq_true rfl) ?_
    refine hv_pop (pn := 31) X d_Rc_letGo_30 rfl ?_
    exact w_Rc_letGo_j31 X N σ22 a0 a1  _ hf E
set_option maxHeartbeats 4000000 in
set_option maxRecDepth 100000 in
theorem w_Rc_releaseAll_j93_in2 {k : mk_T} (X : hv_X k b_Rc_releaseAll y_Rc_releaseAll.cls 5 8 214 none y_Rc_releaseAll.name) (N : Nat) (σ : ho_H) (a0 : Nat) (x1 : Int32)  (r : (ho_H × Int32) ⊕ ((ho_H) ⊕ (ho_H))) (hf : f_Rc_releaseAll_j93_in2 k.2.1 N σ a0 x1 = some r) (E : sm (fun s => hv_V k s.1 2 [some (.ref a0), some (.int s.2), none, none, none] []) (sm (fun s => hv_V k s 99 [none, none, none, none, none] []) (fun z => hv_end k z none)) r) : hv_V k σ 93 [some (.ref a0), some (.int x1), none, none, none] [] := by
  unfold f_Rc_releaseAll_j93_in2 at hf
  refine hv_iinc (pn := 96) (i := 1) (v := x1 + 1) (lo' := [some (.ref a0), some (.int (x1 + 1)), none, none, none]) X d_Rc_releaseAll_93 ?_
  refine hv_goto (tgt := 2) X d_Rc_releaseAll_96 (by decide) ?_
  cases hf
  exact E
set_option maxHeartbeats 4000000 in
set_option maxRecDepth 100000 in
theorem w_Rc_releaseAll_l2 {k : mk_T} (X : hv_X k b_Rc_releaseAll y_Rc_releaseAll.cls 5 8 214 none y_Rc_releaseAll.name) (N : Nat) (a0 : Nat) (σ : ho_H) (x1 : Int32) (r : (ho_H × Int32) ⊕ ((ho_H) ⊕ (ho_H))) (hf : f_Rc_releaseAll_l2 k.2.1 N a0 (σ, x1) = some r) (E : sm (fun s => hv_V k s.1 2 [some (.ref a0), some (.int s.2), none, none, none] []) (sm (fun s => hv_V k s 99 [none, none, none, none, none] []) (fun z => hv_end k z none)) r) : hv_V k σ 2 [some (.ref a0), some (.int x1), none, none, none] [] := by
  unfold f_Rc_releaseAll_l2 at hf
  try dsimp only at hf
  refine hv_iload_n (pn := 3) X d_Rc_releaseAll_2 ?_
  refine hv_bipush (pn := 5) (v := 16) X d_Rc_releaseAll_3 ?_
  refine hv_icmp_ge (pn := 8) (tgt := 99) X d_Rc_releaseAll_5 (by decide) (fun hc => ?_) (fun hc => ?_)
  · rw [if_pos hc] at hf
    refine hv_drop (i := 0) (lo' := [none, some (.int x1), none, none, none]) ?_
    refine hv_drop (i := 1) (lo' := [none, none, none, none, none]) ?_
    cases hf
    exact E
  · rw [if_neg hc] at hf
    refine hv_aload_n (pn := 9) X d_Rc_releaseAll_8 ?_
    obtain ⟨_, hr1, hf⟩ := bd_E hf
    obtain ⟨v2, hv2, hf⟩ := bd_E hf
    refine hv_callV (pn := 12) X d_Rc_releaseAll_9 (c_Rc_nextToRelease _ _ N σ a0 _ hv2) cs_Rc_144 q_3_191 rfl qs_Rc_nextToRelease hr1 (by decide) (by decide) ⟨Nat.le_refl _, Nat.le_refl _⟩ (Nat.le_of_ble_eq_true rfl) ?_
    refine hv_istore_n (pn := 13) (i := 2) (lo' := [some (.ref a0), some (.int x1), some (.int v2), none, none]) X d_Rc_releaseAll_12 ?_
    refine hv_iload_n (pn := 14) X d_Rc_releaseAll_13 ?_
    refine hv_iconst (pn := 15) (v := (-1)) X d_Rc_releaseAll_14 ?_
    refine hv_icmp_ne (pn := 18) (tgt := 19) X d_Rc_releaseAll_15 (by decide) (fun hc => ?_) (fun hc => ?_)
    · rw [if_pos hc] at hf
      refine hv_aload_n (pn := 20) X d_Rc_releaseAll_19 ?_
      obtain ⟨b3, hb3, hf⟩ := bd_E hf
      refine hv_getR (pn := 23) X d_Rc_releaseAll_20 fa_Rc_20 hb3 ?_
      refine hv_iload_n (pn := 24) X d_Rc_releaseAll_23 ?_
      obtain ⟨_, hr4, hf⟩ := bd_E hf
      obtain ⟨σ5, b6, hσ5, hf⟩ := bd2_E hf
      obtain ⟨hσ5, mσ5⟩ := ho_ck_E hσ5
      refine hv_callV (pn := 27) X d_Rc_releaseAll_24 (c_Al_remove _ _ N σ b3 v2 _ _ hσ5) cs_Rc_147 q_3_201 rfl q_3_202 hr4 (by decide) (by decide) mσ5 (Nat.le_of_ble_eq_true rfl) ?_
      obtain ⟨_, hr7, hf⟩ := bd_E hf
      refine hv_cast_o (pn := 30) X d_Rc_releaseAll_27 q_3_195 rfl (List.mem_of_getElem? (i := 5) rfl) hr7 ?_
      refine hv_astore_n (pn := 31) (i := 3) (lo' := [some (.ref a0), some (.int x1), some (.int v2), some (.ref b6), none]) X d_Rc_releaseAll_30 ?_
      refine hv_aload_n (pn := 32) X d_Rc_releaseAll_31 ?_
      obtain ⟨_, hr8, hf⟩ := bd_E hf
      obtain ⟨v9, hv9, hf⟩ := bd_E hf
      refine hv_callV (pn := 35) X d_Rc_releaseAll_32 (c_Pk_interval _ _ N σ5 b6 _ hv9) cs_Rc_75 q_2_195 rfl q_2_196 hr8 (by decide) (by decide) ⟨Nat.le_refl _, Nat.le_refl _⟩ (Nat.le_of_ble_eq_true rfl) ?_
      refine hv_istore (pn := 37) (i := 4) (lo' := [some (.ref a0), some (.int x1), some (.int v2), some (.ref b6), some (.int v9)]) X d_Rc_releaseAll_35 ?_
      refine hv_aload_n (pn := 38) X d_Rc_releaseAll_37 ?_
      obtain ⟨b10, hb10, hf⟩ := bd_E hf
      refine hv_getR (pn := 41) X d_Rc_releaseAll_38 fa_Rc_11 hb10 ?_
      refine hv_iload (pn := 43) X d_Rc_releaseAll_41 ?_
      obtain ⟨v11, hv11, hf⟩ := bd_E hf
      refine hv_callS (pn := 46) X d_Rc_releaseAll_43 (c_Of_chainOf _ _ N σ5 v9 _ hv11) cs_Rc_105 q_2_160 (by decide) (by decide) ⟨Nat.le_refl _, Nat.le_refl _⟩ (Nat.le_of_ble_eq_true rfl) ?_
      obtain ⟨b12, hb12, hf⟩ := bd_E hf
      refine hv_aald (pn := 47) X d_Rc_releaseAll_46 rfl hb12 ?_
      refine hv_iload (pn := 49) X d_Rc_releaseAll_47 ?_
      obtain ⟨v13, hv13, hf⟩ := bd_E hf
      refine hv_callS (pn := 52) X d_Rc_releaseAll_49 (c_Of_numberInChain _ _ N σ5 v9 _ hv13) cs_Rc_109 q_2_202 (by decide) (by decide) ⟨Nat.le_refl _, Nat.le_refl _⟩ (Nat.le_of_ble_eq_true rfl) ?_
      refine hv_aload_n (pn := 53) X d_Rc_releaseAll_52 ?_
      refine hv_aload_n (pn := 54) X d_Rc_releaseAll_53 ?_
      obtain ⟨b14, hb14, hf⟩ := bd_E hf
      refine hv_getR (pn := 57) X d_Rc_releaseAll_54 fa_Rc_35 hb14 ?_
      obtain ⟨_, hr15, hf⟩ := bd_E hf
      obtain ⟨σ16, hσ16, hf⟩ := bd_E hf
      obtain ⟨hσ16, mσ16⟩ := ho_cv_E hσ16
      refine hv_callV (pn := 60) X d_Rc_releaseAll_57 (c_Kc_sealPacket _ _ N σ5 b12 v13 b6 b14 _ hσ16) cs_Rc_150 q_2_205 rfl q_2_206 hr15 (by decide) (by decide) mσ16 (Nat.le_of_ble_eq_true rfl) ?_
      refine hv_aload_n (pn := 61) X d_Rc_releaseAll_60 ?_
      refine hv_aload_n (pn := 62) X d_Rc_releaseAll_61 ?_
      obtain ⟨b17, hb17, hf⟩ := bd_E hf
      refine hv_getR (pn := 65) X d_Rc_releaseAll_62 fa_Rc_35 hb17 ?_
      obtain ⟨b18, hb18, hf⟩ := bd_E hf
      refine hv_getR (pn := 68) X d_Rc_releaseAll_65 fa_Rc_154 hb18 ?_
      obtain ⟨_, hr19, hf⟩ := bd_E hf
      obtain ⟨v20, hv20, hf⟩ := bd_E hf
      refine hv_callV (pn := 71) X d_Rc_releaseAll_68 (c_Pk_hasCode _ _ N σ16 b6 b18 _ hv20) cs_Rc_159 q_3_211 rfl q_3_212 hr19 (by decide) (by decide) ⟨Nat.le_refl _, Nat.le_refl _⟩ (Nat.le_of_ble_eq_true rfl) ?_
      refine hv_if_eq (pn := 74) (tgt := 82) X d_Rc_releaseAll_71 (by decide) (fun hc => ?_) (fun hc => ?_)
      · rw [if_pos hc] at hf
        refine hv_aload_n (pn := 83) X d_Rc_releaseAll_82 ?_
        obtain ⟨b21, hb21, hf⟩ := bd_E hf
        refine hv_getR (pn := 86) X d_Rc_releaseAll_83 fa_Rc_27 hb21 ?_
        refine hv_bipush (pn := 88) (v := 6) X d_Rc_releaseAll_86 ?_
        refine hv_dup2 (pn := 89) X d_Rc_releaseAll_88 rfl rfl ?_
        obtain ⟨v22, hv22, hf⟩ := bd_E hf
        refine hv_iald (pn := 90) X d_Rc_releaseAll_89 hv22 ?_
        refine hv_iconst (pn := 91) (v := 1) X d_Rc_releaseAll_90 ?_
        refine hv_iadd (pn := 92) X d_Rc_releaseAll_91 ?_
        obtain ⟨σ23, hσ23, hf⟩ := bd_E hf
        refine hv_iast (pn := 93) X d_Rc_releaseAll_92 hσ23 ?_
        refine hv_drop (i := 2) (lo' := [some (.ref a0), some (.int x1), none, some (.ref b6), some (.int v9)]) ?_
        refine hv_drop (i := 3) (lo' := [some (.ref a0), some (.int x1), none, none, some (.int v9)]) ?_
        refine hv_drop (i := 4) (lo' := [some (.ref a0), some (.int x1), none, none, none]) ?_
        exact w_Rc_releaseAll_j93_in2 X N σ23 a0 x1  _ hf E
      · rw [if_neg hc] at hf
        refine hv_aload_n (pn := 75) X d_Rc_releaseAll_74 ?_
        refine hv_aload_n (pn := 76) X d_Rc_releaseAll_75 ?_
        obtain ⟨_, hr24, hf⟩ := bd_E hf
        obtain ⟨σ25, hσ25, hf⟩ := bd_E hf
        obtain ⟨hσ25, mσ25⟩ := ho_cv_E hσ25
        refine hv_callV (pn := 79) X d_Rc_releaseAll_76 (c_Rc_letGo _ _ N σ16 a0 b6 _ hσ25) cs_Rc_163 q_3_216 rfl qs_Rc_letGo hr24 (by decide) (by decide) mσ25 (Nat.le_of_ble_eq_true rfl) ?_
        refine hv_goto (tgt := 93) X d_Rc_releaseAll_79 (by decide) ?_
        refine hv_drop (i := 2) (lo' := [some (.ref a0), some (.int x1), none, some (.ref b6), some (.int v9)]) ?_
        refine hv_drop (i := 3) (lo' := [some (.ref a0), some (.int x1), none, none, some (.int v9)]) ?_
        refine hv_drop (i := 4) (lo' := [some (.ref a0), some (.int x1), none, none, none]) ?_
        exact w_Rc_releaseAll_j93_in2 X N σ25 a0 x1  _ hf E
    · rw [if_neg hc] at hf
      cases hf
      exact hv_vret X d_Rc_releaseAll_18 E
set_option maxHeartbeats 4000000 in
set_option maxRecDepth 100000 in
theorem c_Rc_releaseAll (l : Launch) (G : ho_G) (N : Nat) (σ : ho_H) (a0 : Nat) (σ' : ho_H) (hf : f_Rc_releaseAll G N σ a0 = some σ') : hv_C l G y_Rc_releaseAll (Cond.code y_Rc_releaseAll b_Rc_releaseAll 5 none :: hv_ws) 8 214 [.ref a0] σ σ' (none) := by
  refine hv_met [some (.ref a0), none, none, none, none] (plainFor_of_name (by decide +kernel)) (by intro v hv; simp at hv; rcases hv with rfl <;> rfl) (Nat.le_of_ble_eq_true rfl) rfl ?_
  intro k X hkl hkG E
  subst hkl
  subst hkG
  unfold f_Rc_releaseAll at hf
  refine hv_iconst (pn := 1) (v := 0) X d_Rc_releaseAll_0 ?_
  refine hv_istore_n (pn := 2) (i := 1) (lo' := [some (.ref a0), some (.int 0), none, none, none]) X d_Rc_releaseAll_1 ?_
  obtain ⟨e27, he28, hf⟩ := bd_E hf
  refine hv_loop (P := fun s => hv_V k s.1 2 [some (.ref a0), some (.int s.2), none, none, none] []) (Z := sm (fun s => hv_V k s 99 [none, none, none, none, none] []) (fun z => hv_end k z none)) (fun s r h1 h2 => by obtain ⟨σ, x1⟩ := s; exact w_Rc_releaseAll_l2 X N a0 σ x1 r h1 h2) N (σ, 0) e27 he28 ?_
  rcases e27 with σ26 | z
  · try dsimp only [sm, sm_e] at hf ⊢
    cases hf
    exact hv_vret X d_Rc_releaseAll_99 E
  · cases (show some _ = some _ from hf); exact E
set_option maxHeartbeats 4000000 in
set_option maxRecDepth 100000 in
theorem w_Rc_take_j51 {k : mk_T} (X : hv_X k b_Rc_take y_Rc_take.cls 3 9 238 (some (.int)) y_Rc_take.name) (N : Nat) (σ : ho_H)   (r : ho_H × Int32) (hf : f_Rc_take_j51 k.2.1 N σ  = some r) (E : hv_end k r.1 (some (.int r.2))) : hv_V k σ 51 [none, none, none] [] := by
  unfold f_Rc_take_j51 at hf
  refine hv_iconst (pn := 52) (v := 1) X d_Rc_take_51 ?_
  cases hf
  exact hv_iret X d_Rc_take_52 E
set_option maxHeartbeats 4000000 in
set_option maxRecDepth 100000 in
theorem c_Rc_take (l : Launch) (G : ho_G) (N : Nat) (σ : ho_H) (a0 : Nat) (a1 : Nat) (σ' : ho_H) (r : Int32) (hf : f_Rc_take G N σ a0 a1 = some (σ', r)) : hv_C l G y_Rc_take (Cond.code y_Rc_take b_Rc_take 3 (some (.int)) :: hv_ws) 9 238 [.ref a0, .ref a1] σ σ' (some (.int r)) := by
  refine hv_met [some (.ref a0), some (.ref a1), none] (plainFor_of_name (by decide +kernel)) (by intro v hv; simp at hv; rcases hv with rfl | rfl <;> rfl) (Nat.le_of_ble_eq_true rfl) rfl ?_
  intro k X hkl hkG E
  subst hkl
  subst hkG
  unfold f_Rc_take at hf
  refine hv_aload_n (pn := 1) X d_Rc_take_0 ?_
  obtain ⟨_, hr1, hf⟩ := bd_E hf
  obtain ⟨v2, hv2, hf⟩ := bd_E hf
  refine hv_callV (pn := 4) X d_Rc_take_1 (c_Pk_isBroken _ _ N σ a1 _ hv2) cs_Rc_63 q_3_151 rfl q_3_152 hr1 (by decide) (by decide) ⟨Nat.le_refl _, Nat.le_refl _⟩ (Nat.le_of_ble_eq_true rfl) ?_
  refine hv_if_eq (pn := 7) (tgt := 9) X d_Rc_take_4 (by decide) (fun hc => ?_) (fun hc => ?_)
  · rw [if_pos hc] at hf
    refine hv_aload_n (pn := 10) X d_Rc_take_9 ?_
    refine hv_aload_n (pn := 11) X d_Rc_take_10 ?_
    obtain ⟨_, hr3, hf⟩ := bd_E hf
    obtain ⟨σ4, v5, hσ4, hf⟩ := bd2_E hf
    obtain ⟨hσ4, mσ4⟩ := ho_ck_E hσ4
    refine hv_callV (pn := 14) X d_Rc_take_11 (c_Rc_takeShownKey _ _ N σ a0 a1 _ _ hσ4) cs_Rc_68 q_3_161 rfl qs_Rc_takeShownKey hr3 (by decide) (by decide) mσ4 (Nat.le_of_ble_eq_true rfl) ?_
    refine hv_if_ne (pn := 17) (tgt := 19) X d_Rc_take_14 (by decide) (fun hc => ?_) (fun hc => ?_)
    · rw [if_pos hc] at hf
      refine hv_aload_n (pn := 20) X d_Rc_take_19 ?_
      obtain ⟨_, hr6, hf⟩ := bd_E hf
      obtain ⟨σ7, hσ7, hf⟩ := bd_E hf
      obtain ⟨hσ7, mσ7⟩ := ho_cv_E hσ7
      refine hv_callV (pn := 23) X d_Rc_take_20 (c_Rc_releaseAll _ _ N σ4 a0 _ hσ7) cs_Rc_72 q_3_187 rfl qs_Rc_releaseAll hr6 (by decide) (by decide) mσ7 (Nat.le_of_ble_eq_true rfl) ?_
      refine hv_aload_n (pn := 24) X d_Rc_take_23 ?_
      obtain ⟨_, hr8, hf⟩ := bd_E hf
      obtain ⟨v9, hv9, hf⟩ := bd_E hf
      refine hv_callV (pn := 27) X d_Rc_take_24 (c_Pk_interval _ _ N σ7 a1 _ hv9) cs_Rc_75 q_2_195 rfl q_2_196 hr8 (by decide) (by decide) ⟨Nat.le_refl _, Nat.le_refl _⟩ (Nat.le_of_ble_eq_true rfl) ?_
      refine hv_istore_n (pn := 28) (i := 2) (lo' := [some (.ref a0), some (.ref a1), some (.int v9)]) X d_Rc_take_27 ?_
      refine hv_aload_n (pn := 29) X d_Rc_take_28 ?_
      obtain ⟨b10, hb10, hf⟩ := bd_E hf
      refine hv_getR (pn := 32) X d_Rc_take_29 fa_Rc_31 hb10 ?_
      refine hv_iload_n (pn := 33) X d_Rc_take_32 ?_
      refine hv_aload_n (pn := 34) X d_Rc_take_33 ?_
      obtain ⟨v11, hv11, hf⟩ := bd_E hf
      refine hv_getI (pn := 37) X d_Rc_take_34 fa_Rc_79 hv11 ?_
      obtain ⟨_, hr12, hf⟩ := bd_E hf
      obtain ⟨v13, hv13, hf⟩ := bd_E hf
      refine hv_callV (pn := 40) X d_Rc_take_37 (c_Ck_canHaveShown _ _ N σ7 b10 v9 v11 _ hv13) cs_Rc_82 q_3_226 rfl q_3_227 hr12 (by decide) (by decide) ⟨Nat.le_refl _, Nat.le_refl _⟩ (Nat.le_of_ble_eq_true rfl) ?_
      refine hv_if_ne (pn := 43) (tgt := 51) X d_Rc_take_40 (by decide) (fun hc => ?_) (fun hc => ?_)
      · rw [if_pos hc] at hf
        refine hv_drop (i := 0) (lo' := [none, some (.ref a1), some (.int v9)]) ?_
        refine hv_drop (i := 1) (lo' := [none, none, some (.int v9)]) ?_
        refine hv_drop (i := 2) (lo' := [none, none, none]) ?_
        exact w_Rc_take_j51 X N σ7   _ hf E
      · rw [if_neg hc] at hf
        refine hv_aload_n (pn := 44) X d_Rc_take_43 ?_
        refine hv_iload_n (pn := 45) X d_Rc_take_44 ?_
        obtain ⟨_, hr14, hf⟩ := bd_E hf
        obtain ⟨v15, hv15, hf⟩ := bd_E hf
        refine hv_callV (pn := 48) X d_Rc_take_45 (c_Rc_hasKeyFor _ _ N σ7 a0 v9 _ hv15) cs_Rc_88 q_3_198 rfl qs_Rc_hasKeyFor hr14 (by decide) (by decide) ⟨Nat.le_refl _, Nat.le_refl _⟩ (Nat.le_of_ble_eq_true rfl) ?_
        refine hv_if_eq (pn := 51) (tgt := 53) X d_Rc_take_48 (by decide) (fun hc => ?_) (fun hc => ?_)
        · rw [if_pos hc] at hf
          refine hv_aload_n (pn := 54) X d_Rc_take_53 ?_
          refine hv_aload_n (pn := 55) X d_Rc_take_54 ?_
          obtain ⟨_, hr16, hf⟩ := bd_E hf
          obtain ⟨v17, hv17, hf⟩ := bd_E hf
          refine hv_callV (pn := 58) X d_Rc_take_55 (c_Rc_holdsTwinOf _ _ N σ7 a0 a1 _ hv17) cs_Rc_92 q_3_231 rfl qs_Rc_holdsTwinOf hr16 (by decide) (by decide) ⟨Nat.le_refl _, Nat.le_refl _⟩ (Nat.le_of_ble_eq_true rfl) ?_
          refine hv_if_eq (pn := 61) (tgt := 63) X d_Rc_take_58 (by decide) (fun hc => ?_) (fun hc => ?_)
          · rw [if_pos hc] at hf
            refine hv_aload_n (pn := 64) X d_Rc_take_63 ?_
            obtain ⟨b18, hb18, hf⟩ := bd_E hf
            refine hv_getR (pn := 67) X d_Rc_take_64 fa_Rc_20 hb18 ?_
            obtain ⟨_, hr19, hf⟩ := bd_E hf
            obtain ⟨v20, hv20, hf⟩ := bd_E hf
            refine hv_callV (pn := 70) X d_Rc_take_67 (c_Al_size _ _ N σ7 b18 _ hv20) cs_Rc_95 q_1_202 rfl q_1_203 hr19 (by decide) (by decide) ⟨Nat.le_refl _, Nat.le_refl _⟩ (Nat.le_of_ble_eq_true rfl) ?_
            refine hv_bipush (pn := 72) (v := 16) X d_Rc_take_70 ?_
            refine hv_icmp_lt (pn := 75) (tgt := 77) X d_Rc_take_72 (by decide) (fun hc => ?_) (fun hc => ?_)
            · rw [if_pos hc] at hf
              refine hv_aload_n (pn := 78) X d_Rc_take_77 ?_
              obtain ⟨b21, hb21, hf⟩ := bd_E hf
              refine hv_getR (pn := 81) X d_Rc_take_78 fa_Rc_20 hb21 ?_
              refine hv_aload_n (pn := 82) X d_Rc_take_81 ?_
              obtain ⟨_, hr22, hf⟩ := bd_E hf
              obtain ⟨σ23, v24, hσ23, hf⟩ := bd2_E hf
              obtain ⟨hσ23, mσ23⟩ := ho_ck_E hσ23
              refine hv_callV (pn := 85) X d_Rc_take_82 (c_Al_add1 _ _ N σ7 b21 a1 _ _ hσ23) cs_Rc_98 q_2_238 rfl q_2_239 hr22 (by decide) (by decide) mσ23 (Nat.le_of_ble_eq_true rfl) ?_
              refine hv_pop (pn := 86) X d_Rc_take_85 rfl ?_
              refine hv_iconst (pn := 87) (v := 0) X d_Rc_take_86 ?_
              cases hf
              exact hv_iret X d_Rc_take_87 E
            · rw [if_neg hc] at hf
              refine hv_iconst (pn := 76) (v := 4) X d_Rc_take_75 ?_
              cases hf
              exact hv_iret X d_Rc_take_76 E
          · rw [if_neg hc] at hf
            refine hv_iconst (pn := 62) (v := 3) X d_Rc_take_61 ?_
            cases hf
            exact hv_iret X d_Rc_take_62 E
        · rw [if_neg hc] at hf
          refine hv_drop (i := 0) (lo' := [none, some (.ref a1), some (.int v9)]) ?_
          refine hv_drop (i := 1) (lo' := [none, none, some (.int v9)]) ?_
          refine hv_drop (i := 2) (lo' := [none, none, none]) ?_
          exact w_Rc_take_j51 X N σ7   _ hf E
    · rw [if_neg hc] at hf
      refine hv_iconst (pn := 18) (v := 2) X d_Rc_take_17 ?_
      cases hf
      exact hv_iret X d_Rc_take_18 E
  · rw [if_neg hc] at hf
    refine hv_iconst (pn := 8) (v := 5) X d_Rc_take_7 ?_
    cases hf
    exact hv_iret X d_Rc_take_8 E
