set_option maxHeartbeats 4000000 in
set_option maxRecDepth 100000 in
theorem c_Md_intervalOfCopy (l : Launch) (G : ho_G) (N : Nat) (σ : ho_H) (a0 : Nat) (r : Int32) (hf : f_Md_intervalOfCopy G N σ a0 = some r) : hv_C l G y_Md_intervalOfCopy (Cond.code y_Md_intervalOfCopy b_Md_intervalOfCopy 1 (some (.int)) :: hv_ws) 0 0 [.ref a0] σ σ (some (.int r)) := by
  refine hv_met [some (.ref a0)] (plainFor_of_name (by decide +kernel)) (by intro v hv; simp at hv; rcases hv with rfl <;> rfl) (Nat.le_of_ble_eq_true rfl) rfl ?_
  intro k X hkl hkG E
  subst hkl
  subst hkG
  unfold f_Md_intervalOfCopy at hf
  refine hv_aload_n (pn := 1) X d_Md_intervalOfCopy_0 ?_
  obtain ⟨b1, hb1, hf⟩ := bd_E hf
  refine hv_getR (pn := 4) X d_Md_intervalOfCopy_1 fa_Md_166 hb1 ?_
  refine hv_iconst (pn := 5) (v := 0) X d_Md_intervalOfCopy_4 ?_
  obtain ⟨v2, hv2, hf⟩ := bd_E hf
  refine hv_iald (pn := 6) X d_Md_intervalOfCopy_5 hv2 ?_
  refine hv_bipush (pn := 8) (v := 24) X d_Md_intervalOfCopy_6 ?_
  refine hv_ishl (pn := 9) X d_Md_intervalOfCopy_8 ?_
  refine hv_aload_n (pn := 10) X d_Md_intervalOfCopy_9 ?_
  obtain ⟨b3, hb3, hf⟩ := bd_E hf
  refine hv_getR (pn := 13) X d_Md_intervalOfCopy_10 fa_Md_166 hb3 ?_
  refine hv_iconst (pn := 14) (v := 1) X d_Md_intervalOfCopy_13 ?_
  obtain ⟨v4, hv4, hf⟩ := bd_E hf
  refine hv_iald (pn := 15) X d_Md_intervalOfCopy_14 hv4 ?_
  refine hv_bipush (pn := 17) (v := 16) X d_Md_intervalOfCopy_15 ?_
  refine hv_ishl (pn := 18) X d_Md_intervalOfCopy_17 ?_
  refine hv_ior (pn := 19) X d_Md_intervalOfCopy_18 ?_
  refine hv_aload_n (pn := 20) X d_Md_intervalOfCopy_19 ?_
  obtain ⟨b5, hb5, hf⟩ := bd_E hf
  refine hv_getR (pn := 23) X d_Md_intervalOfCopy_20 fa_Md_166 hb5 ?_
  refine hv_iconst (pn := 24) (v := 2) X d_Md_intervalOfCopy_23 ?_
  obtain ⟨v6, hv6, hf⟩ := bd_E hf
  refine hv_iald (pn := 25) X d_Md_intervalOfCopy_24 hv6 ?_
  refine hv_bipush (pn := 27) (v := 8) X d_Md_intervalOfCopy_25 ?_
  refine hv_ishl (pn := 28) X d_Md_intervalOfCopy_27 ?_
  refine hv_ior (pn := 29) X d_Md_intervalOfCopy_28 ?_
  refine hv_aload_n (pn := 30) X d_Md_intervalOfCopy_29 ?_
  obtain ⟨b7, hb7, hf⟩ := bd_E hf
  refine hv_getR (pn := 33) X d_Md_intervalOfCopy_30 fa_Md_166 hb7 ?_
  refine hv_iconst (pn := 34) (v := 3) X d_Md_intervalOfCopy_33 ?_
  obtain ⟨v8, hv8, hf⟩ := bd_E hf
  refine hv_iald (pn := 35) X d_Md_intervalOfCopy_34 hv8 ?_
  refine hv_ior (pn := 36) X d_Md_intervalOfCopy_35 ?_
  cases hf
  exact hv_iret X d_Md_intervalOfCopy_36 E
set_option maxHeartbeats 4000000 in
set_option maxRecDepth 100000 in
theorem w_Md_isBroken_j76 {k : mk_T} (X : hv_X k b_Md_isBroken y_Md_isBroken.cls 3 1 22 (some (.boolean)) y_Md_isBroken.name) (N : Nat) (σ : ho_H) (y0 : Int32)  (r : Int32) (hf : f_Md_isBroken_j76 k.2.1 N σ y0 = some r) (E : hv_end k σ (some (.int r))) : hv_V k σ 76 [none, none, none] [.int y0] := by
  unfold f_Md_isBroken_j76 at hf
  obtain ⟨_, hz, hf⟩ := bd_E hf
  cases hf
  exact hv_zret X d_Md_isBroken_76 (ho_bz_E hz) E
set_option maxHeartbeats 4000000 in
set_option maxRecDepth 100000 in
theorem w_Md_isBroken_j71 {k : mk_T} (X : hv_X k b_Md_isBroken y_Md_isBroken.cls 3 1 22 (some (.boolean)) y_Md_isBroken.name) (N : Nat) (σ : ho_H)   (r : Int32) (hf : f_Md_isBroken_j71 k.2.1 N σ  = some r) (E : hv_end k σ (some (.int r))) : hv_V k σ 71 [none, none, none] [] := by
  unfold f_Md_isBroken_j71 at hf
  refine hv_iconst (pn := 72) (v := 1) X d_Md_isBroken_71 ?_
  refine hv_goto (tgt := 76) X d_Md_isBroken_72 (by decide) ?_
  exact w_Md_isBroken_j76 X N σ 1  _ hf E
set_option maxHeartbeats 4000000 in
set_option maxRecDepth 100000 in
theorem w_Md_isBroken_j60 {k : mk_T} (X : hv_X k b_Md_isBroken y_Md_isBroken.cls 3 1 22 (some (.boolean)) y_Md_isBroken.name) (N : Nat) (σ : ho_H) (x2 : Int32)  (r : Int32) (hf : f_Md_isBroken_j60 k.2.1 N σ x2 = some r) (E : hv_end k σ (some (.int r))) : hv_V k σ 60 [none, none, some (.int x2)] [] := by
  unfold f_Md_isBroken_j60 at hf
  refine hv_iload_n (pn := 61) X d_Md_isBroken_60 ?_
  refine hv_iconst (pn := 62) (v := 1) X d_Md_isBroken_61 ?_
  refine hv_sipush (pn := 65) (v := 512) X d_Md_isBroken_62 ?_
  obtain ⟨v11, hv11, hf⟩ := bd_E hf
  refine hv_callS (pn := 68) X d_Md_isBroken_65 (c_Md_within _ _ N σ x2 1 512 _ hv11) cs_Md_231 q_5_33 (by decide) (by decide) ⟨Nat.le_refl _, Nat.le_refl _⟩ (Nat.le_of_ble_eq_true rfl) ?_
  refine hv_if_ne (pn := 71) (tgt := 75) X d_Md_isBroken_68 (by decide) (fun hc => ?_) (fun hc => ?_)
  · rw [if_pos hc] at hf
    refine hv_iconst (pn := 76) (v := 0) X d_Md_isBroken_75 ?_
    refine hv_drop (i := 2) (lo' := [none, none, none]) ?_
    exact w_Md_isBroken_j76 X N σ 0  _ hf E
  · rw [if_neg hc] at hf
    refine hv_drop (i := 2) (lo' := [none, none, none]) ?_
    exact w_Md_isBroken_j71 X N σ   _ hf E
set_option maxHeartbeats 4000000 in
set_option maxRecDepth 100000 in
theorem c_Md_isBroken (l : Launch) (G : ho_G) (N : Nat) (σ : ho_H) (a0 : Nat) (x1 : Int32) (r : Int32) (hf : f_Md_isBroken G N σ a0 x1 = some r) : hv_C l G y_Md_isBroken (Cond.code y_Md_isBroken b_Md_isBroken 3 (some (.boolean)) :: hv_ws) 1 22 [.ref a0, .int x1] σ σ (some (.int r)) := by
  refine hv_met [some (.ref a0), some (.int x1), none] (plainFor_of_name (by decide +kernel)) (by intro v hv; simp at hv; rcases hv with rfl | rfl <;> rfl) (Nat.le_of_ble_eq_true rfl) rfl ?_
  intro k X hkl hkG E
  subst hkl
  subst hkG
  unfold f_Md_isBroken at hf
  refine hv_aload_n (pn := 1) X d_Md_isBroken_0 ?_
  obtain ⟨_, hr1, hf⟩ := bd_E hf
  obtain ⟨v2, hv2, hf⟩ := bd_E hf
  refine hv_callV (pn := 4) X d_Md_isBroken_1 (c_Md_intervalOfCopy _ _ N σ a0 _ hv2) cs_Md_259 q_5_104 rfl qs_Md_intervalOfCopy hr1 (by decide) (by decide) ⟨Nat.le_refl _, Nat.le_refl _⟩ (Nat.le_of_ble_eq_true rfl) ?_
  refine hv_istore_n (pn := 5) (i := 2) (lo' := [some (.ref a0), some (.int x1), some (.int v2)]) X d_Md_isBroken_4 ?_
  refine hv_iload_n (pn := 6) X d_Md_isBroken_5 ?_
  refine hv_bipush (pn := 8) (v := 36) X d_Md_isBroken_6 ?_
  refine hv_aload_n (pn := 9) X d_Md_isBroken_8 ?_
  obtain ⟨b3, hb3, hf⟩ := bd_E hf
  refine hv_getR (pn := 12) X d_Md_isBroken_9 fa_Md_166 hb3 ?_
  refine hv_iconst (pn := 13) (v := 5) X d_Md_isBroken_12 ?_
  obtain ⟨v4, hv4, hf⟩ := bd_E hf
  refine hv_iald (pn := 14) X d_Md_isBroken_13 hv4 ?_
  refine hv_iadd (pn := 15) X d_Md_isBroken_14 ?_
  refine hv_icmp_ne (pn := 18) (tgt := 71) X d_Md_isBroken_15 (by decide) (fun hc => ?_) (fun hc => ?_)
  · rw [if_pos hc] at hf
    refine hv_drop (i := 0) (lo' := [none, some (.int x1), some (.int v2)]) ?_
    refine hv_drop (i := 1) (lo' := [none, none, some (.int v2)]) ?_
    refine hv_drop (i := 2) (lo' := [none, none, none]) ?_
    exact w_Md_isBroken_j71 X N σ   _ hf E
  · rw [if_neg hc] at hf
    refine hv_aload_n (pn := 19) X d_Md_isBroken_18 ?_
    obtain ⟨b5, hb5, hf⟩ := bd_E hf
    refine hv_getR (pn := 22) X d_Md_isBroken_19 fa_Md_166 hb5 ?_
    refine hv_iconst (pn := 23) (v := 4) X d_Md_isBroken_22 ?_
    obtain ⟨v6, hv6, hf⟩ := bd_E hf
    refine hv_iald (pn := 24) X d_Md_isBroken_23 hv6 ?_
    refine hv_iconst (pn := 25) (v := 1) X d_Md_isBroken_24 ?_
    refine hv_icmp_gt (pn := 28) (tgt := 71) X d_Md_isBroken_25 (by decide) (fun hc => ?_) (fun hc => ?_)
    · rw [if_pos hc] at hf
      refine hv_drop (i := 0) (lo' := [none, some (.int x1), some (.int v2)]) ?_
      refine hv_drop (i := 1) (lo' := [none, none, some (.int v2)]) ?_
      refine hv_drop (i := 2) (lo' := [none, none, none]) ?_
      exact w_Md_isBroken_j71 X N σ   _ hf E
    · rw [if_neg hc] at hf
      refine hv_aload_n (pn := 29) X d_Md_isBroken_28 ?_
      obtain ⟨b7, hb7, hf⟩ := bd_E hf
      refine hv_getR (pn := 32) X d_Md_isBroken_29 fa_Md_166 hb7 ?_
      refine hv_iconst (pn := 33) (v := 5) X d_Md_isBroken_32 ?_
      obtain ⟨v8, hv8, hf⟩ := bd_E hf
      refine hv_iald (pn := 34) X d_Md_isBroken_33 hv8 ?_
      refine hv_bipush (pn := 36) (v := 32) X d_Md_isBroken_34 ?_
      refine hv_icmp_gt (pn := 39) (tgt := 71) X d_Md_isBroken_36 (by decide) (fun hc => ?_) (fun hc => ?_)
      · rw [if_pos hc] at hf
        refine hv_drop (i := 0) (lo' := [none, some (.int x1), some (.int v2)]) ?_
        refine hv_drop (i := 1) (lo' := [none, none, some (.int v2)]) ?_
        refine hv_drop (i := 2) (lo' := [none, none, none]) ?_
        exact w_Md_isBroken_j71 X N σ   _ hf E
      · rw [if_neg hc] at hf
        refine hv_aload_n (pn := 40) X d_Md_isBroken_39 ?_
        obtain ⟨b9, hb9, hf⟩ := bd_E hf
        refine hv_getR (pn := 43) X d_Md_isBroken_40 fa_Md_166 hb9 ?_
        refine hv_iconst (pn := 44) (v := 4) X d_Md_isBroken_43 ?_
        obtain ⟨v10, hv10, hf⟩ := bd_E hf
        refine hv_iald (pn := 45) X d_Md_isBroken_44 hv10 ?_
        refine hv_iconst (pn := 46) (v := 1) X d_Md_isBroken_45 ?_
        refine hv_icmp_ne (pn := 49) (tgt := 60) X d_Md_isBroken_46 (by decide) (fun hc => ?_) (fun hc => ?_)
        · rw [if_pos hc] at hf
          refine hv_drop (i := 0) (lo' := [none, some (.int x1), some (.int v2)]) ?_
          refine hv_drop (i := 1) (lo' := [none, none, some (.int v2)]) ?_
          exact w_Md_isBroken_j60 X N σ v2  _ hf E
        · rw [if_neg hc] at hf
          refine hv_aload_n (pn := 50) X d_Md_isBroken_49 ?_
          obtain ⟨b12, hb12, hf⟩ := bd_E hf
          refine hv_getR (pn := 53) X d_Md_isBroken_50 fa_Md_166 hb12 ?_
          refine hv_iconst (pn := 54) (v := 5) X d_Md_isBroken_53 ?_
          obtain ⟨v13, hv13, hf⟩ := bd_E hf
          refine hv_iald (pn := 55) X d_Md_isBroken_54 hv13 ?_
          refine hv_bipush (pn := 57) (v := 20) X d_Md_isBroken_55 ?_
          refine hv_icmp_ne (pn := 60) (tgt := 71) X d_Md_isBroken_57 (by decide) (fun hc => ?_) (fun hc => ?_)
          · rw [if_pos hc] at hf
            refine hv_drop (i := 0) (lo' := [none, some (.int x1), some (.int v2)]) ?_
            refine hv_drop (i := 1) (lo' := [none, none, some (.int v2)]) ?_
            refine hv_drop (i := 2) (lo' := [none, none, none]) ?_
            exact w_Md_isBroken_j71 X N σ   _ hf E
          · rw [if_neg hc] at hf
            refine hv_drop (i := 0) (lo' := [none, some (.int x1), some (.int v2)]) ?_
            refine hv_drop (i := 1) (lo' := [none, none, some (.int v2)]) ?_
            exact w_Md_isBroken_j60 X N σ v2  _ hf E
set_option maxHeartbeats 4000000 in
set_option maxRecDepth 100000 in
theorem w_Md_loadLatest_l2 {k : mk_T} (X : hv_X k b_Md_loadLatest y_Md_loadLatest.cls 3 0 0 none y_Md_loadLatest.name) (N : Nat) (a0 : Nat) (x1 : Int32) (σ : ho_H) (x2 : Int32) (r : (ho_H × Int32) ⊕ (ho_H)) (hf : f_Md_loadLatest_l2 k.2.1 N a0 x1 (σ, x2) = some r) (E : sm (fun s => hv_V k s.1 2 [some (.ref a0), some (.int x1), some (.int s.2)] []) (fun s => hv_V k s 31 [none, none, none] []) r) : hv_V k σ 2 [some (.ref a0), some (.int x1), some (.int x2)] [] := by
  unfold f_Md_loadLatest_l2 at hf
  try dsimp only at hf
  refine hv_iload_n (pn := 3) X d_Md_loadLatest_2 ?_
  refine hv_bipush (pn := 5) (v := 20) X d_Md_loadLatest_3 ?_
  refine hv_icmp_ge (pn := 8) (tgt := 31) X d_Md_loadLatest_5 (by decide) (fun hc => ?_) (fun hc => ?_)
  · rw [if_pos hc] at hf
    refine hv_drop (i := 0) (lo' := [none, some (.int x1), some (.int x2)]) ?_
    refine hv_drop (i := 1) (lo' := [none, none, some (.int x2)]) ?_
    refine hv_drop (i := 2) (lo' := [none, none, none]) ?_
    cases hf
    exact E
  · rw [if_neg hc] at hf
    refine hv_aload_n (pn := 9) X d_Md_loadLatest_8 ?_
    obtain ⟨b1, hb1, hf⟩ := bd_E hf
    refine hv_getR (pn := 12) X d_Md_loadLatest_9 fa_Md_169 hb1 ?_
    refine hv_iload_n (pn := 13) X d_Md_loadLatest_12 ?_
    refine hv_aload_n (pn := 14) X d_Md_loadLatest_13 ?_
    obtain ⟨b2, hb2, hf⟩ := bd_E hf
    refine hv_getR (pn := 17) X d_Md_loadLatest_14 fa_Md_134 hb2 ?_
    refine hv_bipush (pn := 19) (v := 20) X d_Md_loadLatest_17 ?_
    refine hv_iload_n (pn := 20) X d_Md_loadLatest_19 ?_
    refine hv_imul (pn := 21) X d_Md_loadLatest_20 ?_
    refine hv_iload_n (pn := 22) X d_Md_loadLatest_21 ?_
    refine hv_iadd (pn := 23) X d_Md_loadLatest_22 ?_
    obtain ⟨v3, hv3, hf⟩ := bd_E hf
    refine hv_iald (pn := 24) X d_Md_loadLatest_23 hv3 ?_
    obtain ⟨σ4, hσ4, hf⟩ := bd_E hf
    refine hv_iast (pn := 25) X d_Md_loadLatest_24 hσ4 ?_
    refine hv_iinc (pn := 28) (i := 2) (v := x2 + 1) (lo' := [some (.ref a0), some (.int x1), some (.int (x2 + 1))]) X d_Md_loadLatest_25 ?_
    refine hv_goto (tgt := 2) X d_Md_loadLatest_28 (by decide) ?_
    cases hf
    exact E
set_option maxHeartbeats 4000000 in
set_option maxRecDepth 100000 in
theorem c_Md_loadLatest (l : Launch) (G : ho_G) (N : Nat) (σ : ho_H) (a0 : Nat) (x1 : Int32) (σ' : ho_H) (hf : f_Md_loadLatest G N σ a0 x1 = some σ') : hv_C l G y_Md_loadLatest (Cond.code y_Md_loadLatest b_Md_loadLatest 3 none :: hv_ws) 0 0 [.ref a0, .int x1] σ σ' (none) := by
  refine hv_met [some (.ref a0), some (.int x1), none] (plainFor_of_name (by decide +kernel)) (by intro v hv; simp at hv; rcases hv with rfl | rfl <;> rfl) (Nat.le_of_ble_eq_true rfl) rfl ?_
  intro k X hkl hkG E
  subst hkl
  subst hkG
  unfold f_Md_loadLatest at hf
  refine hv_iconst (pn := 1) (v := 0) X d_Md_loadLatest_0 ?_
  refine hv_istore_n (pn := 2) (i := 2) (lo' := [some (.ref a0), some (.int x1), some (.int 0)]) X d_Md_loadLatest_1 ?_
  obtain ⟨σ5, he7, hf⟩ := bd_E hf
  refine hv_loop (P := fun s => hv_V k s.1 2 [some (.ref a0), some (.int x1), some (.int s.2)] []) (Z := fun s => hv_V k s 31 [none, none, none] []) (fun s r h1 h2 => by obtain ⟨σ, x2⟩ := s; exact w_Md_loadLatest_l2 X N a0 x1 σ x2 r h1 h2) N (σ, 0) _ he7 ?_
  try dsimp only at hf ⊢
  cases hf
  exact hv_vret X d_Md_loadLatest_31 E
set_option maxHeartbeats 4000000 in
set_option maxRecDepth 100000 in
theorem w_Md_lookAtKey_j32 {k : mk_T} (X : hv_X k b_Md_lookAtKey y_Md_lookAtKey.cls 8 5 113 (some (.int)) y_Md_lookAtKey.name) (N : Nat) (σ : ho_H)   (r : ho_H × Int32) (hf : f_Md_lookAtKey_j32 k.2.1 N σ  = some r) (E : hv_end k r.1 (some (.int r.2))) : hv_V k σ 32 [none, none, none, none, none, none, none, none] [] := by
  unfold f_Md_lookAtKey_j32 at hf
  refine hv_iconst (pn := 33) (v := 0) X d_Md_lookAtKey_32 ?_
  cases hf
  exact hv_iret X d_Md_lookAtKey_33 E
set_option maxHeartbeats 4000000 in
set_option maxRecDepth 100000 in
theorem w_Md_lookAtKey_l249 {k : mk_T} (X : hv_X k b_Md_lookAtKey y_Md_lookAtKey.cls 8 5 113 (some (.int)) y_Md_lookAtKey.name) (N : Nat) (a0 : Nat) (x4 : Int32) (x5 : Int32) (x6 : Int32) (σ : ho_H) (x7 : Int32) (r : (ho_H × Int32) ⊕ (ho_H)) (hf : f_Md_lookAtKey_l249 k.2.1 N a0 x4 x5 x6 (σ, x7) = some r) (E : sm (fun s => hv_V k s.1 249 [some (.ref a0), none, none, none, some (.int x4), some (.int x5), some (.int x6), some (.int s.2)] []) (fun s => hv_V k s 266 [some (.ref a0), none, none, none, none, some (.int x5), some (.int x6), none] []) r) : hv_V k σ 249 [some (.ref a0), none, none, none, some (.int x4), some (.int x5), some (.int x6), some (.int x7)] [] := by
  unfold f_Md_lookAtKey_l249 at hf
  try dsimp only at hf
  refine hv_iload (pn := 251) X d_Md_lookAtKey_249 ?_
  refine hv_iload (pn := 253) X d_Md_lookAtKey_251 ?_
  refine hv_icmp_ge (pn := 256) (tgt := 266) X d_Md_lookAtKey_253 (by decide) (fun hc => ?_) (fun hc => ?_)
  · rw [if_pos hc] at hf
    refine hv_drop (i := 4) (lo' := [some (.ref a0), none, none, none, none, some (.int x5), some (.int x6), some (.int x7)]) ?_
    refine hv_drop (i := 7) (lo' := [some (.ref a0), none, none, none, none, some (.int x5), some (.int x6), none]) ?_
    cases hf
    exact E
  · rw [if_neg hc] at hf
    refine hv_aload_n (pn := 257) X d_Md_lookAtKey_256 ?_
    obtain ⟨_, hr16, hf⟩ := bd_E hf
    obtain ⟨σ17, hσ17, hf⟩ := bd_E hf
    obtain ⟨hσ17, mσ17⟩ := ho_cv_E hσ17
    refine hv_callV (pn := 260) X d_Md_lookAtKey_257 (c_Md_down _ _ N σ a0 _ hσ17) cs_Md_227 q_5_10 rfl qs_Md_down hr16 (by decide) (by decide) mσ17 (Nat.le_of_ble_eq_true rfl) ?_
    refine hv_iinc (pn := 263) (i := 7) (v := x7 + 1) (lo' := [some (.ref a0), none, none, none, some (.int x4), some (.int x5), some (.int x6), some (.int (x7 + 1))]) X d_Md_lookAtKey_260 ?_
    refine hv_goto (tgt := 249) X d_Md_lookAtKey_263 (by decide) ?_
    cases hf
    exact E
set_option maxHeartbeats 4000000 in
set_option maxRecDepth 100000 in
theorem w_Md_lookAtKey_j306_in269 {k : mk_T} (X : hv_X k b_Md_lookAtKey y_Md_lookAtKey.cls 8 5 113 (some (.int)) y_Md_lookAtKey.name) (N : Nat) (σ : ho_H) (a0 : Nat) (x5 : Int32) (x7 : Int32) (y0 : Int32)  (r : (Int32 × Int32) ⊕ (Int32)) (hf : f_Md_lookAtKey_j306_in269 k.2.1 N σ a0 x5 x7 y0 = some r) (E : sm (fun s => hv_V k σ 269 [some (.ref a0), none, none, none, none, some (.int x5), some (.int s.1), some (.int s.2)] []) (fun s => hv_V k σ 314 [none, none, none, none, none, none, some (.int s), none] []) r) : hv_V k σ 306 [some (.ref a0), none, none, none, none, some (.int x5), none, some (.int x7)] [.int y0] := by
  unfold f_Md_lookAtKey_j306_in269 at hf
  refine hv_istore (pn := 308) (i := 6) (lo' := [some (.ref a0), none, none, none, none, some (.int x5), some (.int y0), some (.int x7)]) X d_Md_lookAtKey_306 ?_
  refine hv_iinc (pn := 311) (i := 7) (v := x7 + 1) (lo' := [some (.ref a0), none, none, none, none, some (.int x5), some (.int y0), some (.int (x7 + 1))]) X d_Md_lookAtKey_308 ?_
  refine hv_goto (tgt := 269) X d_Md_lookAtKey_311 (by decide) ?_
  cases hf
  exact E
set_option maxHeartbeats 4000000 in
set_option maxRecDepth 100000 in
theorem w_Md_lookAtKey_j305_in269 {k : mk_T} (X : hv_X k b_Md_lookAtKey y_Md_lookAtKey.cls 8 5 113 (some (.int)) y_Md_lookAtKey.name) (N : Nat) (σ : ho_H) (a0 : Nat) (x5 : Int32) (x7 : Int32)  (r : (Int32 × Int32) ⊕ (Int32)) (hf : f_Md_lookAtKey_j305_in269 k.2.1 N σ a0 x5 x7 = some r) (E : sm (fun s => hv_V k σ 269 [some (.ref a0), none, none, none, none, some (.int x5), some (.int s.1), some (.int s.2)] []) (fun s => hv_V k σ 314 [none, none, none, none, none, none, some (.int s), none] []) r) : hv_V k σ 305 [some (.ref a0), none, none, none, none, some (.int x5), none, some (.int x7)] [] := by
  unfold f_Md_lookAtKey_j305_in269 at hf
  refine hv_iconst (pn := 306) (v := 0) X d_Md_lookAtKey_305 ?_
  exact w_Md_lookAtKey_j306_in269 X N σ a0 x5 x7 0  _ hf E
set_option maxHeartbeats 4000000 in
set_option maxRecDepth 100000 in
theorem w_Md_lookAtKey_l269 {k : mk_T} (X : hv_X k b_Md_lookAtKey y_Md_lookAtKey.cls 8 5 113 (some (.int)) y_Md_lookAtKey.name) (N : Nat) (σ : ho_H) (a0 : Nat) (x5 : Int32) (x6 : Int32) (x7 : Int32) (r : (Int32 × Int32) ⊕ (Int32)) (hf : f_Md_lookAtKey_l269 k.2.1 N σ a0 x5 (x6, x7) = some r) (E : sm (fun s => hv_V k σ 269 [some (.ref a0), none, none, none, none, some (.int x5), some (.int s.1), some (.int s.2)] []) (fun s => hv_V k σ 314 [none, none, none, none, none, none, some (.int s), none] []) r) : hv_V k σ 269 [some (.ref a0), none, none, none, none, some (.int x5), some (.int x6), some (.int x7)] [] := by
  unfold f_Md_lookAtKey_l269 at hf
  try dsimp only at hf
  refine hv_iload (pn := 271) X d_Md_lookAtKey_269 ?_
  refine hv_bipush (pn := 273) (v := 20) X d_Md_lookAtKey_271 ?_
  refine hv_icmp_ge (pn := 276) (tgt := 314) X d_Md_lookAtKey_273 (by decide) (fun hc => ?_) (fun hc => ?_)
  · rw [if_pos hc] at hf
    refine hv_drop (i := 0) (lo' := [none, none, none, none, none, some (.int x5), some (.int x6), some (.int x7)]) ?_
    refine hv_drop (i := 5) (lo' := [none, none, none, none, none, none, some (.int x6), some (.int x7)]) ?_
    refine hv_drop (i := 7) (lo' := [none, none, none, none, none, none, some (.int x6), none]) ?_
    cases hf
    exact E
  · rw [if_neg hc] at hf
    refine hv_iload (pn := 278) X d_Md_lookAtKey_276 ?_
    refine hv_if_eq (pn := 281) (tgt := 305) X d_Md_lookAtKey_278 (by decide) (fun hc => ?_) (fun hc => ?_)
    · rw [if_pos hc] at hf
      refine hv_drop (i := 6) (lo' := [some (.ref a0), none, none, none, none, some (.int x5), none, some (.int x7)]) ?_
      exact w_Md_lookAtKey_j305_in269 X N σ a0 x5 x7  _ hf E
    · rw [if_neg hc] at hf
      refine hv_aload_n (pn := 282) X d_Md_lookAtKey_281 ?_
      obtain ⟨b19, hb19, hf⟩ := bd_E hf
      refine hv_getR (pn := 285) X d_Md_lookAtKey_282 fa_Md_169 hb19 ?_
      refine hv_iload (pn := 287) X d_Md_lookAtKey_285 ?_
      obtain ⟨v20, hv20, hf⟩ := bd_E hf
      refine hv_iald (pn := 288) X d_Md_lookAtKey_287 hv20 ?_
      refine hv_aload_n (pn := 289) X d_Md_lookAtKey_288 ?_
      obtain ⟨b21, hb21, hf⟩ := bd_E hf
      refine hv_getR (pn := 292) X d_Md_lookAtKey_289 fa_Md_166 hb21 ?_
      refine hv_iload (pn := 294) X d_Md_lookAtKey_292 ?_
      refine hv_iload (pn := 296) X d_Md_lookAtKey_294 ?_
      refine hv_iadd (pn := 297) X d_Md_lookAtKey_296 ?_
      obtain ⟨v22, hv22, hf⟩ := bd_E hf
      refine hv_iald (pn := 298) X d_Md_lookAtKey_297 hv22 ?_
      refine hv_icmp_ne (pn := 301) (tgt := 305) X d_Md_lookAtKey_298 (by decide) (fun hc => ?_) (fun hc => ?_)
      · rw [if_pos hc] at hf
        refine hv_drop (i := 6) (lo' := [some (.ref a0), none, none, none, none, some (.int x5), none, some (.int x7)]) ?_
        exact w_Md_lookAtKey_j305_in269 X N σ a0 x5 x7  _ hf E
      · rw [if_neg hc] at hf
        refine hv_iconst (pn := 302) (v := 1) X d_Md_lookAtKey_301 ?_
        refine hv_goto (tgt := 306) X d_Md_lookAtKey_302 (by decide) ?_
        refine hv_drop (i := 6) (lo' := [some (.ref a0), none, none, none, none, some (.int x5), none, some (.int x7)]) ?_
        exact w_Md_lookAtKey_j306_in269 X N σ a0 x5 x7 1  _ hf E
set_option maxHeartbeats 4000000 in
set_option maxRecDepth 100000 in
theorem w_Md_lookAtKey_j324 {k : mk_T} (X : hv_X k b_Md_lookAtKey y_Md_lookAtKey.cls 8 5 113 (some (.int)) y_Md_lookAtKey.name) (N : Nat) (σ : ho_H) (y0 : Int32)  (r : ho_H × Int32) (hf : f_Md_lookAtKey_j324 k.2.1 N σ y0 = some r) (E : hv_end k r.1 (some (.int r.2))) : hv_V k σ 324 [none, none, none, none, none, none, none, none] [.int y0] := by
  unfold f_Md_lookAtKey_j324 at hf
  cases hf
  exact hv_iret X d_Md_lookAtKey_324 E
set_option maxHeartbeats 4000000 in
set_option maxRecDepth 100000 in
theorem w_Md_lookAtKey_l75 {k : mk_T} (X : hv_X k b_Md_lookAtKey y_Md_lookAtKey.cls 8 5 113 (some (.int)) y_Md_lookAtKey.name) (N : Nat) (a0 : Nat) (x2 : Int32) (x3 : Int32) (x4 : Int32) (x5 : Int32) (x6 : Int32) (σ : ho_H) (x7 : Int32) (r : (ho_H × Int32) ⊕ (ho_H)) (hf : f_Md_lookAtKey_l75 k.2.1 N a0 x2 x3 x4 x5 x6 (σ, x7) = some r) (E : sm (fun s => hv_V k s.1 75 [some (.ref a0), none, some (.int x2), some (.int x3), some (.int x4), some (.int x5), some (.int x6), some (.int s.2)] []) (fun s => hv_V k s 105 [some (.ref a0), none, some (.int x2), some (.int x3), some (.int x4), some (.int x5), some (.int x6), none] []) r) : hv_V k σ 75 [some (.ref a0), none, some (.int x2), some (.int x3), some (.int x4), some (.int x5), some (.int x6), some (.int x7)] [] := by
  unfold f_Md_lookAtKey_l75 at hf
  try dsimp only at hf
  refine hv_iload (pn := 77) X d_Md_lookAtKey_75 ?_
  refine hv_bipush (pn := 79) (v := 20) X d_Md_lookAtKey_77 ?_
  refine hv_icmp_ge (pn := 82) (tgt := 105) X d_Md_lookAtKey_79 (by decide) (fun hc => ?_) (fun hc => ?_)
  · rw [if_pos hc] at hf
    refine hv_drop (i := 7) (lo' := [some (.ref a0), none, some (.int x2), some (.int x3), some (.int x4), some (.int x5), some (.int x6), none]) ?_
    cases hf
    exact E
  · rw [if_neg hc] at hf
    refine hv_aload_n (pn := 83) X d_Md_lookAtKey_82 ?_
    obtain ⟨b28, hb28, hf⟩ := bd_E hf
    refine hv_getR (pn := 86) X d_Md_lookAtKey_83 fa_Md_169 hb28 ?_
    refine hv_iload (pn := 88) X d_Md_lookAtKey_86 ?_
    refine hv_aload_n (pn := 89) X d_Md_lookAtKey_88 ?_
    obtain ⟨b29, hb29, hf⟩ := bd_E hf
    refine hv_getR (pn := 92) X d_Md_lookAtKey_89 fa_Md_166 hb29 ?_
    refine hv_iload (pn := 94) X d_Md_lookAtKey_92 ?_
    refine hv_iload (pn := 96) X d_Md_lookAtKey_94 ?_
    refine hv_iadd (pn := 97) X d_Md_lookAtKey_96 ?_
    obtain ⟨v30, hv30, hf⟩ := bd_E hf
    refine hv_iald (pn := 98) X d_Md_lookAtKey_97 hv30 ?_
    obtain ⟨σ31, hσ31, hf⟩ := bd_E hf
    refine hv_iast (pn := 99) X d_Md_lookAtKey_98 hσ31 ?_
    refine hv_iinc (pn := 102) (i := 7) (v := x7 + 1) (lo' := [some (.ref a0), none, some (.int x2), some (.int x3), some (.int x4), some (.int x5), some (.int x6), some (.int (x7 + 1))]) X d_Md_lookAtKey_99 ?_
    refine hv_goto (tgt := 75) X d_Md_lookAtKey_102 (by decide) ?_
    cases hf
    exact E
set_option maxHeartbeats 4000000 in
set_option maxRecDepth 100000 in
theorem w_Md_lookAtKey_l109 {k : mk_T} (X : hv_X k b_Md_lookAtKey y_Md_lookAtKey.cls 8 5 113 (some (.int)) y_Md_lookAtKey.name) (N : Nat) (a0 : Nat) (x2 : Int32) (x3 : Int32) (x5 : Int32) (x6 : Int32) (σ : ho_H) (x7 : Int32) (r : (ho_H × Int32) ⊕ (ho_H)) (hf : f_Md_lookAtKey_l109 k.2.1 N a0 x2 x3 x5 x6 (σ, x7) = some r) (E : sm (fun s => hv_V k s.1 109 [some (.ref a0), none, some (.int x2), some (.int x3), none, some (.int x5), some (.int x6), some (.int s.2)] []) (fun s => hv_V k s 125 [some (.ref a0), none, some (.int x2), some (.int x3), none, some (.int x5), some (.int x6), none] []) r) : hv_V k σ 109 [some (.ref a0), none, some (.int x2), some (.int x3), none, some (.int x5), some (.int x6), some (.int x7)] [] := by
  unfold f_Md_lookAtKey_l109 at hf
  try dsimp only at hf
  refine hv_iload (pn := 111) X d_Md_lookAtKey_109 ?_
  refine hv_iload_n (pn := 112) X d_Md_lookAtKey_111 ?_
  refine hv_icmp_ge (pn := 115) (tgt := 125) X d_Md_lookAtKey_112 (by decide) (fun hc => ?_) (fun hc => ?_)
  · rw [if_pos hc] at hf
    refine hv_drop (i := 7) (lo' := [some (.ref a0), none, some (.int x2), some (.int x3), none, some (.int x5), some (.int x6), none]) ?_
    cases hf
    exact E
  · rw [if_neg hc] at hf
    refine hv_aload_n (pn := 116) X d_Md_lookAtKey_115 ?_
    obtain ⟨_, hr33, hf⟩ := bd_E hf
    obtain ⟨σ34, hσ34, hf⟩ := bd_E hf
    obtain ⟨hσ34, mσ34⟩ := ho_cv_E hσ34
    refine hv_callV (pn := 119) X d_Md_lookAtKey_116 (c_Md_down _ _ N σ a0 _ hσ34) cs_Md_227 q_5_10 rfl qs_Md_down hr33 (by decide) (by decide) mσ34 (Nat.le_of_ble_eq_true rfl) ?_
    refine hv_iinc (pn := 122) (i := 7) (v := x7 + 1) (lo' := [some (.ref a0), none, some (.int x2), some (.int x3), none, some (.int x5), some (.int x6), some (.int (x7 + 1))]) X d_Md_lookAtKey_119 ?_
    refine hv_goto (tgt := 109) X d_Md_lookAtKey_122 (by decide) ?_
    cases hf
    exact E
set_option maxHeartbeats 4000000 in
set_option maxRecDepth 100000 in
theorem w_Md_lookAtKey_j167_in128 {k : mk_T} (X : hv_X k b_Md_lookAtKey y_Md_lookAtKey.cls 8 5 113 (some (.int)) y_Md_lookAtKey.name) (N : Nat) (σ : ho_H) (a0 : Nat) (x2 : Int32) (x3 : Int32) (x5 : Int32) (x7 : Int32) (y0 : Int32)  (r : (Int32 × Int32) ⊕ (Int32)) (hf : f_Md_lookAtKey_j167_in128 k.2.1 N σ a0 x2 x3 x5 x7 y0 = some r) (E : sm (fun s => hv_V k σ 128 [some (.ref a0), none, some (.int x2), some (.int x3), none, some (.int x5), some (.int s.1), some (.int s.2)] []) (fun s => hv_V k σ 175 [some (.ref a0), none, some (.int x2), some (.int x3), none, some (.int x5), some (.int s), none] []) r) : hv_V k σ 167 [some (.ref a0), none, some (.int x2), some (.int x3), none, some (.int x5), none, some (.int x7)] [.int y0] := by
  unfold f_Md_lookAtKey_j167_in128 at hf
  refine hv_istore (pn := 169) (i := 6) (lo' := [some (.ref a0), none, some (.int x2), some (.int x3), none, some (.int x5), some (.int y0), some (.int x7)]) X d_Md_lookAtKey_167 ?_
  refine hv_iinc (pn := 172) (i := 7) (v := x7 + 1) (lo' := [some (.ref a0), none, some (.int x2), some (.int x3), none, some (.int x5), some (.int y0), some (.int (x7 + 1))]) X d_Md_lookAtKey_169 ?_
  refine hv_goto (tgt := 128) X d_Md_lookAtKey_172 (by decide) ?_
  cases hf
  exact E
set_option maxHeartbeats 4000000 in
set_option maxRecDepth 100000 in
theorem w_Md_lookAtKey_j166_in128 {k : mk_T} (X : hv_X k b_Md_lookAtKey y_Md_lookAtKey.cls 8 5 113 (some (.int)) y_Md_lookAtKey.name) (N : Nat) (σ : ho_H) (a0 : Nat) (x2 : Int32) (x3 : Int32) (x5 : Int32) (x7 : Int32)  (r : (Int32 × Int32) ⊕ (Int32)) (hf : f_Md_lookAtKey_j166_in128 k.2.1 N σ a0 x2 x3 x5 x7 = some r) (E : sm (fun s => hv_V k σ 128 [some (.ref a0), none, some (.int x2), some (.int x3), none, some (.int x5), some (.int s.1), some (.int s.2)] []) (fun s => hv_V k σ 175 [some (.ref a0), none, some (.int x2), some (.int x3), none, some (.int x5), some (.int s), none] []) r) : hv_V k σ 166 [some (.ref a0), none, some (.int x2), some (.int x3), none, some (.int x5), none, some (.int x7)] [] := by
  unfold f_Md_lookAtKey_j166_in128 at hf
  refine hv_iconst (pn := 167) (v := 0) X d_Md_lookAtKey_166 ?_
  exact w_Md_lookAtKey_j167_in128 X N σ a0 x2 x3 x5 x7 0  _ hf E
set_option maxHeartbeats 4000000 in
set_option maxRecDepth 100000 in
theorem w_Md_lookAtKey_l128 {k : mk_T} (X : hv_X k b_Md_lookAtKey y_Md_lookAtKey.cls 8 5 113 (some (.int)) y_Md_lookAtKey.name) (N : Nat) (σ : ho_H) (a0 : Nat) (x2 : Int32) (x3 : Int32) (x5 : Int32) (x6 : Int32) (x7 : Int32) (r : (Int32 × Int32) ⊕ (Int32)) (hf : f_Md_lookAtKey_l128 k.2.1 N σ a0 x2 x3 x5 (x6, x7) = some r) (E : sm (fun s => hv_V k σ 128 [some (.ref a0), none, some (.int x2), some (.int x3), none, some (.int x5), some (.int s.1), some (.int s.2)] []) (fun s => hv_V k σ 175 [some (.ref a0), none, some (.int x2), some (.int x3), none, some (.int x5), some (.int s), none] []) r) : hv_V k σ 128 [some (.ref a0), none, some (.int x2), some (.int x3), none, some (.int x5), some (.int x6), some (.int x7)] [] := by
  unfold f_Md_lookAtKey_l128 at hf
  try dsimp only at hf
  refine hv_iload (pn := 130) X d_Md_lookAtKey_128 ?_
  refine hv_bipush (pn := 132) (v := 20) X d_Md_lookAtKey_130 ?_
  refine hv_icmp_ge (pn := 135) (tgt := 175) X d_Md_lookAtKey_132 (by decide) (fun hc => ?_) (fun hc => ?_)
  · rw [if_pos hc] at hf
    refine hv_drop (i := 7) (lo' := [some (.ref a0), none, some (.int x2), some (.int x3), none, some (.int x5), some (.int x6), none]) ?_
    cases hf
    exact E
  · rw [if_neg hc] at hf
    refine hv_iload (pn := 137) X d_Md_lookAtKey_135 ?_
    refine hv_if_eq (pn := 140) (tgt := 166) X d_Md_lookAtKey_137 (by decide) (fun hc => ?_) (fun hc => ?_)
    · rw [if_pos hc] at hf
      refine hv_drop (i := 6) (lo' := [some (.ref a0), none, some (.int x2), some (.int x3), none, some (.int x5), none, some (.int x7)]) ?_
      exact w_Md_lookAtKey_j166_in128 X N σ a0 x2 x3 x5 x7  _ hf E
    · rw [if_neg hc] at hf
      refine hv_aload_n (pn := 141) X d_Md_lookAtKey_140 ?_
      obtain ⟨b36, hb36, hf⟩ := bd_E hf
      refine hv_getR (pn := 144) X d_Md_lookAtKey_141 fa_Md_169 hb36 ?_
      refine hv_iload (pn := 146) X d_Md_lookAtKey_144 ?_
      obtain ⟨v37, hv37, hf⟩ := bd_E hf
      refine hv_iald (pn := 147) X d_Md_lookAtKey_146 hv37 ?_
      refine hv_aload_n (pn := 148) X d_Md_lookAtKey_147 ?_
      obtain ⟨b38, hb38, hf⟩ := bd_E hf
      refine hv_getR (pn := 151) X d_Md_lookAtKey_148 fa_Md_134 hb38 ?_
      refine hv_bipush (pn := 153) (v := 20) X d_Md_lookAtKey_151 ?_
      refine hv_iload_n (pn := 154) X d_Md_lookAtKey_153 ?_
      refine hv_imul (pn := 155) X d_Md_lookAtKey_154 ?_
      refine hv_iload (pn := 157) X d_Md_lookAtKey_155 ?_
      refine hv_iadd (pn := 158) X d_Md_lookAtKey_157 ?_
      obtain ⟨v39, hv39, hf⟩ := bd_E hf
      refine hv_iald (pn := 159) X d_Md_lookAtKey_158 hv39 ?_
      refine hv_icmp_ne (pn := 162) (tgt := 166) X d_Md_lookAtKey_159 (by decide) (fun hc => ?_) (fun hc => ?_)
      · rw [if_pos hc] at hf
        refine hv_drop (i := 6) (lo' := [some (.ref a0), none, some (.int x2), some (.int x3), none, some (.int x5), none, some (.int x7)]) ?_
        exact w_Md_lookAtKey_j166_in128 X N σ a0 x2 x3 x5 x7  _ hf E
      · rw [if_neg hc] at hf
        refine hv_iconst (pn := 163) (v := 1) X d_Md_lookAtKey_162 ?_
        refine hv_goto (tgt := 167) X d_Md_lookAtKey_163 (by decide) ?_
        refine hv_drop (i := 6) (lo' := [some (.ref a0), none, some (.int x2), some (.int x3), none, some (.int x5), none, some (.int x7)]) ?_
        exact w_Md_lookAtKey_j167_in128 X N σ a0 x2 x3 x5 x7 1  _ hf E
set_option maxHeartbeats 4000000 in
set_option maxRecDepth 100000 in
theorem w_Md_lookAtKey_l192 {k : mk_T} (X : hv_X k b_Md_lookAtKey y_Md_lookAtKey.cls 8 5 113 (some (.int)) y_Md_lookAtKey.name) (N : Nat) (a0 : Nat) (x3 : Int32) (x5 : Int32) (σ : ho_H) (x7 : Int32) (r : (ho_H × Int32) ⊕ (ho_H)) (hf : f_Md_lookAtKey_l192 k.2.1 N a0 x3 x5 (σ, x7) = some r) (E : sm (fun s => hv_V k s.1 192 [some (.ref a0), none, none, some (.int x3), none, some (.int x5), none, some (.int s.2)] []) (fun s => hv_V k s 227 [none, none, none, none, none, none, none, none] []) r) : hv_V k σ 192 [some (.ref a0), none, none, some (.int x3), none, some (.int x5), none, some (.int x7)] [] := by
  unfold f_Md_lookAtKey_l192 at hf
  try dsimp only at hf
  refine hv_iload (pn := 194) X d_Md_lookAtKey_192 ?_
  refine hv_bipush (pn := 196) (v := 20) X d_Md_lookAtKey_194 ?_
  refine hv_icmp_ge (pn := 199) (tgt := 227) X d_Md_lookAtKey_196 (by decide) (fun hc => ?_) (fun hc => ?_)
  · rw [if_pos hc] at hf
    refine hv_drop (i := 0) (lo' := [none, none, none, some (.int x3), none, some (.int x5), none, some (.int x7)]) ?_
    refine hv_drop (i := 3) (lo' := [none, none, none, none, none, some (.int x5), none, some (.int x7)]) ?_
    refine hv_drop (i := 5) (lo' := [none, none, none, none, none, none, none, some (.int x7)]) ?_
    refine hv_drop (i := 7) (lo' := [none, none, none, none, none, none, none, none]) ?_
    cases hf
    exact E
  · rw [if_neg hc] at hf
    refine hv_aload_n (pn := 200) X d_Md_lookAtKey_199 ?_
    obtain ⟨b43, hb43, hf⟩ := bd_E hf
    refine hv_getR (pn := 203) X d_Md_lookAtKey_200 fa_Md_134 hb43 ?_
    refine hv_bipush (pn := 205) (v := 20) X d_Md_lookAtKey_203 ?_
    refine hv_iload_n (pn := 206) X d_Md_lookAtKey_205 ?_
    refine hv_imul (pn := 207) X d_Md_lookAtKey_206 ?_
    refine hv_iload (pn := 209) X d_Md_lookAtKey_207 ?_
    refine hv_iadd (pn := 210) X d_Md_lookAtKey_209 ?_
    refine hv_aload_n (pn := 211) X d_Md_lookAtKey_210 ?_
    obtain ⟨b44, hb44, hf⟩ := bd_E hf
    refine hv_getR (pn := 214) X d_Md_lookAtKey_211 fa_Md_166 hb44 ?_
    refine hv_iload (pn := 216) X d_Md_lookAtKey_214 ?_
    refine hv_iload (pn := 218) X d_Md_lookAtKey_216 ?_
    refine hv_iadd (pn := 219) X d_Md_lookAtKey_218 ?_
    obtain ⟨v45, hv45, hf⟩ := bd_E hf
    refine hv_iald (pn := 220) X d_Md_lookAtKey_219 hv45 ?_
    obtain ⟨σ46, hσ46, hf⟩ := bd_E hf
    refine hv_iast (pn := 221) X d_Md_lookAtKey_220 hσ46 ?_
    refine hv_iinc (pn := 224) (i := 7) (v := x7 + 1) (lo' := [some (.ref a0), none, none, some (.int x3), none, some (.int x5), none, some (.int (x7 + 1))]) X d_Md_lookAtKey_221 ?_
    refine hv_goto (tgt := 192) X d_Md_lookAtKey_224 (by decide) ?_
    cases hf
    exact E
set_option maxHeartbeats 4000000 in
set_option maxRecDepth 100000 in
theorem c_Md_lookAtKey (l : Launch) (G : ho_G) (N : Nat) (σ : ho_H) (a0 : Nat) (x1 : Int32) (σ' : ho_H) (r : Int32) (hf : f_Md_lookAtKey G N σ a0 x1 = some (σ', r)) : hv_C l G y_Md_lookAtKey (Cond.code y_Md_lookAtKey b_Md_lookAtKey 8 (some (.int)) :: hv_ws) 5 113 [.ref a0, .int x1] σ σ' (some (.int r)) := by
  refine hv_met [some (.ref a0), some (.int x1), none, none, none, none, none, none] (plainFor_of_name (by decide +kernel)) (by intro v hv; simp at hv; rcases hv with rfl | rfl <;> rfl) (Nat.le_of_ble_eq_true rfl) rfl ?_
  intro k X hkl hkG E
  subst hkl
  subst hkG
  unfold f_Md_lookAtKey at hf
  refine hv_aload_n (pn := 1) X d_Md_lookAtKey_0 ?_
  obtain ⟨_, hr1, hf⟩ := bd_E hf
  obtain ⟨v2, hv2, hf⟩ := bd_E hf
  refine hv_callV (pn := 4) X d_Md_lookAtKey_1 (c_Md_intervalOfCopy _ _ N σ a0 _ hv2) cs_Md_259 q_5_104 rfl qs_Md_intervalOfCopy hr1 (by decide) (by decide) ⟨Nat.le_refl _, Nat.le_refl _⟩ (Nat.le_of_ble_eq_true rfl) ?_
  refine hv_aload_n (pn := 5) X d_Md_lookAtKey_4 ?_
  obtain ⟨v3, hv3, hf⟩ := bd_E hf
  refine hv_getI (pn := 8) X d_Md_lookAtKey_5 fa_Md_179 hv3 ?_
  refine hv_isub (pn := 9) X d_Md_lookAtKey_8 ?_
  refine hv_istore_n (pn := 10) (i := 2) (lo' := [some (.ref a0), some (.int x1), some (.int (v2 - v3)), none, none, none, none, none]) X d_Md_lookAtKey_9 ?_
  refine hv_iload_n (pn := 11) X d_Md_lookAtKey_10 ?_
  refine hv_iconst (pn := 12) (v := 1) X d_Md_lookAtKey_11 ?_
  refine hv_icmp_lt (pn := 15) (tgt := 32) X d_Md_lookAtKey_12 (by decide) (fun hc => ?_) (fun hc => ?_)
  · rw [if_pos hc] at hf
    refine hv_drop (i := 0) (lo' := [none, some (.int x1), some (.int (v2 - v3)), none, none, none, none, none]) ?_
    refine hv_drop (i := 1) (lo' := [none, none, some (.int (v2 - v3)), none, none, none, none, none]) ?_
    refine hv_drop (i := 2) (lo' := [none, none, none, none, none, none, none, none]) ?_
    exact w_Md_lookAtKey_j32 X N σ   _ hf E
  · rw [if_neg hc] at hf
    refine hv_aload_n (pn := 16) X d_Md_lookAtKey_15 ?_
    obtain ⟨b4, hb4, hf⟩ := bd_E hf
    refine hv_getR (pn := 19) X d_Md_lookAtKey_16 fa_Md_124 hb4 ?_
    refine hv_bipush (pn := 21) (v := 8) X d_Md_lookAtKey_19 ?_
    refine hv_iload_n (pn := 22) X d_Md_lookAtKey_21 ?_
    refine hv_imul (pn := 23) X d_Md_lookAtKey_22 ?_
    refine hv_iload_n (pn := 24) X d_Md_lookAtKey_23 ?_
    obtain ⟨v5, hv5, hf⟩ := bd_E hf
    refine hv_callS (pn := 27) X d_Md_lookAtKey_24 (c_Md_chainOf _ _ N σ (v2 - v3) _ hv5) cs_Md_239 q_5_52 (by decide) (by decide) ⟨Nat.le_refl _, Nat.le_refl _⟩ (Nat.le_of_ble_eq_true rfl) ?_
    refine hv_iadd (pn := 28) X d_Md_lookAtKey_27 ?_
    obtain ⟨v6, hv6, hf⟩ := bd_E hf
    refine hv_zald (pn := 29) X d_Md_lookAtKey_28 hv6 ?_
    refine hv_if_ne (pn := 32) (tgt := 34) X d_Md_lookAtKey_29 (by decide) (fun hc => ?_) (fun hc => ?_)
    · rw [if_pos hc] at hf
      refine hv_bipush (pn := 36) (v := 8) X d_Md_lookAtKey_34 ?_
      refine hv_iload_n (pn := 37) X d_Md_lookAtKey_36 ?_
      refine hv_imul (pn := 38) X d_Md_lookAtKey_37 ?_
      refine hv_iload_n (pn := 39) X d_Md_lookAtKey_38 ?_
      obtain ⟨v7, hv7, hf⟩ := bd_E hf
      refine hv_callS (pn := 42) X d_Md_lookAtKey_39 (c_Md_chainOf _ _ N σ (v2 - v3) _ hv7) cs_Md_239 q_5_52 (by decide) (by decide) ⟨Nat.le_refl _, Nat.le_refl _⟩ (Nat.le_of_ble_eq_true rfl) ?_
      refine hv_iadd (pn := 43) X d_Md_lookAtKey_42 ?_
      refine hv_istore_n (pn := 44) (i := 3) (lo' := [some (.ref a0), some (.int x1), some (.int (v2 - v3)), some (.int ((8 * x1) + v7)), none, none, none, none]) X d_Md_lookAtKey_43 ?_
      refine hv_aload_n (pn := 45) X d_Md_lookAtKey_44 ?_
      obtain ⟨b8, hb8, hf⟩ := bd_E hf
      refine hv_getR (pn := 48) X d_Md_lookAtKey_45 fa_Md_131 hb8 ?_
      refine hv_iload_n (pn := 49) X d_Md_lookAtKey_48 ?_
      obtain ⟨v9, hv9, hf⟩ := bd_E hf
      refine hv_iald (pn := 50) X d_Md_lookAtKey_49 hv9 ?_
      refine hv_istore (pn := 52) (i := 4) (lo' := [some (.ref a0), some (.int x1), some (.int (v2 - v3)), some (.int ((8 * x1) + v7)), some (.int v9), none, none, none]) X d_Md_lookAtKey_50 ?_
      refine hv_bipush (pn := 54) (v := 16) X d_Md_lookAtKey_52 ?_
      refine hv_aload_n (pn := 55) X d_Md_lookAtKey_54 ?_
      obtain ⟨b10, hb10, hf⟩ := bd_E hf
      refine hv_getR (pn := 58) X d_Md_lookAtKey_55 fa_Md_166 hb10 ?_
      refine hv_iconst (pn := 59) (v := 5) X d_Md_lookAtKey_58 ?_
      obtain ⟨v11, hv11, hf⟩ := bd_E hf
      refine hv_iald (pn := 60) X d_Md_lookAtKey_59 hv11 ?_
      refine hv_iadd (pn := 61) X d_Md_lookAtKey_60 ?_
      refine hv_istore (pn := 63) (i := 5) (lo' := [some (.ref a0), some (.int x1), some (.int (v2 - v3)), some (.int ((8 * x1) + v7)), some (.int v9), some (.int (16 + v11)), none, none]) X d_Md_lookAtKey_61 ?_
      refine hv_iconst (pn := 64) (v := 1) X d_Md_lookAtKey_63 ?_
      refine hv_istore (pn := 66) (i := 6) (lo' := [some (.ref a0), some (.int x1), some (.int (v2 - v3)), some (.int ((8 * x1) + v7)), some (.int v9), some (.int (16 + v11)), some (.int 1), none]) X d_Md_lookAtKey_64 ?_
      refine hv_iload_n (pn := 67) X d_Md_lookAtKey_66 ?_
      refine hv_iload (pn := 69) X d_Md_lookAtKey_67 ?_
      refine hv_icmp_le (pn := 72) (tgt := 229) X d_Md_lookAtKey_69 (by decide) (fun hc => ?_) (fun hc => ?_)
      · rw [if_pos hc] at hf
        refine hv_iload_n (pn := 230) X d_Md_lookAtKey_229 ?_
        refine hv_aload_n (pn := 231) X d_Md_lookAtKey_230 ?_
        obtain ⟨b12, hb12, hf⟩ := bd_E hf
        refine hv_getR (pn := 234) X d_Md_lookAtKey_231 fa_Md_128 hb12 ?_
        refine hv_iload_n (pn := 235) X d_Md_lookAtKey_234 ?_
        obtain ⟨v13, hv13, hf⟩ := bd_E hf
        refine hv_iald (pn := 236) X d_Md_lookAtKey_235 hv13 ?_
        refine hv_icmp_ge (pn := 239) (tgt := 241) X d_Md_lookAtKey_236 (by decide) (fun hc => ?_) (fun hc => ?_)
        · rw [if_pos hc] at hf
          refine hv_aload_n (pn := 242) X d_Md_lookAtKey_241 ?_
          refine hv_iload_n (pn := 243) X d_Md_lookAtKey_242 ?_
          obtain ⟨_, hr14, hf⟩ := bd_E hf
          obtain ⟨σ15, hσ15, hf⟩ := bd_E hf
          obtain ⟨hσ15, mσ15⟩ := ho_cv_E hσ15
          refine hv_callV (pn := 246) X d_Md_lookAtKey_243 (c_Md_loadLatest _ _ N σ a0 ((8 * x1) + v7) _ hσ15) cs_Md_262 q_5_112 rfl qs_Md_loadLatest hr14 (by decide) (by decide) mσ15 (Nat.le_of_ble_eq_true rfl) ?_
          refine hv_iload_n (pn := 247) X d_Md_lookAtKey_246 ?_
          refine hv_istore (pn := 249) (i := 7) (lo' := [some (.ref a0), some (.int x1), some (.int (v2 - v3)), some (.int ((8 * x1) + v7)), some (.int v9), some (.int (16 + v11)), some (.int 1), some (.int (v2 - v3))]) X d_Md_lookAtKey_247 ?_
          refine hv_drop (i := 1) (lo' := [some (.ref a0), none, some (.int (v2 - v3)), some (.int ((8 * x1) + v7)), some (.int v9), some (.int (16 + v11)), some (.int 1), some (.int (v2 - v3))]) ?_
          refine hv_drop (i := 2) (lo' := [some (.ref a0), none, none, some (.int ((8 * x1) + v7)), some (.int v9), some (.int (16 + v11)), some (.int 1), some (.int (v2 - v3))]) ?_
          refine hv_drop (i := 3) (lo' := [some (.ref a0), none, none, none, some (.int v9), some (.int (16 + v11)), some (.int 1), some (.int (v2 - v3))]) ?_
          obtain ⟨σ18, he27, hf⟩ := bd_E hf
          refine hv_loop (P := fun s => hv_V k s.1 249 [some (.ref a0), none, none, none, some (.int v9), some (.int (16 + v11)), some (.int 1), some (.int s.2)] []) (Z := fun s => hv_V k s 266 [some (.ref a0), none, none, none, none, some (.int (16 + v11)), some (.int 1), none] []) (fun s r h1 h2 => by obtain ⟨σ, x7⟩ := s; exact w_Md_lookAtKey_l249 X N a0 v9 (16 + v11) 1 σ x7 r h1 h2) N (σ15, v2 - v3) _ he27 ?_
          try dsimp only at hf ⊢
          refine hv_iconst (pn := 267) (v := 0) X d_Md_lookAtKey_266 ?_
          refine hv_istore (pn := 269) (i := 7) (lo' := [some (.ref a0), none, none, none, none, some (.int (16 + v11)), some (.int 1), some (.int 0)]) X d_Md_lookAtKey_267 ?_
          obtain ⟨x23, he25, hf⟩ := bd_E hf
          refine hv_loop (P := fun s => hv_V k σ18 269 [some (.ref a0), none, none, none, none, some (.int (16 + v11)), some (.int s.1), some (.int s.2)] []) (Z := fun s => hv_V k σ18 314 [none, none, none, none, none, none, some (.int s), none] []) (fun s r h1 h2 => by obtain ⟨x6, x7⟩ := s; exact w_Md_lookAtKey_l269 X N σ18 a0 (16 + v11) x6 x7 r h1 h2) N (1, 0) _ he25 ?_
          try dsimp only at hf ⊢
          refine hv_iload (pn := 316) X d_Md_lookAtKey_314 ?_
          refine hv_if_eq (pn := 319) (tgt := 323) X d_Md_lookAtKey_316 (by decide) (fun hc => ?_) (fun hc => ?_)
          · rw [if_pos hc] at hf
            refine hv_iconst (pn := 324) (v := 2) X d_Md_lookAtKey_323 ?_
            refine hv_drop (i := 6) (lo' := [none, none, none, none, none, none, none, none]) ?_
            exact w_Md_lookAtKey_j324 X N σ18 2  _ hf E
          · rw [if_neg hc] at hf
            refine hv_iconst (pn := 320) (v := 0) X d_Md_lookAtKey_319 ?_
            refine hv_goto (tgt := 324) X d_Md_lookAtKey_320 (by decide) ?_
            refine hv_drop (i := 6) (lo' := [none, none, none, none, none, none, none, none]) ?_
            exact w_Md_lookAtKey_j324 X N σ18 0  _ hf E
        · rw [if_neg hc] at hf
          refine hv_iconst (pn := 240) (v := 0) X d_Md_lookAtKey_239 ?_
          cases hf
          exact hv_iret X d_Md_lookAtKey_240 E
      · rw [if_neg hc] at hf
        refine hv_iconst (pn := 73) (v := 0) X d_Md_lookAtKey_72 ?_
        refine hv_istore (pn := 75) (i := 7) (lo' := [some (.ref a0), some (.int x1), some (.int (v2 - v3)), some (.int ((8 * x1) + v7)), some (.int v9), some (.int (16 + v11)), some (.int 1), some (.int 0)]) X d_Md_lookAtKey_73 ?_
        refine hv_drop (i := 1) (lo' := [some (.ref a0), none, some (.int (v2 - v3)), some (.int ((8 * x1) + v7)), some (.int v9), some (.int (16 + v11)), some (.int 1), some (.int 0)]) ?_
        obtain ⟨σ32, he55, hf⟩ := bd_E hf
        refine hv_loop (P := fun s => hv_V k s.1 75 [some (.ref a0), none, some (.int (v2 - v3)), some (.int ((8 * x1) + v7)), some (.int v9), some (.int (16 + v11)), some (.int 1), some (.int s.2)] []) (Z := fun s => hv_V k s 105 [some (.ref a0), none, some (.int (v2 - v3)), some (.int ((8 * x1) + v7)), some (.int v9), some (.int (16 + v11)), some (.int 1), none] []) (fun s r h1 h2 => by obtain ⟨σ, x7⟩ := s; exact w_Md_lookAtKey_l75 X N a0 (v2 - v3) ((8 * x1) + v7) v9 (16 + v11) 1 σ x7 r h1 h2) N (σ, 0) _ he55 ?_
        try dsimp only at hf ⊢
        refine hv_iload (pn := 107) X d_Md_lookAtKey_105 ?_
        refine hv_istore (pn := 109) (i := 7) (lo' := [some (.ref a0), none, some (.int (v2 - v3)), some (.int ((8 * x1) + v7)), some (.int v9), some (.int (16 + v11)), some (.int 1), some (.int v9)]) X d_Md_lookAtKey_107 ?_
        refine hv_drop (i := 4) (lo' := [some (.ref a0), none, some (.int (v2 - v3)), some (.int ((8 * x1) + v7)), none, some (.int (16 + v11)), some (.int 1), some (.int v9)]) ?_
        obtain ⟨σ35, he53, hf⟩ := bd_E hf
        refine hv_loop (P := fun s => hv_V k s.1 109 [some (.ref a0), none, some (.int (v2 - v3)), some (.int ((8 * x1) + v7)), none, some (.int (16 + v11)), some (.int 1), some (.int s.2)] []) (Z := fun s => hv_V k s 125 [some (.ref a0), none, some (.int (v2 - v3)), some (.int ((8 * x1) + v7)), none, some (.int (16 + v11)), some (.int 1), none] []) (fun s r h1 h2 => by obtain ⟨σ, x7⟩ := s; exact w_Md_lookAtKey_l109 X N a0 (v2 - v3) ((8 * x1) + v7) (16 + v11) 1 σ x7 r h1 h2) N (σ32, v9) _ he53 ?_
        try dsimp only at hf ⊢
        refine hv_iconst (pn := 126) (v := 0) X d_Md_lookAtKey_125 ?_
        refine hv_istore (pn := 128) (i := 7) (lo' := [some (.ref a0), none, some (.int (v2 - v3)), some (.int ((8 * x1) + v7)), none, some (.int (16 + v11)), some (.int 1), some (.int 0)]) X d_Md_lookAtKey_126 ?_
        obtain ⟨x40, he51, hf⟩ := bd_E hf
        refine hv_loop (P := fun s => hv_V k σ35 128 [some (.ref a0), none, some (.int (v2 - v3)), some (.int ((8 * x1) + v7)), none, some (.int (16 + v11)), some (.int s.1), some (.int s.2)] []) (Z := fun s => hv_V k σ35 175 [some (.ref a0), none, some (.int (v2 - v3)), some (.int ((8 * x1) + v7)), none, some (.int (16 + v11)), some (.int s), none] []) (fun s r h1 h2 => by obtain ⟨x6, x7⟩ := s; exact w_Md_lookAtKey_l128 X N σ35 a0 (v2 - v3) ((8 * x1) + v7) (16 + v11) x6 x7 r h1 h2) N (1, 0) _ he51 ?_
        try dsimp only at hf ⊢
        refine hv_iload (pn := 177) X d_Md_lookAtKey_175 ?_
        refine hv_if_ne (pn := 180) (tgt := 182) X d_Md_lookAtKey_177 (by decide) (fun hc => ?_) (fun hc => ?_)
        · rw [if_pos hc] at hf
          refine hv_aload_n (pn := 183) X d_Md_lookAtKey_182 ?_
          obtain ⟨b41, hb41, hf⟩ := bd_E hf
          refine hv_getR (pn := 186) X d_Md_lookAtKey_183 fa_Md_131 hb41 ?_
          refine hv_iload_n (pn := 187) X d_Md_lookAtKey_186 ?_
          refine hv_iload_n (pn := 188) X d_Md_lookAtKey_187 ?_
          obtain ⟨σ42, hσ42, hf⟩ := bd_E hf
          refine hv_iast (pn := 189) X d_Md_lookAtKey_188 hσ42 ?_
          refine hv_iconst (pn := 190) (v := 0) X d_Md_lookAtKey_189 ?_
          refine hv_istore (pn := 192) (i := 7) (lo' := [some (.ref a0), none, some (.int (v2 - v3)), some (.int ((8 * x1) + v7)), none, some (.int (16 + v11)), some (.int x40), some (.int 0)]) X d_Md_lookAtKey_190 ?_
          refine hv_drop (i := 2) (lo' := [some (.ref a0), none, none, some (.int ((8 * x1) + v7)), none, some (.int (16 + v11)), some (.int x40), some (.int 0)]) ?_
          refine hv_drop (i := 6) (lo' := [some (.ref a0), none, none, some (.int ((8 * x1) + v7)), none, some (.int (16 + v11)), none, some (.int 0)]) ?_
          obtain ⟨σ47, he49, hf⟩ := bd_E hf
          refine hv_loop (P := fun s => hv_V k s.1 192 [some (.ref a0), none, none, some (.int ((8 * x1) + v7)), none, some (.int (16 + v11)), none, some (.int s.2)] []) (Z := fun s => hv_V k s 227 [none, none, none, none, none, none, none, none] []) (fun s r h1 h2 => by obtain ⟨σ, x7⟩ := s; exact w_Md_lookAtKey_l192 X N a0 ((8 * x1) + v7) (16 + v11) σ x7 r h1 h2) N (σ42, 0) _ he49 ?_
          try dsimp only at hf ⊢
          refine hv_iconst (pn := 228) (v := 1) X d_Md_lookAtKey_227 ?_
          cases hf
          exact hv_iret X d_Md_lookAtKey_228 E
        · rw [if_neg hc] at hf
          refine hv_iconst (pn := 181) (v := 2) X d_Md_lookAtKey_180 ?_
          cases hf
          exact hv_iret X d_Md_lookAtKey_181 E
    · rw [if_neg hc] at hf
      refine hv_drop (i := 0) (lo' := [none, some (.int x1), some (.int (v2 - v3)), none, none, none, none, none]) ?_
      refine hv_drop (i := 1) (lo' := [none, none, some (.int (v2 - v3)), none, none, none, none, none]) ?_
      refine hv_drop (i := 2) (lo' := [none, none, none, none, none, none, none, none]) ?_
      exact w_Md_lookAtKey_j32 X N σ   _ hf E
set_option maxHeartbeats 4000000 in
set_option maxRecDepth 100000 in
theorem c_Md_heldAt (l : Launch) (G : ho_G) (N : Nat) (σ : ho_H) (a0 : Nat) (x1 : Int32) (x2 : Int32) (r : Int32) (hf : f_Md_heldAt G N σ a0 x1 x2 = some r) : hv_C l G y_Md_heldAt (Cond.code y_Md_heldAt b_Md_heldAt 3 (some (.int)) :: hv_ws) 0 0 [.ref a0, .int x1, .int x2] σ σ (some (.int r)) := by
  refine hv_met [some (.ref a0), some (.int x1), some (.int x2)] (plainFor_of_name (by decide +kernel)) (by intro v hv; simp at hv; rcases hv with rfl | rfl | rfl <;> rfl) (Nat.le_of_ble_eq_true rfl) rfl ?_
  intro k X hkl hkG E
  subst hkl
  subst hkG
  unfold f_Md_heldAt at hf
  refine hv_bipush (pn := 2) (v := 68) X d_Md_heldAt_0 ?_
  refine hv_bipush (pn := 4) (v := 16) X d_Md_heldAt_2 ?_
  refine hv_iload_n (pn := 5) X d_Md_heldAt_4 ?_
  refine hv_imul (pn := 6) X d_Md_heldAt_5 ?_
  refine hv_iload_n (pn := 7) X d_Md_heldAt_6 ?_
  refine hv_iadd (pn := 8) X d_Md_heldAt_7 ?_
  refine hv_imul (pn := 9) X d_Md_heldAt_8 ?_
  cases hf
  exact hv_iret X d_Md_heldAt_9 E
set_option maxHeartbeats 4000000 in
set_option maxRecDepth 100000 in
theorem c_Md_heldInterval (l : Launch) (G : ho_G) (N : Nat) (σ : ho_H) (a0 : Nat) (x1 : Int32) (x2 : Int32) (r : Int32) (hf : f_Md_heldInterval G N σ a0 x1 x2 = some r) : hv_C l G y_Md_heldInterval (Cond.code y_Md_heldInterval b_Md_heldInterval 4 (some (.int)) :: hv_ws) 1 22 [.ref a0, .int x1, .int x2] σ σ (some (.int r)) := by
  refine hv_met [some (.ref a0), some (.int x1), some (.int x2), none] (plainFor_of_name (by decide +kernel)) (by intro v hv; simp at hv; rcases hv with rfl | rfl | rfl <;> rfl) (Nat.le_of_ble_eq_true rfl) rfl ?_
  intro k X hkl hkG E
  subst hkl
  subst hkG
  unfold f_Md_heldInterval at hf
  refine hv_aload_n (pn := 1) X d_Md_heldInterval_0 ?_
  refine hv_iload_n (pn := 2) X d_Md_heldInterval_1 ?_
  refine hv_iload_n (pn := 3) X d_Md_heldInterval_2 ?_
  obtain ⟨_, hr1, hf⟩ := bd_E hf
  obtain ⟨v2, hv2, hf⟩ := bd_E hf
  refine hv_callV (pn := 6) X d_Md_heldInterval_3 (c_Md_heldAt _ _ N σ a0 x1 x2 _ hv2) cs_Md_265 q_5_128 rfl qs_Md_heldAt hr1 (by decide) (by decide) ⟨Nat.le_refl _, Nat.le_refl _⟩ (Nat.le_of_ble_eq_true rfl) ?_
  refine hv_istore_n (pn := 7) (i := 3) (lo' := [some (.ref a0), some (.int x1), some (.int x2), some (.int v2)]) X d_Md_heldInterval_6 ?_
  refine hv_aload_n (pn := 8) X d_Md_heldInterval_7 ?_
  obtain ⟨b3, hb3, hf⟩ := bd_E hf
  refine hv_getR (pn := 11) X d_Md_heldInterval_8 fa_Md_146 hb3 ?_
  refine hv_iload_n (pn := 12) X d_Md_heldInterval_11 ?_
  obtain ⟨v4, hv4, hf⟩ := bd_E hf
  refine hv_iald (pn := 13) X d_Md_heldInterval_12 hv4 ?_
  refine hv_bipush (pn := 15) (v := 24) X d_Md_heldInterval_13 ?_
  refine hv_ishl (pn := 16) X d_Md_heldInterval_15 ?_
  refine hv_aload_n (pn := 17) X d_Md_heldInterval_16 ?_
  obtain ⟨b5, hb5, hf⟩ := bd_E hf
  refine hv_getR (pn := 20) X d_Md_heldInterval_17 fa_Md_146 hb5 ?_
  refine hv_iload_n (pn := 21) X d_Md_heldInterval_20 ?_
  refine hv_iconst (pn := 22) (v := 1) X d_Md_heldInterval_21 ?_
  refine hv_iadd (pn := 23) X d_Md_heldInterval_22 ?_
  obtain ⟨v6, hv6, hf⟩ := bd_E hf
  refine hv_iald (pn := 24) X d_Md_heldInterval_23 hv6 ?_
  refine hv_bipush (pn := 26) (v := 16) X d_Md_heldInterval_24 ?_
  refine hv_ishl (pn := 27) X d_Md_heldInterval_26 ?_
  refine hv_ior (pn := 28) X d_Md_heldInterval_27 ?_
  refine hv_aload_n (pn := 29) X d_Md_heldInterval_28 ?_
  obtain ⟨b7, hb7, hf⟩ := bd_E hf
  refine hv_getR (pn := 32) X d_Md_heldInterval_29 fa_Md_146 hb7 ?_
  refine hv_iload_n (pn := 33) X d_Md_heldInterval_32 ?_
  refine hv_iconst (pn := 34) (v := 2) X d_Md_heldInterval_33 ?_
  refine hv_iadd (pn := 35) X d_Md_heldInterval_34 ?_
  obtain ⟨v8, hv8, hf⟩ := bd_E hf
  refine hv_iald (pn := 36) X d_Md_heldInterval_35 hv8 ?_
  refine hv_bipush (pn := 38) (v := 8) X d_Md_heldInterval_36 ?_
  refine hv_ishl (pn := 39) X d_Md_heldInterval_38 ?_
  refine hv_ior (pn := 40) X d_Md_heldInterval_39 ?_
  refine hv_aload_n (pn := 41) X d_Md_heldInterval_40 ?_
  obtain ⟨b9, hb9, hf⟩ := bd_E hf
  refine hv_getR (pn := 44) X d_Md_heldInterval_41 fa_Md_146 hb9 ?_
  refine hv_iload_n (pn := 45) X d_Md_heldInterval_44 ?_
  refine hv_iconst (pn := 46) (v := 3) X d_Md_heldInterval_45 ?_
  refine hv_iadd (pn := 47) X d_Md_heldInterval_46 ?_
  obtain ⟨v10, hv10, hf⟩ := bd_E hf
  refine hv_iald (pn := 48) X d_Md_heldInterval_47 hv10 ?_
  refine hv_ior (pn := 49) X d_Md_heldInterval_48 ?_
  cases hf
  exact hv_iret X d_Md_heldInterval_49 E
set_option maxHeartbeats 4000000 in
set_option maxRecDepth 100000 in
theorem w_Md_isDue_j44 {k : mk_T} (X : hv_X k b_Md_isDue y_Md_isDue.cls 5 2 45 (some (.boolean)) y_Md_isDue.name) (N : Nat) (σ : ho_H) (y0 : Int32)  (r : Int32) (hf : f_Md_isDue_j44 k.2.1 N σ y0 = some r) (E : hv_end k σ (some (.int r))) : hv_V k σ 44 [none, none, none, none, none] [.int y0] := by
  unfold f_Md_isDue_j44 at hf
  obtain ⟨_, hz, hf⟩ := bd_E hf
  cases hf
  exact hv_zret X d_Md_isDue_44 (ho_bz_E hz) E
set_option maxHeartbeats 4000000 in
set_option maxRecDepth 100000 in
theorem w_Md_isDue_j43 {k : mk_T} (X : hv_X k b_Md_isDue y_Md_isDue.cls 5 2 45 (some (.boolean)) y_Md_isDue.name) (N : Nat) (σ : ho_H)   (r : Int32) (hf : f_Md_isDue_j43 k.2.1 N σ  = some r) (E : hv_end k σ (some (.int r))) : hv_V k σ 43 [none, none, none, none, none] [] := by
  unfold f_Md_isDue_j43 at hf
  refine hv_iconst (pn := 44) (v := 0) X d_Md_isDue_43 ?_
  exact w_Md_isDue_j44 X N σ 0  _ hf E
set_option maxHeartbeats 4000000 in
set_option maxRecDepth 100000 in
theorem c_Md_isDue (l : Launch) (G : ho_G) (N : Nat) (σ : ho_H) (a0 : Nat) (x1 : Int32) (x2 : Int32) (r : Int32) (hf : f_Md_isDue G N σ a0 x1 x2 = some r) : hv_C l G y_Md_isDue (Cond.code y_Md_isDue b_Md_isDue 5 (some (.boolean)) :: hv_ws) 2 45 [.ref a0, .int x1, .int x2] σ σ (some (.int r)) := by
  refine hv_met [some (.ref a0), some (.int x1), some (.int x2), none, none] (plainFor_of_name (by decide +kernel)) (by intro v hv; simp at hv; rcases hv with rfl | rfl | rfl <;> rfl) (Nat.le_of_ble_eq_true rfl) rfl ?_
  intro k X hkl hkG E
  subst hkl
  subst hkG
  unfold f_Md_isDue at hf
  refine hv_aload_n (pn := 1) X d_Md_isDue_0 ?_
  refine hv_iload_n (pn := 2) X d_Md_isDue_1 ?_
  refine hv_iload_n (pn := 3) X d_Md_isDue_2 ?_
  obtain ⟨_, hr1, hf⟩ := bd_E hf
  obtain ⟨v2, hv2, hf⟩ := bd_E hf
  refine hv_callV (pn := 6) X d_Md_isDue_3 (c_Md_heldInterval _ _ N σ a0 x1 x2 _ hv2) cs_Md_268 q_5_124 rfl qs_Md_heldInterval hr1 (by decide) (by decide) ⟨Nat.le_refl _, Nat.le_refl _⟩ (Nat.le_of_ble_eq_true rfl) ?_
  refine hv_istore_n (pn := 7) (i := 3) (lo' := [some (.ref a0), some (.int x1), some (.int x2), some (.int v2), none]) X d_Md_isDue_6 ?_
  refine hv_bipush (pn := 9) (v := 8) X d_Md_isDue_7 ?_
  refine hv_iload_n (pn := 10) X d_Md_isDue_9 ?_
  refine hv_imul (pn := 11) X d_Md_isDue_10 ?_
  refine hv_iload_n (pn := 12) X d_Md_isDue_11 ?_
  obtain ⟨v3, hv3, hf⟩ := bd_E hf
  refine hv_callS (pn := 15) X d_Md_isDue_12 (c_Md_chainOf _ _ N σ v2 _ hv3) cs_Md_239 q_5_52 (by decide) (by decide) ⟨Nat.le_refl _, Nat.le_refl _⟩ (Nat.le_of_ble_eq_true rfl) ?_
  refine hv_iadd (pn := 16) X d_Md_isDue_15 ?_
  refine hv_istore (pn := 18) (i := 4) (lo' := [some (.ref a0), some (.int x1), some (.int x2), some (.int v2), some (.int ((8 * x1) + v3))]) X d_Md_isDue_16 ?_
  refine hv_aload_n (pn := 19) X d_Md_isDue_18 ?_
  obtain ⟨b4, hb4, hf⟩ := bd_E hf
  refine hv_getR (pn := 22) X d_Md_isDue_19 fa_Md_124 hb4 ?_
  refine hv_iload (pn := 24) X d_Md_isDue_22 ?_
  obtain ⟨v5, hv5, hf⟩ := bd_E hf
  refine hv_zald (pn := 25) X d_Md_isDue_24 hv5 ?_
  refine hv_if_eq (pn := 28) (tgt := 43) X d_Md_isDue_25 (by decide) (fun hc => ?_) (fun hc => ?_)
  · rw [if_pos hc] at hf
    refine hv_drop (i := 0) (lo' := [none, some (.int x1), some (.int x2), some (.int v2), some (.int ((8 * x1) + v3))]) ?_
    refine hv_drop (i := 1) (lo' := [none, none, some (.int x2), some (.int v2), some (.int ((8 * x1) + v3))]) ?_
    refine hv_drop (i := 2) (lo' := [none, none, none, some (.int v2), some (.int ((8 * x1) + v3))]) ?_
    refine hv_drop (i := 3) (lo' := [none, none, none, none, some (.int ((8 * x1) + v3))]) ?_
    refine hv_drop (i := 4) (lo' := [none, none, none, none, none]) ?_
    exact w_Md_isDue_j43 X N σ   _ hf E
  · rw [if_neg hc] at hf
    refine hv_aload_n (pn := 29) X d_Md_isDue_28 ?_
    obtain ⟨b6, hb6, hf⟩ := bd_E hf
    refine hv_getR (pn := 32) X d_Md_isDue_29 fa_Md_131 hb6 ?_
    refine hv_iload (pn := 34) X d_Md_isDue_32 ?_
    obtain ⟨v7, hv7, hf⟩ := bd_E hf
    refine hv_iald (pn := 35) X d_Md_isDue_34 hv7 ?_
    refine hv_iload_n (pn := 36) X d_Md_isDue_35 ?_
    refine hv_icmp_lt (pn := 39) (tgt := 43) X d_Md_isDue_36 (by decide) (fun hc => ?_) (fun hc => ?_)
    · rw [if_pos hc] at hf
      refine hv_drop (i := 0) (lo' := [none, some (.int x1), some (.int x2), some (.int v2), some (.int ((8 * x1) + v3))]) ?_
      refine hv_drop (i := 1) (lo' := [none, none, some (.int x2), some (.int v2), some (.int ((8 * x1) + v3))]) ?_
      refine hv_drop (i := 2) (lo' := [none, none, none, some (.int v2), some (.int ((8 * x1) + v3))]) ?_
      refine hv_drop (i := 3) (lo' := [none, none, none, none, some (.int ((8 * x1) + v3))]) ?_
      refine hv_drop (i := 4) (lo' := [none, none, none, none, none]) ?_
      exact w_Md_isDue_j43 X N σ   _ hf E
    · rw [if_neg hc] at hf
      refine hv_iconst (pn := 40) (v := 1) X d_Md_isDue_39 ?_
      refine hv_goto (tgt := 44) X d_Md_isDue_40 (by decide) ?_
      refine hv_drop (i := 0) (lo' := [none, some (.int x1), some (.int x2), some (.int v2), some (.int ((8 * x1) + v3))]) ?_
      refine hv_drop (i := 1) (lo' := [none, none, some (.int x2), some (.int v2), some (.int ((8 * x1) + v3))]) ?_
      refine hv_drop (i := 2) (lo' := [none, none, none, some (.int v2), some (.int ((8 * x1) + v3))]) ?_
      refine hv_drop (i := 3) (lo' := [none, none, none, none, some (.int ((8 * x1) + v3))]) ?_
      refine hv_drop (i := 4) (lo' := [none, none, none, none, none]) ?_
      exact w_Md_isDue_j44 X N σ 1  _ hf E
set_option maxHeartbeats 4000000 in
set_option maxRecDepth 100000 in
theorem w_Md_keep_l25 {k : mk_T} (X : hv_X k b_Md_keep y_Md_keep.cls 6 0 0 none y_Md_keep.name) (N : Nat) (a0 : Nat) (x1 : Int32) (x3 : Int32) (x4 : Int32) (σ : ho_H) (x5 : Int32) (r : (ho_H × Int32) ⊕ (ho_H)) (hf : f_Md_keep_l25 k.2.1 N a0 x1 x3 x4 (σ, x5) = some r) (E : sm (fun s => hv_V k s.1 25 [some (.ref a0), some (.int x1), none, some (.int x3), some (.int x4), some (.int s.2)] []) (fun s => hv_V k s 63 [some (.ref a0), some (.int x1), none, some (.int x3), none, none] []) r) : hv_V k σ 25 [some (.ref a0), some (.int x1), none, some (.int x3), some (.int x4), some (.int x5)] [] := by
  unfold f_Md_keep_l25 at hf
  try dsimp only at hf
  refine hv_iload (pn := 27) X d_Md_keep_25 ?_
  refine hv_bipush (pn := 29) (v := 10) X d_Md_keep_27 ?_
  refine hv_icmp_ge (pn := 32) (tgt := 63) X d_Md_keep_29 (by decide) (fun hc => ?_) (fun hc => ?_)
  · rw [if_pos hc] at hf
    refine hv_drop (i := 4) (lo' := [some (.ref a0), some (.int x1), none, some (.int x3), none, some (.int x5)]) ?_
    refine hv_drop (i := 5) (lo' := [some (.ref a0), some (.int x1), none, some (.int x3), none, none]) ?_
    cases hf
    exact E
  · rw [if_neg hc] at hf
    refine hv_aload_n (pn := 33) X d_Md_keep_32 ?_
    obtain ⟨b5, hb5, hf⟩ := bd_E hf
    refine hv_getR (pn := 36) X d_Md_keep_33 fa_Md_156 hb5 ?_
    refine hv_bipush (pn := 38) (v := 10) X d_Md_keep_36 ?_
    refine hv_iload (pn := 40) X d_Md_keep_38 ?_
    refine hv_imul (pn := 41) X d_Md_keep_40 ?_
    refine hv_iload (pn := 43) X d_Md_keep_41 ?_
    refine hv_iadd (pn := 44) X d_Md_keep_43 ?_
    refine hv_aload_n (pn := 45) X d_Md_keep_44 ?_
    obtain ⟨b6, hb6, hf⟩ := bd_E hf
    refine hv_getR (pn := 48) X d_Md_keep_45 fa_Md_166 hb6 ?_
    refine hv_bipush (pn := 50) (v := 6) X d_Md_keep_48 ?_
    refine hv_iload_n (pn := 51) X d_Md_keep_50 ?_
    refine hv_iadd (pn := 52) X d_Md_keep_51 ?_
    refine hv_iload (pn := 54) X d_Md_keep_52 ?_
    refine hv_iadd (pn := 55) X d_Md_keep_54 ?_
    obtain ⟨v7, hv7, hf⟩ := bd_E hf
    refine hv_iald (pn := 56) X d_Md_keep_55 hv7 ?_
    obtain ⟨σ8, hσ8, hf⟩ := bd_E hf
    refine hv_iast (pn := 57) X d_Md_keep_56 hσ8 ?_
    refine hv_iinc (pn := 60) (i := 5) (v := x5 + 1) (lo' := [some (.ref a0), some (.int x1), none, some (.int x3), some (.int x4), some (.int (x5 + 1))]) X d_Md_keep_57 ?_
    refine hv_goto (tgt := 25) X d_Md_keep_60 (by decide) ?_
    cases hf
    exact E
set_option maxHeartbeats 4000000 in
set_option maxRecDepth 100000 in
theorem w_Md_keep_j141 {k : mk_T} (X : hv_X k b_Md_keep y_Md_keep.cls 6 0 0 none y_Md_keep.name) (N : Nat) (σ : ho_H) (a0 : Nat) (x1 : Int32)  (r : ho_H) (hf : f_Md_keep_j141 k.2.1 N σ a0 x1 = some r) (E : hv_end k r none) : hv_V k σ 141 [some (.ref a0), some (.int x1), none, none, none, none] [] := by
  unfold f_Md_keep_j141 at hf
  refine hv_aload_n (pn := 142) X d_Md_keep_141 ?_
  obtain ⟨b12, hb12, hf⟩ := bd_E hf
  refine hv_getR (pn := 145) X d_Md_keep_142 fa_Md_149 hb12 ?_
  refine hv_iload_n (pn := 146) X d_Md_keep_145 ?_
  refine hv_dup2 (pn := 147) X d_Md_keep_146 rfl rfl ?_
  obtain ⟨v13, hv13, hf⟩ := bd_E hf
  refine hv_iald (pn := 148) X d_Md_keep_147 hv13 ?_
  refine hv_iconst (pn := 149) (v := 1) X d_Md_keep_148 ?_
  refine hv_iadd (pn := 150) X d_Md_keep_149 ?_
  obtain ⟨σ14, hσ14, hf⟩ := bd_E hf
  refine hv_iast (pn := 151) X d_Md_keep_150 hσ14 ?_
  cases hf
  exact hv_vret X d_Md_keep_151 E
set_option maxHeartbeats 4000000 in
set_option maxRecDepth 100000 in
theorem w_Md_keep_l97 {k : mk_T} (X : hv_X k b_Md_keep y_Md_keep.cls 6 0 0 none y_Md_keep.name) (N : Nat) (a0 : Nat) (x1 : Int32) (x3 : Int32) (σ : ho_H) (x5 : Int32) (r : (ho_H × Int32) ⊕ (ho_H)) (hf : f_Md_keep_l97 k.2.1 N a0 x1 x3 (σ, x5) = some r) (E : sm (fun s => hv_V k s.1 97 [some (.ref a0), some (.int x1), none, some (.int x3), none, some (.int s.2)] []) (fun s => hv_V k s 141 [some (.ref a0), some (.int x1), none, none, none, none] []) r) : hv_V k σ 97 [some (.ref a0), some (.int x1), none, some (.int x3), none, some (.int x5)] [] := by
  unfold f_Md_keep_l97 at hf
  try dsimp only at hf
  refine hv_iload (pn := 99) X d_Md_keep_97 ?_
  refine hv_bipush (pn := 101) (v := 36) X d_Md_keep_99 ?_
  refine hv_iload_n (pn := 102) X d_Md_keep_101 ?_
  refine hv_iadd (pn := 103) X d_Md_keep_102 ?_
  refine hv_icmp_ge (pn := 106) (tgt := 141) X d_Md_keep_103 (by decide) (fun hc => ?_) (fun hc => ?_)
  · rw [if_pos hc] at hf
    refine hv_drop (i := 3) (lo' := [some (.ref a0), some (.int x1), none, none, none, some (.int x5)]) ?_
    refine hv_drop (i := 5) (lo' := [some (.ref a0), some (.int x1), none, none, none, none]) ?_
    cases hf
    exact E
  · rw [if_neg hc] at hf
    refine hv_aload_n (pn := 107) X d_Md_keep_106 ?_
    obtain ⟨b19, hb19, hf⟩ := bd_E hf
    refine hv_getR (pn := 110) X d_Md_keep_107 fa_Md_163 hb19 ?_
    refine hv_bipush (pn := 112) (v := 68) X d_Md_keep_110 ?_
    refine hv_bipush (pn := 114) (v := 100) X d_Md_keep_112 ?_
    refine hv_iload_n (pn := 115) X d_Md_keep_114 ?_
    refine hv_imul (pn := 116) X d_Md_keep_115 ?_
    refine hv_aload_n (pn := 117) X d_Md_keep_116 ?_
    obtain ⟨b20, hb20, hf⟩ := bd_E hf
    refine hv_getR (pn := 120) X d_Md_keep_117 fa_Md_149 hb20 ?_
    refine hv_iload_n (pn := 121) X d_Md_keep_120 ?_
    obtain ⟨v21, hv21, hf⟩ := bd_E hf
    refine hv_iald (pn := 122) X d_Md_keep_121 hv21 ?_
    refine hv_iadd (pn := 123) X d_Md_keep_122 ?_
    refine hv_imul (pn := 124) X d_Md_keep_123 ?_
    refine hv_iload (pn := 126) X d_Md_keep_124 ?_
    refine hv_iadd (pn := 127) X d_Md_keep_126 ?_
    refine hv_aload_n (pn := 128) X d_Md_keep_127 ?_
    obtain ⟨b22, hb22, hf⟩ := bd_E hf
    refine hv_getR (pn := 131) X d_Md_keep_128 fa_Md_166 hb22 ?_
    refine hv_iload (pn := 133) X d_Md_keep_131 ?_
    obtain ⟨v23, hv23, hf⟩ := bd_E hf
    refine hv_iald (pn := 134) X d_Md_keep_133 hv23 ?_
    obtain ⟨σ24, hσ24, hf⟩ := bd_E hf
    refine hv_iast (pn := 135) X d_Md_keep_134 hσ24 ?_
    refine hv_iinc (pn := 138) (i := 5) (v := x5 + 1) (lo' := [some (.ref a0), some (.int x1), none, some (.int x3), none, some (.int (x5 + 1))]) X d_Md_keep_135 ?_
    refine hv_goto (tgt := 97) X d_Md_keep_138 (by decide) ?_
    cases hf
    exact E
set_option maxHeartbeats 4000000 in
set_option maxRecDepth 100000 in
theorem c_Md_keep (l : Launch) (G : ho_G) (N : Nat) (σ : ho_H) (a0 : Nat) (x1 : Int32) (x2 : Int32) (x3 : Int32) (σ' : ho_H) (hf : f_Md_keep G N σ a0 x1 x2 x3 = some σ') : hv_C l G y_Md_keep (Cond.code y_Md_keep b_Md_keep 6 none :: hv_ws) 0 0 [.ref a0, .int x1, .int x2, .int x3] σ σ' (none) := by
  refine hv_met [some (.ref a0), some (.int x1), some (.int x2), some (.int x3), none, none] (plainFor_of_name (by decide +kernel)) (by intro v hv; simp at hv; rcases hv with rfl | rfl | rfl | rfl <;> rfl) (Nat.le_of_ble_eq_true rfl) rfl ?_
  intro k X hkl hkG E
  subst hkl
  subst hkG
  unfold f_Md_keep at hf
  refine hv_sipush (pn := 3) (v := 1024) X d_Md_keep_0 ?_
  refine hv_iload_n (pn := 4) X d_Md_keep_3 ?_
  refine hv_imul (pn := 5) X d_Md_keep_4 ?_
  refine hv_aload_n (pn := 6) X d_Md_keep_5 ?_
  obtain ⟨b1, hb1, hf⟩ := bd_E hf
  refine hv_getR (pn := 9) X d_Md_keep_6 fa_Md_149 hb1 ?_
  refine hv_iload_n (pn := 10) X d_Md_keep_9 ?_
  obtain ⟨v2, hv2, hf⟩ := bd_E hf
  refine hv_iald (pn := 11) X d_Md_keep_10 hv2 ?_
  refine hv_iadd (pn := 12) X d_Md_keep_11 ?_
  refine hv_istore (pn := 14) (i := 4) (lo' := [some (.ref a0), some (.int x1), some (.int x2), some (.int x3), some (.int ((1024 * x1) + v2)), none]) X d_Md_keep_12 ?_
  refine hv_aload_n (pn := 15) X d_Md_keep_14 ?_
  obtain ⟨b3, hb3, hf⟩ := bd_E hf
  refine hv_getR (pn := 18) X d_Md_keep_15 fa_Md_152 hb3 ?_
  refine hv_iload (pn := 20) X d_Md_keep_18 ?_
  refine hv_iload_n (pn := 21) X d_Md_keep_20 ?_
  obtain ⟨σ4, hσ4, hf⟩ := bd_E hf
  refine hv_iast (pn := 22) X d_Md_keep_21 hσ4 ?_
  refine hv_iconst (pn := 23) (v := 0) X d_Md_keep_22 ?_
  refine hv_istore (pn := 25) (i := 5) (lo' := [some (.ref a0), some (.int x1), some (.int x2), some (.int x3), some (.int ((1024 * x1) + v2)), some (.int 0)]) X d_Md_keep_23 ?_
  refine hv_drop (i := 2) (lo' := [some (.ref a0), some (.int x1), none, some (.int x3), some (.int ((1024 * x1) + v2)), some (.int 0)]) ?_
  obtain ⟨σ9, he29, hf⟩ := bd_E hf
  refine hv_loop (P := fun s => hv_V k s.1 25 [some (.ref a0), some (.int x1), none, some (.int x3), some (.int ((1024 * x1) + v2)), some (.int s.2)] []) (Z := fun s => hv_V k s 63 [some (.ref a0), some (.int x1), none, some (.int x3), none, none] []) (fun s r h1 h2 => by obtain ⟨σ, x5⟩ := s; exact w_Md_keep_l25 X N a0 x1 x3 ((1024 * x1) + v2) σ x5 r h1 h2) N (σ4, 0) _ he29 ?_
  try dsimp only at hf ⊢
  refine hv_aload_n (pn := 64) X d_Md_keep_63 ?_
  obtain ⟨b10, hb10, hf⟩ := bd_E hf
  refine hv_getR (pn := 67) X d_Md_keep_64 fa_Md_149 hb10 ?_
  refine hv_iload_n (pn := 68) X d_Md_keep_67 ?_
  obtain ⟨v11, hv11, hf⟩ := bd_E hf
  refine hv_iald (pn := 69) X d_Md_keep_68 hv11 ?_
  refine hv_bipush (pn := 71) (v := 100) X d_Md_keep_69 ?_
  refine hv_icmp_ge (pn := 74) (tgt := 141) X d_Md_keep_71 (by decide) (fun hc => ?_) (fun hc => ?_)
  · rw [if_pos hc] at hf
    refine hv_drop (i := 3) (lo' := [some (.ref a0), some (.int x1), none, none, none, none]) ?_
    exact w_Md_keep_j141 X N σ9 a0 x1  _ hf E
  · rw [if_neg hc] at hf
    refine hv_aload_n (pn := 75) X d_Md_keep_74 ?_
    obtain ⟨b15, hb15, hf⟩ := bd_E hf
    refine hv_getR (pn := 78) X d_Md_keep_75 fa_Md_159 hb15 ?_
    refine hv_bipush (pn := 80) (v := 100) X d_Md_keep_78 ?_
    refine hv_iload_n (pn := 81) X d_Md_keep_80 ?_
    refine hv_imul (pn := 82) X d_Md_keep_81 ?_
    refine hv_aload_n (pn := 83) X d_Md_keep_82 ?_
    obtain ⟨b16, hb16, hf⟩ := bd_E hf
    refine hv_getR (pn := 86) X d_Md_keep_83 fa_Md_149 hb16 ?_
    refine hv_iload_n (pn := 87) X d_Md_keep_86 ?_
    obtain ⟨v17, hv17, hf⟩ := bd_E hf
    refine hv_iald (pn := 88) X d_Md_keep_87 hv17 ?_
    refine hv_iadd (pn := 89) X d_Md_keep_88 ?_
    refine hv_bipush (pn := 91) (v := 36) X d_Md_keep_89 ?_
    refine hv_iload_n (pn := 92) X d_Md_keep_91 ?_
    refine hv_iadd (pn := 93) X d_Md_keep_92 ?_
    obtain ⟨σ18, hσ18, hf⟩ := bd_E hf
    refine hv_iast (pn := 94) X d_Md_keep_93 hσ18 ?_
    refine hv_iconst (pn := 95) (v := 0) X d_Md_keep_94 ?_
    refine hv_istore (pn := 97) (i := 5) (lo' := [some (.ref a0), some (.int x1), none, some (.int x3), none, some (.int 0)]) X d_Md_keep_95 ?_
    obtain ⟨σ25, he27, hf⟩ := bd_E hf
    refine hv_loop (P := fun s => hv_V k s.1 97 [some (.ref a0), some (.int x1), none, some (.int x3), none, some (.int s.2)] []) (Z := fun s => hv_V k s 141 [some (.ref a0), some (.int x1), none, none, none, none] []) (fun s r h1 h2 => by obtain ⟨σ, x5⟩ := s; exact w_Md_keep_l97 X N a0 x1 x3 σ x5 r h1 h2) N (σ18, 0) _ he27 ?_
    try dsimp only at hf ⊢
    exact w_Md_keep_j141 X N σ25 a0 x1  _ hf E
set_option maxHeartbeats 4000000 in
set_option maxRecDepth 100000 in
theorem w_Md_goOut_l15 {k : mk_T} (X : hv_X k b_Md_goOut y_Md_goOut.cls 9 5 114 none y_Md_goOut.name) (N : Nat) (a0 : Nat) (x1 : Int32) (x2 : Int32) (x3 : Int32) (σ : ho_H) (x4 : Int32) (r : (ho_H × Int32) ⊕ (ho_H)) (hf : f_Md_goOut_l15 k.2.1 N a0 x1 x2 x3 (σ, x4) = some r) (E : sm (fun s => hv_V k s.1 15 [some (.ref a0), some (.int x1), some (.int x2), some (.int x3), some (.int s.2), none, none, none, none] []) (fun s => hv_V k s 48 [some (.ref a0), some (.int x1), some (.int x2), none, none, none, none, none, none] []) r) : hv_V k σ 15 [some (.ref a0), some (.int x1), some (.int x2), some (.int x3), some (.int x4), none, none, none, none] [] := by
  unfold f_Md_goOut_l15 at hf
  try dsimp only at hf
  refine hv_iload (pn := 17) X d_Md_goOut_15 ?_
  refine hv_iload_n (pn := 18) X d_Md_goOut_17 ?_
  refine hv_icmp_ge (pn := 21) (tgt := 48) X d_Md_goOut_18 (by decide) (fun hc => ?_) (fun hc => ?_)
  · rw [if_pos hc] at hf
    refine hv_drop (i := 3) (lo' := [some (.ref a0), some (.int x1), some (.int x2), none, some (.int x4), none, none, none, none]) ?_
    refine hv_drop (i := 4) (lo' := [some (.ref a0), some (.int x1), some (.int x2), none, none, none, none, none, none]) ?_
    cases hf
    exact E
  · rw [if_neg hc] at hf
    refine hv_aload_n (pn := 22) X d_Md_goOut_21 ?_
    obtain ⟨b3, hb3, hf⟩ := bd_E hf
    refine hv_getR (pn := 25) X d_Md_goOut_22 fa_Md_166 hb3 ?_
    refine hv_iload (pn := 27) X d_Md_goOut_25 ?_
    refine hv_aload_n (pn := 28) X d_Md_goOut_27 ?_
    obtain ⟨b4, hb4, hf⟩ := bd_E hf
    refine hv_getR (pn := 31) X d_Md_goOut_28 fa_Md_146 hb4 ?_
    refine hv_aload_n (pn := 32) X d_Md_goOut_31 ?_
    refine hv_iload_n (pn := 33) X d_Md_goOut_32 ?_
    refine hv_iload_n (pn := 34) X d_Md_goOut_33 ?_
    obtain ⟨_, hr5, hf⟩ := bd_E hf
    obtain ⟨v6, hv6, hf⟩ := bd_E hf
    refine hv_callV (pn := 37) X d_Md_goOut_34 (c_Md_heldAt _ _ N σ a0 x1 x2 _ hv6) cs_Md_265 q_5_128 rfl qs_Md_heldAt hr5 (by decide) (by decide) ⟨Nat.le_refl _, Nat.le_refl _⟩ (Nat.le_of_ble_eq_true rfl) ?_
    refine hv_iload (pn := 39) X d_Md_goOut_37 ?_
    refine hv_iadd (pn := 40) X d_Md_goOut_39 ?_
    obtain ⟨v7, hv7, hf⟩ := bd_E hf
    refine hv_iald (pn := 41) X d_Md_goOut_40 hv7 ?_
    obtain ⟨σ8, hσ8, hf⟩ := bd_E hf
    refine hv_iast (pn := 42) X d_Md_goOut_41 hσ8 ?_
    refine hv_iinc (pn := 45) (i := 4) (v := x4 + 1) (lo' := [some (.ref a0), some (.int x1), some (.int x2), some (.int x3), some (.int (x4 + 1)), none, none, none, none]) X d_Md_goOut_42 ?_
    refine hv_goto (tgt := 15) X d_Md_goOut_45 (by decide) ?_
    cases hf
    exact E
set_option maxHeartbeats 4000000 in
set_option maxRecDepth 100000 in
theorem w_Md_goOut_l101_in61 {k : mk_T} (X : hv_X k b_Md_goOut y_Md_goOut.cls 9 5 114 none y_Md_goOut.name) (N : Nat) (a0 : Nat) (x1 : Int32) (x4 : Int32) (σ : ho_H) (x5 : Int32) (r : (ho_H × Int32) ⊕ (ho_H)) (hf : f_Md_goOut_l101_in61 k.2.1 N a0 x1 x4 (σ, x5) = some r) (E : sm (fun s => hv_V k s.1 101 [some (.ref a0), some (.int x1), none, none, some (.int x4), some (.int s.2), none, none, none] []) (fun s => hv_V k s 146 [some (.ref a0), some (.int x1), none, none, some (.int x4), none, none, none, none] []) r) : hv_V k σ 101 [some (.ref a0), some (.int x1), none, none, some (.int x4), some (.int x5), none, none, none] [] := by
  unfold f_Md_goOut_l101_in61 at hf
  try dsimp only at hf
  refine hv_iload (pn := 103) X d_Md_goOut_101 ?_
  refine hv_bipush (pn := 105) (v := 68) X d_Md_goOut_103 ?_
  refine hv_icmp_ge (pn := 108) (tgt := 146) X d_Md_goOut_105 (by decide) (fun hc => ?_) (fun hc => ?_)
  · rw [if_pos hc] at hf
    refine hv_drop (i := 5) (lo' := [some (.ref a0), some (.int x1), none, none, some (.int x4), none, none, none, none]) ?_
    cases hf
    exact E
  · rw [if_neg hc] at hf
    refine hv_aload_n (pn := 109) X d_Md_goOut_108 ?_
    obtain ⟨b19, hb19, hf⟩ := bd_E hf
    refine hv_getR (pn := 112) X d_Md_goOut_109 fa_Md_146 hb19 ?_
    refine hv_aload_n (pn := 113) X d_Md_goOut_112 ?_
    refine hv_iload_n (pn := 114) X d_Md_goOut_113 ?_
    refine hv_iload (pn := 116) X d_Md_goOut_114 ?_
    obtain ⟨_, hr20, hf⟩ := bd_E hf
    obtain ⟨v21, hv21, hf⟩ := bd_E hf
    refine hv_callV (pn := 119) X d_Md_goOut_116 (c_Md_heldAt _ _ N σ a0 x1 x4 _ hv21) cs_Md_265 q_5_128 rfl qs_Md_heldAt hr20 (by decide) (by decide) ⟨Nat.le_refl _, Nat.le_refl _⟩ (Nat.le_of_ble_eq_true rfl) ?_
    refine hv_iload (pn := 121) X d_Md_goOut_119 ?_
    refine hv_iadd (pn := 122) X d_Md_goOut_121 ?_
    refine hv_aload_n (pn := 123) X d_Md_goOut_122 ?_
    obtain ⟨b22, hb22, hf⟩ := bd_E hf
    refine hv_getR (pn := 126) X d_Md_goOut_123 fa_Md_146 hb22 ?_
    refine hv_aload_n (pn := 127) X d_Md_goOut_126 ?_
    refine hv_iload_n (pn := 128) X d_Md_goOut_127 ?_
    refine hv_iload (pn := 130) X d_Md_goOut_128 ?_
    refine hv_iconst (pn := 131) (v := 1) X d_Md_goOut_130 ?_
    refine hv_iadd (pn := 132) X d_Md_goOut_131 ?_
    obtain ⟨_, hr23, hf⟩ := bd_E hf
    obtain ⟨v24, hv24, hf⟩ := bd_E hf
    refine hv_callV (pn := 135) X d_Md_goOut_132 (c_Md_heldAt _ _ N σ a0 x1 (x4 + 1) _ hv24) cs_Md_265 q_5_128 rfl qs_Md_heldAt hr23 (by decide) (by decide) ⟨Nat.le_refl _, Nat.le_refl _⟩ (Nat.le_of_ble_eq_true rfl) ?_
    refine hv_iload (pn := 137) X d_Md_goOut_135 ?_
    refine hv_iadd (pn := 138) X d_Md_goOut_137 ?_
    obtain ⟨v25, hv25, hf⟩ := bd_E hf
    refine hv_iald (pn := 139) X d_Md_goOut_138 hv25 ?_
    obtain ⟨σ26, hσ26, hf⟩ := bd_E hf
    refine hv_iast (pn := 140) X d_Md_goOut_139 hσ26 ?_
    refine hv_iinc (pn := 143) (i := 5) (v := x5 + 1) (lo' := [some (.ref a0), some (.int x1), none, none, some (.int x4), some (.int (x5 + 1)), none, none, none]) X d_Md_goOut_140 ?_
    refine hv_goto (tgt := 101) X d_Md_goOut_143 (by decide) ?_
    cases hf
    exact E
set_option maxHeartbeats 4000000 in
set_option maxRecDepth 100000 in
theorem w_Md_goOut_l61 {k : mk_T} (X : hv_X k b_Md_goOut y_Md_goOut.cls 9 5 114 none y_Md_goOut.name) (N : Nat) (a0 : Nat) (x1 : Int32) (σ : ho_H) (x4 : Int32) (r : (ho_H × Int32) ⊕ (ho_H)) (hf : f_Md_goOut_l61 k.2.1 N a0 x1 (σ, x4) = some r) (E : sm (fun s => hv_V k s.1 61 [some (.ref a0), some (.int x1), none, none, some (.int s.2), none, none, none, none] []) (fun s => hv_V k s 152 [some (.ref a0), some (.int x1), none, none, none, none, none, none, none] []) r) : hv_V k σ 61 [some (.ref a0), some (.int x1), none, none, some (.int x4), none, none, none, none] [] := by
  unfold f_Md_goOut_l61 at hf
  try dsimp only at hf
  refine hv_iload (pn := 63) X d_Md_goOut_61 ?_
  refine hv_aload_n (pn := 64) X d_Md_goOut_63 ?_
  obtain ⟨b13, hb13, hf⟩ := bd_E hf
  refine hv_getR (pn := 67) X d_Md_goOut_64 fa_Md_140 hb13 ?_
  refine hv_iload_n (pn := 68) X d_Md_goOut_67 ?_
  obtain ⟨v14, hv14, hf⟩ := bd_E hf
  refine hv_iald (pn := 69) X d_Md_goOut_68 hv14 ?_
  refine hv_icmp_ge (pn := 72) (tgt := 152) X d_Md_goOut_69 (by decide) (fun hc => ?_) (fun hc => ?_)
  · rw [if_pos hc] at hf
    refine hv_drop (i := 4) (lo' := [some (.ref a0), some (.int x1), none, none, none, none, none, none, none]) ?_
    cases hf
    exact E
  · rw [if_neg hc] at hf
    refine hv_aload_n (pn := 73) X d_Md_goOut_72 ?_
    obtain ⟨b15, hb15, hf⟩ := bd_E hf
    refine hv_getR (pn := 76) X d_Md_goOut_73 fa_Md_143 hb15 ?_
    refine hv_bipush (pn := 78) (v := 16) X d_Md_goOut_76 ?_
    refine hv_iload_n (pn := 79) X d_Md_goOut_78 ?_
    refine hv_imul (pn := 80) X d_Md_goOut_79 ?_
    refine hv_iload (pn := 82) X d_Md_goOut_80 ?_
    refine hv_iadd (pn := 83) X d_Md_goOut_82 ?_
    refine hv_aload_n (pn := 84) X d_Md_goOut_83 ?_
    obtain ⟨b16, hb16, hf⟩ := bd_E hf
    refine hv_getR (pn := 87) X d_Md_goOut_84 fa_Md_143 hb16 ?_
    refine hv_bipush (pn := 89) (v := 16) X d_Md_goOut_87 ?_
    refine hv_iload_n (pn := 90) X d_Md_goOut_89 ?_
    refine hv_imul (pn := 91) X d_Md_goOut_90 ?_
    refine hv_iload (pn := 93) X d_Md_goOut_91 ?_
    refine hv_iadd (pn := 94) X d_Md_goOut_93 ?_
    refine hv_iconst (pn := 95) (v := 1) X d_Md_goOut_94 ?_
    refine hv_iadd (pn := 96) X d_Md_goOut_95 ?_
    obtain ⟨v17, hv17, hf⟩ := bd_E hf
    refine hv_iald (pn := 97) X d_Md_goOut_96 hv17 ?_
    obtain ⟨σ18, hσ18, hf⟩ := bd_E hf
    refine hv_iast (pn := 98) X d_Md_goOut_97 hσ18 ?_
    refine hv_iconst (pn := 99) (v := 0) X d_Md_goOut_98 ?_
    refine hv_istore (pn := 101) (i := 5) (lo' := [some (.ref a0), some (.int x1), none, none, some (.int x4), some (.int 0), none, none, none]) X d_Md_goOut_99 ?_
    obtain ⟨σ27, he29, hf⟩ := bd_E hf
    refine hv_loop (P := fun s => hv_V k s.1 101 [some (.ref a0), some (.int x1), none, none, some (.int x4), some (.int s.2), none, none, none] []) (Z := fun s => hv_V k s 146 [some (.ref a0), some (.int x1), none, none, some (.int x4), none, none, none, none] []) (fun s r h1 h2 => by obtain ⟨σ, x5⟩ := s; exact w_Md_goOut_l101_in61 X N a0 x1 x4 σ x5 r h1 h2) N (σ18, 0) _ he29 ?_
    try dsimp only at hf ⊢
    refine hv_iinc (pn := 149) (i := 4) (v := x4 + 1) (lo' := [some (.ref a0), some (.int x1), none, none, some (.int (x4 + 1)), none, none, none, none]) X d_Md_goOut_146 ?_
    refine hv_goto (tgt := 61) X d_Md_goOut_149 (by decide) ?_
    cases hf
    exact E
set_option maxHeartbeats 4000000 in
set_option maxRecDepth 100000 in
theorem w_Md_goOut_l188 {k : mk_T} (X : hv_X k b_Md_goOut y_Md_goOut.cls 9 5 114 none y_Md_goOut.name) (N : Nat) (a0 : Nat) (x1 : Int32) (x4 : Int32) (x5 : Int32) (x6 : Int32) (σ : ho_H) (x7 : Int32) (r : (ho_H × Int32) ⊕ (ho_H)) (hf : f_Md_goOut_l188 k.2.1 N a0 x1 x4 x5 x6 (σ, x7) = some r) (E : sm (fun s => hv_V k s.1 188 [some (.ref a0), some (.int x1), none, none, some (.int x4), some (.int x5), some (.int x6), some (.int s.2), none] []) (fun s => hv_V k s 210 [some (.ref a0), some (.int x1), none, none, some (.int x4), some (.int x5), some (.int x6), none, none] []) r) : hv_V k σ 188 [some (.ref a0), some (.int x1), none, none, some (.int x4), some (.int x5), some (.int x6), some (.int x7), none] [] := by
  unfold f_Md_goOut_l188 at hf
  try dsimp only at hf
  refine hv_iload (pn := 190) X d_Md_goOut_188 ?_
  refine hv_aload_n (pn := 191) X d_Md_goOut_190 ?_
  obtain ⟨b38, hb38, hf⟩ := bd_E hf
  refine hv_getR (pn := 194) X d_Md_goOut_191 fa_Md_131 hb38 ?_
  refine hv_iload (pn := 196) X d_Md_goOut_194 ?_
  obtain ⟨v39, hv39, hf⟩ := bd_E hf
  refine hv_iald (pn := 197) X d_Md_goOut_196 hv39 ?_
  refine hv_icmp_ge (pn := 200) (tgt := 210) X d_Md_goOut_197 (by decide) (fun hc => ?_) (fun hc => ?_)
  · rw [if_pos hc] at hf
    refine hv_drop (i := 7) (lo' := [some (.ref a0), some (.int x1), none, none, some (.int x4), some (.int x5), some (.int x6), none, none]) ?_
    cases hf
    exact E
  · rw [if_neg hc] at hf
    refine hv_aload_n (pn := 201) X d_Md_goOut_200 ?_
    obtain ⟨_, hr40, hf⟩ := bd_E hf
    obtain ⟨σ41, hσ41, hf⟩ := bd_E hf
    obtain ⟨hσ41, mσ41⟩ := ho_cv_E hσ41
    refine hv_callV (pn := 204) X d_Md_goOut_201 (c_Md_down _ _ N σ a0 _ hσ41) cs_Md_227 q_5_10 rfl qs_Md_down hr40 (by decide) (by decide) mσ41 (Nat.le_of_ble_eq_true rfl) ?_
    refine hv_iinc (pn := 207) (i := 7) (v := x7 + 1) (lo' := [some (.ref a0), some (.int x1), none, none, some (.int x4), some (.int x5), some (.int x6), some (.int (x7 + 1)), none]) X d_Md_goOut_204 ?_
    refine hv_goto (tgt := 188) X d_Md_goOut_207 (by decide) ?_
    cases hf
    exact E
set_option maxHeartbeats 4000000 in
set_option maxRecDepth 100000 in
theorem w_Md_goOut_j265_in225 {k : mk_T} (X : hv_X k b_Md_goOut y_Md_goOut.cls 9 5 114 none y_Md_goOut.name) (N : Nat) (σ : ho_H) (a0 : Nat) (x1 : Int32) (x4 : Int32) (x5 : Int32) (x6 : Int32) (x8 : Int32) (y0 : Int32)  (r : (Int32 × Int32) ⊕ (Int32)) (hf : f_Md_goOut_j265_in225 k.2.1 N σ a0 x1 x4 x5 x6 x8 y0 = some r) (E : sm (fun s => hv_V k σ 225 [some (.ref a0), some (.int x1), none, none, some (.int x4), some (.int x5), some (.int x6), some (.int s.1), some (.int s.2)] []) (fun s => hv_V k σ 273 [some (.ref a0), some (.int x1), none, none, some (.int x4), some (.int x5), some (.int x6), some (.int s), none] []) r) : hv_V k σ 265 [some (.ref a0), some (.int x1), none, none, some (.int x4), some (.int x5), some (.int x6), none, some (.int x8)] [.int y0] := by
  unfold f_Md_goOut_j265_in225 at hf
  refine hv_istore (pn := 267) (i := 7) (lo' := [some (.ref a0), some (.int x1), none, none, some (.int x4), some (.int x5), some (.int x6), some (.int y0), some (.int x8)]) X d_Md_goOut_265 ?_
  refine hv_iinc (pn := 270) (i := 8) (v := x8 + 1) (lo' := [some (.ref a0), some (.int x1), none, none, some (.int x4), some (.int x5), some (.int x6), some (.int y0), some (.int (x8 + 1))]) X d_Md_goOut_267 ?_
  refine hv_goto (tgt := 225) X d_Md_goOut_270 (by decide) ?_
  cases hf
  exact E
set_option maxHeartbeats 4000000 in
set_option maxRecDepth 100000 in
theorem w_Md_goOut_j264_in225 {k : mk_T} (X : hv_X k b_Md_goOut y_Md_goOut.cls 9 5 114 none y_Md_goOut.name) (N : Nat) (σ : ho_H) (a0 : Nat) (x1 : Int32) (x4 : Int32) (x5 : Int32) (x6 : Int32) (x8 : Int32)  (r : (Int32 × Int32) ⊕ (Int32)) (hf : f_Md_goOut_j264_in225 k.2.1 N σ a0 x1 x4 x5 x6 x8 = some r) (E : sm (fun s => hv_V k σ 225 [some (.ref a0), some (.int x1), none, none, some (.int x4), some (.int x5), some (.int x6), some (.int s.1), some (.int s.2)] []) (fun s => hv_V k σ 273 [some (.ref a0), some (.int x1), none, none, some (.int x4), some (.int x5), some (.int x6), some (.int s), none] []) r) : hv_V k σ 264 [some (.ref a0), some (.int x1), none, none, some (.int x4), some (.int x5), some (.int x6), none, some (.int x8)] [] := by
  unfold f_Md_goOut_j264_in225 at hf
  refine hv_iconst (pn := 265) (v := 0) X d_Md_goOut_264 ?_
  exact w_Md_goOut_j265_in225 X N σ a0 x1 x4 x5 x6 x8 0  _ hf E
set_option maxHeartbeats 4000000 in
set_option maxRecDepth 100000 in
theorem w_Md_goOut_l225 {k : mk_T} (X : hv_X k b_Md_goOut y_Md_goOut.cls 9 5 114 none y_Md_goOut.name) (N : Nat) (σ : ho_H) (a0 : Nat) (x1 : Int32) (x4 : Int32) (x5 : Int32) (x6 : Int32) (x7 : Int32) (x8 : Int32) (r : (Int32 × Int32) ⊕ (Int32)) (hf : f_Md_goOut_l225 k.2.1 N σ a0 x1 x4 x5 x6 (x7, x8) = some r) (E : sm (fun s => hv_V k σ 225 [some (.ref a0), some (.int x1), none, none, some (.int x4), some (.int x5), some (.int x6), some (.int s.1), some (.int s.2)] []) (fun s => hv_V k σ 273 [some (.ref a0), some (.int x1), none, none, some (.int x4), some (.int x5), some (.int x6), some (.int s), none] []) r) : hv_V k σ 225 [some (.ref a0), some (.int x1), none, none, some (.int x4), some (.int x5), some (.int x6), some (.int x7), some (.int x8)] [] := by
  unfold f_Md_goOut_l225 at hf
  try dsimp only at hf
  refine hv_iload (pn := 227) X d_Md_goOut_225 ?_
  refine hv_bipush (pn := 229) (v := 10) X d_Md_goOut_227 ?_
  refine hv_icmp_ge (pn := 232) (tgt := 273) X d_Md_goOut_229 (by decide) (fun hc => ?_) (fun hc => ?_)
  · rw [if_pos hc] at hf
    refine hv_drop (i := 8) (lo' := [some (.ref a0), some (.int x1), none, none, some (.int x4), some (.int x5), some (.int x6), some (.int x7), none]) ?_
    cases hf
    exact E
  · rw [if_neg hc] at hf
    refine hv_iload (pn := 234) X d_Md_goOut_232 ?_
    refine hv_if_eq (pn := 237) (tgt := 264) X d_Md_goOut_234 (by decide) (fun hc => ?_) (fun hc => ?_)
    · rw [if_pos hc] at hf
      refine hv_drop (i := 7) (lo' := [some (.ref a0), some (.int x1), none, none, some (.int x4), some (.int x5), some (.int x6), none, some (.int x8)]) ?_
      exact w_Md_goOut_j264_in225 X N σ a0 x1 x4 x5 x6 x8  _ hf E
    · rw [if_neg hc] at hf
      refine hv_aload_n (pn := 238) X d_Md_goOut_237 ?_
      obtain ⟨b45, hb45, hf⟩ := bd_E hf
      refine hv_getR (pn := 241) X d_Md_goOut_238 fa_Md_106 hb45 ?_
      refine hv_iload (pn := 243) X d_Md_goOut_241 ?_
      obtain ⟨v46, hv46, hf⟩ := bd_E hf
      refine hv_iald (pn := 244) X d_Md_goOut_243 hv46 ?_
      refine hv_aload_n (pn := 245) X d_Md_goOut_244 ?_
      obtain ⟨b47, hb47, hf⟩ := bd_E hf
      refine hv_getR (pn := 248) X d_Md_goOut_245 fa_Md_166 hb47 ?_
      refine hv_bipush (pn := 250) (v := 6) X d_Md_goOut_248 ?_
      refine hv_iload (pn := 252) X d_Md_goOut_250 ?_
      refine hv_iadd (pn := 253) X d_Md_goOut_252 ?_
      refine hv_iload (pn := 255) X d_Md_goOut_253 ?_
      refine hv_iadd (pn := 256) X d_Md_goOut_255 ?_
      obtain ⟨v48, hv48, hf⟩ := bd_E hf
      refine hv_iald (pn := 257) X d_Md_goOut_256 hv48 ?_
      refine hv_icmp_ne (pn := 260) (tgt := 264) X d_Md_goOut_257 (by decide) (fun hc => ?_) (fun hc => ?_)
      · rw [if_pos hc] at hf
        refine hv_drop (i := 7) (lo' := [some (.ref a0), some (.int x1), none, none, some (.int x4), some (.int x5), some (.int x6), none, some (.int x8)]) ?_
        exact w_Md_goOut_j264_in225 X N σ a0 x1 x4 x5 x6 x8  _ hf E
      · rw [if_neg hc] at hf
        refine hv_iconst (pn := 261) (v := 1) X d_Md_goOut_260 ?_
        refine hv_goto (tgt := 265) X d_Md_goOut_261 (by decide) ?_
        refine hv_drop (i := 7) (lo' := [some (.ref a0), some (.int x1), none, none, some (.int x4), some (.int x5), some (.int x6), none, some (.int x8)]) ?_
        exact w_Md_goOut_j265_in225 X N σ a0 x1 x4 x5 x6 x8 1  _ hf E
set_option maxHeartbeats 4000000 in
set_option maxRecDepth 100000 in
theorem w_Md_goOut_j427 {k : mk_T} (X : hv_X k b_Md_goOut y_Md_goOut.cls 9 5 114 none y_Md_goOut.name) (N : Nat) (σ : ho_H)   (r : ho_H) (hf : f_Md_goOut_j427 k.2.1 N σ  = some r) (E : hv_end k r none) : hv_V k σ 427 [none, none, none, none, none, none, none, none, none] [] := by
  unfold f_Md_goOut_j427 at hf
  cases hf
  exact hv_vret X d_Md_goOut_427 E
set_option maxHeartbeats 4000000 in
set_option maxRecDepth 100000 in
theorem w_Md_goOut_l389 {k : mk_T} (X : hv_X k b_Md_goOut y_Md_goOut.cls 9 5 114 none y_Md_goOut.name) (N : Nat) (a0 : Nat) (x6 : Int32) (σ : ho_H) (x8 : Int32) (r : (ho_H × Int32) ⊕ (ho_H)) (hf : f_Md_goOut_l389 k.2.1 N a0 x6 (σ, x8) = some r) (E : sm (fun s => hv_V k s.1 389 [some (.ref a0), none, none, none, none, none, some (.int x6), none, some (.int s.2)] []) (fun s => hv_V k s 427 [none, none, none, none, none, none, none, none, none] []) r) : hv_V k σ 389 [some (.ref a0), none, none, none, none, none, some (.int x6), none, some (.int x8)] [] := by
  unfold f_Md_goOut_l389 at hf
  try dsimp only at hf
  refine hv_iload (pn := 391) X d_Md_goOut_389 ?_
  refine hv_bipush (pn := 393) (v := 20) X d_Md_goOut_391 ?_
  refine hv_icmp_ge (pn := 396) (tgt := 427) X d_Md_goOut_393 (by decide) (fun hc => ?_) (fun hc => ?_)
  · rw [if_pos hc] at hf
    refine hv_drop (i := 0) (lo' := [none, none, none, none, none, none, some (.int x6), none, some (.int x8)]) ?_
    refine hv_drop (i := 6) (lo' := [none, none, none, none, none, none, none, none, some (.int x8)]) ?_
    refine hv_drop (i := 8) (lo' := [none, none, none, none, none, none, none, none, none]) ?_
    cases hf
    exact E
  · rw [if_neg hc] at hf
    refine hv_aload_n (pn := 397) X d_Md_goOut_396 ?_
    obtain ⟨b65, hb65, hf⟩ := bd_E hf
    refine hv_getR (pn := 400) X d_Md_goOut_397 fa_Md_134 hb65 ?_
    refine hv_bipush (pn := 402) (v := 20) X d_Md_goOut_400 ?_
    refine hv_iload (pn := 404) X d_Md_goOut_402 ?_
    refine hv_iconst (pn := 405) (v := 1) X d_Md_goOut_404 ?_
    refine hv_iadd (pn := 406) X d_Md_goOut_405 ?_
    refine hv_imul (pn := 407) X d_Md_goOut_406 ?_
    refine hv_iload (pn := 409) X d_Md_goOut_407 ?_
    refine hv_iadd (pn := 410) X d_Md_goOut_409 ?_
    refine hv_aload_n (pn := 411) X d_Md_goOut_410 ?_
    obtain ⟨b66, hb66, hf⟩ := bd_E hf
    refine hv_getR (pn := 414) X d_Md_goOut_411 fa_Md_166 hb66 ?_
    refine hv_bipush (pn := 416) (v := 6) X d_Md_goOut_414 ?_
    refine hv_iload (pn := 418) X d_Md_goOut_416 ?_
    refine hv_iadd (pn := 419) X d_Md_goOut_418 ?_
    obtain ⟨v67, hv67, hf⟩ := bd_E hf
    refine hv_iald (pn := 420) X d_Md_goOut_419 hv67 ?_
    obtain ⟨σ68, hσ68, hf⟩ := bd_E hf
    refine hv_iast (pn := 421) X d_Md_goOut_420 hσ68 ?_
    refine hv_iinc (pn := 424) (i := 8) (v := x8 + 1) (lo' := [some (.ref a0), none, none, none, none, none, some (.int x6), none, some (.int (x8 + 1))]) X d_Md_goOut_421 ?_
    refine hv_goto (tgt := 389) X d_Md_goOut_424 (by decide) ?_
    cases hf
    exact E
set_option maxHeartbeats 4000000 in
set_option maxRecDepth 100000 in
theorem c_Md_goOut (l : Launch) (G : ho_G) (N : Nat) (σ : ho_H) (a0 : Nat) (x1 : Int32) (x2 : Int32) (σ' : ho_H) (hf : f_Md_goOut G N σ a0 x1 x2 = some σ') : hv_C l G y_Md_goOut (Cond.code y_Md_goOut b_Md_goOut 9 none :: hv_ws) 5 114 [.ref a0, .int x1, .int x2] σ σ' (none) := by
  refine hv_met [some (.ref a0), some (.int x1), some (.int x2), none, none, none, none, none, none] (plainFor_of_name (by decide +kernel)) (by intro v hv; simp at hv; rcases hv with rfl | rfl | rfl <;> rfl) (Nat.le_of_ble_eq_true rfl) rfl ?_
  intro k X hkl hkG E
  subst hkl
  subst hkG
  unfold f_Md_goOut at hf
  refine hv_aload_n (pn := 1) X d_Md_goOut_0 ?_
  obtain ⟨b1, hb1, hf⟩ := bd_E hf
  refine hv_getR (pn := 4) X d_Md_goOut_1 fa_Md_143 hb1 ?_
  refine hv_bipush (pn := 6) (v := 16) X d_Md_goOut_4 ?_
  refine hv_iload_n (pn := 7) X d_Md_goOut_6 ?_
  refine hv_imul (pn := 8) X d_Md_goOut_7 ?_
  refine hv_iload_n (pn := 9) X d_Md_goOut_8 ?_
  refine hv_iadd (pn := 10) X d_Md_goOut_9 ?_
  obtain ⟨v2, hv2, hf⟩ := bd_E hf
  refine hv_iald (pn := 11) X d_Md_goOut_10 hv2 ?_
  refine hv_istore_n (pn := 12) (i := 3) (lo' := [some (.ref a0), some (.int x1), some (.int x2), some (.int v2), none, none, none, none, none]) X d_Md_goOut_11 ?_
  refine hv_iconst (pn := 13) (v := 0) X d_Md_goOut_12 ?_
  refine hv_istore (pn := 15) (i := 4) (lo' := [some (.ref a0), some (.int x1), some (.int x2), some (.int v2), some (.int 0), none, none, none, none]) X d_Md_goOut_13 ?_
  obtain ⟨σ9, he82, hf⟩ := bd_E hf
  refine hv_loop (P := fun s => hv_V k s.1 15 [some (.ref a0), some (.int x1), some (.int x2), some (.int v2), some (.int s.2), none, none, none, none] []) (Z := fun s => hv_V k s 48 [some (.ref a0), some (.int x1), some (.int x2), none, none, none, none, none, none] []) (fun s r h1 h2 => by obtain ⟨σ, x4⟩ := s; exact w_Md_goOut_l15 X N a0 x1 x2 v2 σ x4 r h1 h2) N (σ, 0) _ he82 ?_
  try dsimp only at hf ⊢
  refine hv_aload_n (pn := 49) X d_Md_goOut_48 ?_
  obtain ⟨b10, hb10, hf⟩ := bd_E hf
  refine hv_getR (pn := 52) X d_Md_goOut_49 fa_Md_140 hb10 ?_
  refine hv_iload_n (pn := 53) X d_Md_goOut_52 ?_
  refine hv_dup2 (pn := 54) X d_Md_goOut_53 rfl rfl ?_
  obtain ⟨v11, hv11, hf⟩ := bd_E hf
  refine hv_iald (pn := 55) X d_Md_goOut_54 hv11 ?_
  refine hv_iconst (pn := 56) (v := 1) X d_Md_goOut_55 ?_
  refine hv_isub (pn := 57) X d_Md_goOut_56 ?_
  obtain ⟨σ12, hσ12, hf⟩ := bd_E hf
  refine hv_iast (pn := 58) X d_Md_goOut_57 hσ12 ?_
  refine hv_iload_n (pn := 59) X d_Md_goOut_58 ?_
  refine hv_istore (pn := 61) (i := 4) (lo' := [some (.ref a0), some (.int x1), some (.int x2), none, some (.int x2), none, none, none, none]) X d_Md_goOut_59 ?_
  refine hv_drop (i := 2) (lo' := [some (.ref a0), some (.int x1), none, none, some (.int x2), none, none, none, none]) ?_
  obtain ⟨σ30, he80, hf⟩ := bd_E hf
  refine hv_loop (P := fun s => hv_V k s.1 61 [some (.ref a0), some (.int x1), none, none, some (.int s.2), none, none, none, none] []) (Z := fun s => hv_V k s 152 [some (.ref a0), some (.int x1), none, none, none, none, none, none, none] []) (fun s r h1 h2 => by obtain ⟨σ, x4⟩ := s; exact w_Md_goOut_l61 X N a0 x1 σ x4 r h1 h2) N (σ12, x2) _ he80 ?_
  try dsimp only at hf ⊢
  refine hv_aload_n (pn := 153) X d_Md_goOut_152 ?_
  obtain ⟨b31, hb31, hf⟩ := bd_E hf
  refine hv_getR (pn := 156) X d_Md_goOut_153 fa_Md_166 hb31 ?_
  refine hv_iconst (pn := 157) (v := 5) X d_Md_goOut_156 ?_
  obtain ⟨v32, hv32, hf⟩ := bd_E hf
  refine hv_iald (pn := 158) X d_Md_goOut_157 hv32 ?_
  refine hv_istore (pn := 160) (i := 4) (lo' := [some (.ref a0), some (.int x1), none, none, some (.int v32), none, none, none, none]) X d_Md_goOut_158 ?_
  refine hv_aload_n (pn := 161) X d_Md_goOut_160 ?_
  obtain ⟨_, hr33, hf⟩ := bd_E hf
  obtain ⟨v34, hv34, hf⟩ := bd_E hf
  refine hv_callV (pn := 164) X d_Md_goOut_161 (c_Md_intervalOfCopy _ _ N σ30 a0 _ hv34) cs_Md_259 q_5_104 rfl qs_Md_intervalOfCopy hr33 (by decide) (by decide) ⟨Nat.le_refl _, Nat.le_refl _⟩ (Nat.le_of_ble_eq_true rfl) ?_
  refine hv_istore (pn := 166) (i := 5) (lo' := [some (.ref a0), some (.int x1), none, none, some (.int v32), some (.int v34), none, none, none]) X d_Md_goOut_164 ?_
  refine hv_bipush (pn := 168) (v := 8) X d_Md_goOut_166 ?_
  refine hv_iload_n (pn := 169) X d_Md_goOut_168 ?_
  refine hv_imul (pn := 170) X d_Md_goOut_169 ?_
  refine hv_iload (pn := 172) X d_Md_goOut_170 ?_
  obtain ⟨v35, hv35, hf⟩ := bd_E hf
  refine hv_callS (pn := 175) X d_Md_goOut_172 (c_Md_chainOf _ _ N σ30 v34 _ hv35) cs_Md_239 q_5_52 (by decide) (by decide) ⟨Nat.le_refl _, Nat.le_refl _⟩ (Nat.le_of_ble_eq_true rfl) ?_
  refine hv_iadd (pn := 176) X d_Md_goOut_175 ?_
  refine hv_istore (pn := 178) (i := 6) (lo' := [some (.ref a0), some (.int x1), none, none, some (.int v32), some (.int v34), some (.int ((8 * x1) + v35)), none, none]) X d_Md_goOut_176 ?_
  refine hv_aload_n (pn := 179) X d_Md_goOut_178 ?_
  refine hv_iload (pn := 181) X d_Md_goOut_179 ?_
  obtain ⟨_, hr36, hf⟩ := bd_E hf
  obtain ⟨σ37, hσ37, hf⟩ := bd_E hf
  obtain ⟨hσ37, mσ37⟩ := ho_cv_E hσ37
  refine hv_callV (pn := 184) X d_Md_goOut_181 (c_Md_loadLatest _ _ N σ30 a0 ((8 * x1) + v35) _ hσ37) cs_Md_262 q_5_112 rfl qs_Md_loadLatest hr36 (by decide) (by decide) mσ37 (Nat.le_of_ble_eq_true rfl) ?_
  refine hv_iload (pn := 186) X d_Md_goOut_184 ?_
  refine hv_istore (pn := 188) (i := 7) (lo' := [some (.ref a0), some (.int x1), none, none, some (.int v32), some (.int v34), some (.int ((8 * x1) + v35)), some (.int v34), none]) X d_Md_goOut_186 ?_
  obtain ⟨σ42, he78, hf⟩ := bd_E hf
  refine hv_loop (P := fun s => hv_V k s.1 188 [some (.ref a0), some (.int x1), none, none, some (.int v32), some (.int v34), some (.int ((8 * x1) + v35)), some (.int s.2), none] []) (Z := fun s => hv_V k s 210 [some (.ref a0), some (.int x1), none, none, some (.int v32), some (.int v34), some (.int ((8 * x1) + v35)), none, none] []) (fun s r h1 h2 => by obtain ⟨σ, x7⟩ := s; exact w_Md_goOut_l188 X N a0 x1 v32 v34 ((8 * x1) + v35) σ x7 r h1 h2) N (σ37, v34) _ he78 ?_
  try dsimp only at hf ⊢
  refine hv_aload_n (pn := 211) X d_Md_goOut_210 ?_
  refine hv_bipush (pn := 213) (v := 6) X d_Md_goOut_211 ?_
  refine hv_iload (pn := 215) X d_Md_goOut_213 ?_
  refine hv_iadd (pn := 216) X d_Md_goOut_215 ?_
  obtain ⟨_, hr43, hf⟩ := bd_E hf
  obtain ⟨σ44, hσ44, hf⟩ := bd_E hf
  obtain ⟨hσ44, mσ44⟩ := ho_cv_E hσ44
  refine hv_callV (pn := 219) X d_Md_goOut_216 (c_Md_codeOfCopy _ _ N σ42 a0 (6 + v32) _ hσ44) cs_Md_246 q_5_64 rfl qs_Md_codeOfCopy hr43 (by decide) (by decide) mσ44 (Nat.le_of_ble_eq_true rfl) ?_
  refine hv_iconst (pn := 220) (v := 1) X d_Md_goOut_219 ?_
  refine hv_istore (pn := 222) (i := 7) (lo' := [some (.ref a0), some (.int x1), none, none, some (.int v32), some (.int v34), some (.int ((8 * x1) + v35)), some (.int 1), none]) X d_Md_goOut_220 ?_
  refine hv_iconst (pn := 223) (v := 0) X d_Md_goOut_222 ?_
  refine hv_istore (pn := 225) (i := 8) (lo' := [some (.ref a0), some (.int x1), none, none, some (.int v32), some (.int v34), some (.int ((8 * x1) + v35)), some (.int 1), some (.int 0)]) X d_Md_goOut_223 ?_
  obtain ⟨x49, he76, hf⟩ := bd_E hf
  refine hv_loop (P := fun s => hv_V k σ44 225 [some (.ref a0), some (.int x1), none, none, some (.int v32), some (.int v34), some (.int ((8 * x1) + v35)), some (.int s.1), some (.int s.2)] []) (Z := fun s => hv_V k σ44 273 [some (.ref a0), some (.int x1), none, none, some (.int v32), some (.int v34), some (.int ((8 * x1) + v35)), some (.int s), none] []) (fun s r h1 h2 => by obtain ⟨x7, x8⟩ := s; exact w_Md_goOut_l225 X N σ44 a0 x1 v32 v34 ((8 * x1) + v35) x7 x8 r h1 h2) N (1, 0) _ he76 ?_
  try dsimp only at hf ⊢
  refine hv_iload (pn := 275) X d_Md_goOut_273 ?_
  refine hv_if_ne (pn := 278) (tgt := 295) X d_Md_goOut_275 (by decide) (fun hc => ?_) (fun hc => ?_)
  · rw [if_pos hc] at hf
    refine hv_aload_n (pn := 296) X d_Md_goOut_295 ?_
    refine hv_iload_n (pn := 297) X d_Md_goOut_296 ?_
    refine hv_iload (pn := 299) X d_Md_goOut_297 ?_
    refine hv_iload (pn := 301) X d_Md_goOut_299 ?_
    obtain ⟨_, hr50, hf⟩ := bd_E hf
    obtain ⟨σ51, hσ51, hf⟩ := bd_E hf
    obtain ⟨hσ51, mσ51⟩ := ho_cv_E hσ51
    refine hv_callV (pn := 304) X d_Md_goOut_301 (c_Md_keep _ _ N σ44 a0 x1 v34 v32 _ hσ51) cs_Md_279 q_5_136 rfl qs_Md_keep hr50 (by decide) (by decide) mσ51 (Nat.le_of_ble_eq_true rfl) ?_
    refine hv_aload_n (pn := 305) X d_Md_goOut_304 ?_
    obtain ⟨b52, hb52, hf⟩ := bd_E hf
    refine hv_getR (pn := 308) X d_Md_goOut_305 fa_Md_166 hb52 ?_
    refine hv_iconst (pn := 309) (v := 4) X d_Md_goOut_308 ?_
    obtain ⟨v53, hv53, hf⟩ := bd_E hf
    refine hv_iald (pn := 310) X d_Md_goOut_309 hv53 ?_
    refine hv_iconst (pn := 311) (v := 1) X d_Md_goOut_310 ?_
    refine hv_icmp_ne (pn := 314) (tgt := 427) X d_Md_goOut_311 (by decide) (fun hc => ?_) (fun hc => ?_)
    · rw [if_pos hc] at hf
      refine hv_drop (i := 0) (lo' := [none, some (.int x1), none, none, some (.int v32), some (.int v34), some (.int ((8 * x1) + v35)), some (.int x49), none]) ?_
      refine hv_drop (i := 1) (lo' := [none, none, none, none, some (.int v32), some (.int v34), some (.int ((8 * x1) + v35)), some (.int x49), none]) ?_
      refine hv_drop (i := 4) (lo' := [none, none, none, none, none, some (.int v34), some (.int ((8 * x1) + v35)), some (.int x49), none]) ?_
      refine hv_drop (i := 5) (lo' := [none, none, none, none, none, none, some (.int ((8 * x1) + v35)), some (.int x49), none]) ?_
      refine hv_drop (i := 6) (lo' := [none, none, none, none, none, none, none, some (.int x49), none]) ?_
      refine hv_drop (i := 7) (lo' := [none, none, none, none, none, none, none, none, none]) ?_
      exact w_Md_goOut_j427 X N σ51   _ hf E
    · rw [if_neg hc] at hf
      refine hv_iload (pn := 316) X d_Md_goOut_314 ?_
      obtain ⟨v54, hv54, hf⟩ := bd_E hf
      refine hv_callS (pn := 319) X d_Md_goOut_316 (c_Md_chainOf _ _ N σ51 v34 _ hv54) cs_Md_239 q_5_52 (by decide) (by decide) ⟨Nat.le_refl _, Nat.le_refl _⟩ (Nat.le_of_ble_eq_true rfl) ?_
      refine hv_iconst (pn := 320) (v := 1) X d_Md_goOut_319 ?_
      refine hv_iadd (pn := 321) X d_Md_goOut_320 ?_
      refine hv_bipush (pn := 323) (v := 8) X d_Md_goOut_321 ?_
      refine hv_icmp_ge (pn := 326) (tgt := 427) X d_Md_goOut_323 (by decide) (fun hc => ?_) (fun hc => ?_)
      · rw [if_pos hc] at hf
        refine hv_drop (i := 0) (lo' := [none, some (.int x1), none, none, some (.int v32), some (.int v34), some (.int ((8 * x1) + v35)), some (.int x49), none]) ?_
        refine hv_drop (i := 1) (lo' := [none, none, none, none, some (.int v32), some (.int v34), some (.int ((8 * x1) + v35)), some (.int x49), none]) ?_
        refine hv_drop (i := 4) (lo' := [none, none, none, none, none, some (.int v34), some (.int ((8 * x1) + v35)), some (.int x49), none]) ?_
        refine hv_drop (i := 5) (lo' := [none, none, none, none, none, none, some (.int ((8 * x1) + v35)), some (.int x49), none]) ?_
        refine hv_drop (i := 6) (lo' := [none, none, none, none, none, none, none, some (.int x49), none]) ?_
        refine hv_drop (i := 7) (lo' := [none, none, none, none, none, none, none, none, none]) ?_
        exact w_Md_goOut_j427 X N σ51   _ hf E
      · rw [if_neg hc] at hf
        refine hv_aload_n (pn := 327) X d_Md_goOut_326 ?_
        obtain ⟨b55, hb55, hf⟩ := bd_E hf
        refine hv_getR (pn := 330) X d_Md_goOut_327 fa_Md_124 hb55 ?_
        refine hv_iload (pn := 332) X d_Md_goOut_330 ?_
        refine hv_iconst (pn := 333) (v := 1) X d_Md_goOut_332 ?_
        refine hv_iadd (pn := 334) X d_Md_goOut_333 ?_
        obtain ⟨v56, hv56, hf⟩ := bd_E hf
        refine hv_zald (pn := 335) X d_Md_goOut_334 hv56 ?_
        refine hv_if_ne (pn := 338) (tgt := 427) X d_Md_goOut_335 (by decide) (fun hc => ?_) (fun hc => ?_)
        · rw [if_pos hc] at hf
          refine hv_drop (i := 0) (lo' := [none, some (.int x1), none, none, some (.int v32), some (.int v34), some (.int ((8 * x1) + v35)), some (.int x49), none]) ?_
          refine hv_drop (i := 1) (lo' := [none, none, none, none, some (.int v32), some (.int v34), some (.int ((8 * x1) + v35)), some (.int x49), none]) ?_
          refine hv_drop (i := 4) (lo' := [none, none, none, none, none, some (.int v34), some (.int ((8 * x1) + v35)), some (.int x49), none]) ?_
          refine hv_drop (i := 5) (lo' := [none, none, none, none, none, none, some (.int ((8 * x1) + v35)), some (.int x49), none]) ?_
          refine hv_drop (i := 6) (lo' := [none, none, none, none, none, none, none, some (.int x49), none]) ?_
          refine hv_drop (i := 7) (lo' := [none, none, none, none, none, none, none, none, none]) ?_
          exact w_Md_goOut_j427 X N σ51   _ hf E
        · rw [if_neg hc] at hf
          refine hv_aload_n (pn := 339) X d_Md_goOut_338 ?_
          obtain ⟨b57, hb57, hf⟩ := bd_E hf
          refine hv_getR (pn := 342) X d_Md_goOut_339 fa_Md_124 hb57 ?_
          refine hv_iload (pn := 344) X d_Md_goOut_342 ?_
          refine hv_iconst (pn := 345) (v := 1) X d_Md_goOut_344 ?_
          refine hv_iadd (pn := 346) X d_Md_goOut_345 ?_
          refine hv_iconst (pn := 347) (v := 1) X d_Md_goOut_346 ?_
          obtain ⟨σ58, hσ58, hf⟩ := bd_E hf
          refine hv_zast (pn := 348) X d_Md_goOut_347 hσ58 ?_
          refine hv_aload_n (pn := 349) X d_Md_goOut_348 ?_
          obtain ⟨b59, hb59, hf⟩ := bd_E hf
          refine hv_getR (pn := 352) X d_Md_goOut_349 fa_Md_128 hb59 ?_
          refine hv_iload (pn := 354) X d_Md_goOut_352 ?_
          refine hv_iconst (pn := 355) (v := 1) X d_Md_goOut_354 ?_
          refine hv_iadd (pn := 356) X d_Md_goOut_355 ?_
          refine hv_bipush (pn := 358) (v := 64) X d_Md_goOut_356 ?_
          refine hv_iload (pn := 360) X d_Md_goOut_358 ?_
          obtain ⟨v60, hv60, hf⟩ := bd_E hf
          refine hv_callS (pn := 363) X d_Md_goOut_360 (c_Md_chainOf _ _ N σ58 v34 _ hv60) cs_Md_239 q_5_52 (by decide) (by decide) ⟨Nat.le_refl _, Nat.le_refl _⟩ (Nat.le_of_ble_eq_true rfl) ?_
          refine hv_iconst (pn := 364) (v := 1) X d_Md_goOut_363 ?_
          refine hv_iadd (pn := 365) X d_Md_goOut_364 ?_
          refine hv_imul (pn := 366) X d_Md_goOut_365 ?_
          obtain ⟨σ61, hσ61, hf⟩ := bd_E hf
          refine hv_iast (pn := 367) X d_Md_goOut_366 hσ61 ?_
          refine hv_aload_n (pn := 368) X d_Md_goOut_367 ?_
          obtain ⟨b62, hb62, hf⟩ := bd_E hf
          refine hv_getR (pn := 371) X d_Md_goOut_368 fa_Md_131 hb62 ?_
          refine hv_iload (pn := 373) X d_Md_goOut_371 ?_
          refine hv_iconst (pn := 374) (v := 1) X d_Md_goOut_373 ?_
          refine hv_iadd (pn := 375) X d_Md_goOut_374 ?_
          refine hv_bipush (pn := 377) (v := 64) X d_Md_goOut_375 ?_
          refine hv_iload (pn := 379) X d_Md_goOut_377 ?_
          obtain ⟨v63, hv63, hf⟩ := bd_E hf
          refine hv_callS (pn := 382) X d_Md_goOut_379 (c_Md_chainOf _ _ N σ61 v34 _ hv63) cs_Md_239 q_5_52 (by decide) (by decide) ⟨Nat.le_refl _, Nat.le_refl _⟩ (Nat.le_of_ble_eq_true rfl) ?_
          refine hv_iconst (pn := 383) (v := 1) X d_Md_goOut_382 ?_
          refine hv_iadd (pn := 384) X d_Md_goOut_383 ?_
          refine hv_imul (pn := 385) X d_Md_goOut_384 ?_
          obtain ⟨σ64, hσ64, hf⟩ := bd_E hf
          refine hv_iast (pn := 386) X d_Md_goOut_385 hσ64 ?_
          refine hv_iconst (pn := 387) (v := 0) X d_Md_goOut_386 ?_
          refine hv_istore (pn := 389) (i := 8) (lo' := [some (.ref a0), some (.int x1), none, none, some (.int v32), some (.int v34), some (.int ((8 * x1) + v35)), some (.int x49), some (.int 0)]) X d_Md_goOut_387 ?_
          refine hv_drop (i := 1) (lo' := [some (.ref a0), none, none, none, some (.int v32), some (.int v34), some (.int ((8 * x1) + v35)), some (.int x49), some (.int 0)]) ?_
          refine hv_drop (i := 4) (lo' := [some (.ref a0), none, none, none, none, some (.int v34), some (.int ((8 * x1) + v35)), some (.int x49), some (.int 0)]) ?_
          refine hv_drop (i := 5) (lo' := [some (.ref a0), none, none, none, none, none, some (.int ((8 * x1) + v35)), some (.int x49), some (.int 0)]) ?_
          refine hv_drop (i := 7) (lo' := [some (.ref a0), none, none, none, none, none, some (.int ((8 * x1) + v35)), none, some (.int 0)]) ?_
          obtain ⟨σ69, he71, hf⟩ := bd_E hf
          refine hv_loop (P := fun s => hv_V k s.1 389 [some (.ref a0), none, none, none, none, none, some (.int ((8 * x1) + v35)), none, some (.int s.2)] []) (Z := fun s => hv_V k s 427 [none, none, none, none, none, none, none, none, none] []) (fun s r h1 h2 => by obtain ⟨σ, x8⟩ := s; exact w_Md_goOut_l389 X N a0 ((8 * x1) + v35) σ x8 r h1 h2) N (σ64, 0) _ he71 ?_
          try dsimp only at hf ⊢
          exact w_Md_goOut_j427 X N σ69   _ hf E
  · rw [if_neg hc] at hf
    refine hv_aload_n (pn := 279) X d_Md_goOut_278 ?_
    obtain ⟨b72, hb72, hf⟩ := bd_E hf
    refine hv_getR (pn := 282) X d_Md_goOut_279 fa_Md_137 hb72 ?_
    refine hv_bipush (pn := 284) (v := 8) X d_Md_goOut_282 ?_
    refine hv_iload_n (pn := 285) X d_Md_goOut_284 ?_
    refine hv_imul (pn := 286) X d_Md_goOut_285 ?_
    refine hv_bipush (pn := 288) (v := 6) X d_Md_goOut_286 ?_
    refine hv_iadd (pn := 289) X d_Md_goOut_288 ?_
    refine hv_dup2 (pn := 290) X d_Md_goOut_289 rfl rfl ?_
    obtain ⟨v73, hv73, hf⟩ := bd_E hf
    refine hv_iald (pn := 291) X d_Md_goOut_290 hv73 ?_
    refine hv_iconst (pn := 292) (v := 1) X d_Md_goOut_291 ?_
    refine hv_iadd (pn := 293) X d_Md_goOut_292 ?_
    obtain ⟨σ74, hσ74, hf⟩ := bd_E hf
    refine hv_iast (pn := 294) X d_Md_goOut_293 hσ74 ?_
    cases hf
    exact hv_vret X d_Md_goOut_294 E
set_option maxHeartbeats 4000000 in
set_option maxRecDepth 100000 in
theorem w_Md_release_l2 {k : mk_T} (X : hv_X k b_Md_release y_Md_release.cls 5 6 142 none y_Md_release.name) (N : Nat) (a0 : Nat) (x1 : Int32) (σ : ho_H) (x2 : Int32) (r : (ho_H × Int32) ⊕ (ho_H)) (hf : f_Md_release_l2 k.2.1 N a0 x1 (σ, x2) = some r) (E : sm (fun s => hv_V k s.1 2 [some (.ref a0), some (.int x1), some (.int s.2), none, none] []) (fun s => hv_V k s 26 [some (.ref a0), some (.int x1), none, none, none] []) r) : hv_V k σ 2 [some (.ref a0), some (.int x1), some (.int x2), none, none] [] := by
  unfold f_Md_release_l2 at hf
  try dsimp only at hf
  refine hv_iload_n (pn := 3) X d_Md_release_2 ?_
  refine hv_bipush (pn := 5) (v := 68) X d_Md_release_3 ?_
  refine hv_icmp_ge (pn := 8) (tgt := 26) X d_Md_release_5 (by decide) (fun hc => ?_) (fun hc => ?_)
  · rw [if_pos hc] at hf
    refine hv_drop (i := 2) (lo' := [some (.ref a0), some (.int x1), none, none, none]) ?_
    cases hf
    exact E
  · rw [if_neg hc] at hf
    refine hv_aload_n (pn := 9) X d_Md_release_8 ?_
    obtain ⟨b1, hb1, hf⟩ := bd_E hf
    refine hv_getR (pn := 12) X d_Md_release_9 fa_Md_172 hb1 ?_
    refine hv_iload_n (pn := 13) X d_Md_release_12 ?_
    refine hv_aload_n (pn := 14) X d_Md_release_13 ?_
    obtain ⟨b2, hb2, hf⟩ := bd_E hf
    refine hv_getR (pn := 17) X d_Md_release_14 fa_Md_166 hb2 ?_
    refine hv_iload_n (pn := 18) X d_Md_release_17 ?_
    obtain ⟨v3, hv3, hf⟩ := bd_E hf
    refine hv_iald (pn := 19) X d_Md_release_18 hv3 ?_
    obtain ⟨σ4, hσ4, hf⟩ := bd_E hf
    refine hv_iast (pn := 20) X d_Md_release_19 hσ4 ?_
    refine hv_iinc (pn := 23) (i := 2) (v := x2 + 1) (lo' := [some (.ref a0), some (.int x1), some (.int (x2 + 1)), none, none]) X d_Md_release_20 ?_
    refine hv_goto (tgt := 2) X d_Md_release_23 (by decide) ?_
    cases hf
    exact E
set_option maxHeartbeats 4000000 in
set_option maxRecDepth 100000 in
theorem w_Md_release_j81_in28_in37 {k : mk_T} (X : hv_X k b_Md_release y_Md_release.cls 5 6 142 none y_Md_release.name) (N : Nat) (σ : ho_H) (a0 : Nat) (x1 : Int32) (x3 : Int32) (x4 : Int32)  (r : (Int32 × Int32) ⊕ (Int32)) (hf : f_Md_release_j81_in28_in37 k.2.1 N σ a0 x1 x3 x4 = some r) (E : sm (fun s => hv_V k σ 37 [some (.ref a0), some (.int x1), none, some (.int s.1), some (.int s.2)] []) (fun s => hv_V k σ 87 [some (.ref a0), some (.int x1), none, some (.int s), none] []) r) : hv_V k σ 81 [some (.ref a0), some (.int x1), none, some (.int x3), some (.int x4)] [] := by
  unfold f_Md_release_j81_in28_in37 at hf
  refine hv_iinc (pn := 84) (i := 4) (v := x4 + 1) (lo' := [some (.ref a0), some (.int x1), none, some (.int x3), some (.int (x4 + 1))]) X d_Md_release_81 ?_
  refine hv_goto (tgt := 37) X d_Md_release_84 (by decide) ?_
  cases hf
  exact E
set_option maxHeartbeats 4000000 in
set_option maxRecDepth 100000 in
theorem w_Md_release_j78_in28_in37 {k : mk_T} (X : hv_X k b_Md_release y_Md_release.cls 5 6 142 none y_Md_release.name) (N : Nat) (σ : ho_H) (a0 : Nat) (x1 : Int32) (x4 : Int32)  (r : (Int32 × Int32) ⊕ (Int32)) (hf : f_Md_release_j78_in28_in37 k.2.1 N σ a0 x1 x4 = some r) (E : sm (fun s => hv_V k σ 37 [some (.ref a0), some (.int x1), none, some (.int s.1), some (.int s.2)] []) (fun s => hv_V k σ 87 [some (.ref a0), some (.int x1), none, some (.int s), none] []) r) : hv_V k σ 78 [some (.ref a0), some (.int x1), none, none, some (.int x4)] [] := by
  unfold f_Md_release_j78_in28_in37 at hf
  refine hv_iload (pn := 80) X d_Md_release_78 ?_
  refine hv_istore_n (pn := 81) (i := 3) (lo' := [some (.ref a0), some (.int x1), none, some (.int x4), some (.int x4)]) X d_Md_release_80 ?_
  exact w_Md_release_j81_in28_in37 X N σ a0 x1 x4 x4  _ hf E
set_option maxHeartbeats 4000000 in
set_option maxRecDepth 100000 in
theorem w_Md_release_l37_in28 {k : mk_T} (X : hv_X k b_Md_release y_Md_release.cls 5 6 142 none y_Md_release.name) (N : Nat) (σ : ho_H) (a0 : Nat) (x1 : Int32) (x3 : Int32) (x4 : Int32) (r : (Int32 × Int32) ⊕ (Int32)) (hf : f_Md_release_l37_in28 k.2.1 N σ a0 x1 (x3, x4) = some r) (E : sm (fun s => hv_V k σ 37 [some (.ref a0), some (.int x1), none, some (.int s.1), some (.int s.2)] []) (fun s => hv_V k σ 87 [some (.ref a0), some (.int x1), none, some (.int s), none] []) r) : hv_V k σ 37 [some (.ref a0), some (.int x1), none, some (.int x3), some (.int x4)] [] := by
  unfold f_Md_release_l37_in28 at hf
  try dsimp only at hf
  refine hv_iload (pn := 39) X d_Md_release_37 ?_
  refine hv_aload_n (pn := 40) X d_Md_release_39 ?_
  obtain ⟨b6, hb6, hf⟩ := bd_E hf
  refine hv_getR (pn := 43) X d_Md_release_40 fa_Md_140 hb6 ?_
  refine hv_iload_n (pn := 44) X d_Md_release_43 ?_
  obtain ⟨v7, hv7, hf⟩ := bd_E hf
  refine hv_iald (pn := 45) X d_Md_release_44 hv7 ?_
  refine hv_icmp_ge (pn := 48) (tgt := 87) X d_Md_release_45 (by decide) (fun hc => ?_) (fun hc => ?_)
  · rw [if_pos hc] at hf
    refine hv_drop (i := 4) (lo' := [some (.ref a0), some (.int x1), none, some (.int x3), none]) ?_
    cases hf
    exact E
  · rw [if_neg hc] at hf
    refine hv_aload_n (pn := 49) X d_Md_release_48 ?_
    refine hv_iload_n (pn := 50) X d_Md_release_49 ?_
    refine hv_iload (pn := 52) X d_Md_release_50 ?_
    obtain ⟨_, hr8, hf⟩ := bd_E hf
    obtain ⟨v9, hv9, hf⟩ := bd_E hf
    refine hv_callV (pn := 55) X d_Md_release_52 (c_Md_isDue _ _ N σ a0 x1 x4 _ hv9) cs_Md_271 q_5_120 rfl qs_Md_isDue hr8 (by decide) (by decide) ⟨Nat.le_refl _, Nat.le_refl _⟩ (Nat.le_of_ble_eq_true rfl) ?_
    refine hv_if_eq (pn := 58) (tgt := 81) X d_Md_release_55 (by decide) (fun hc => ?_) (fun hc => ?_)
    · rw [if_pos hc] at hf
      exact w_Md_release_j81_in28_in37 X N σ a0 x1 x3 x4  _ hf E
    · rw [if_neg hc] at hf
      refine hv_iload_n (pn := 59) X d_Md_release_58 ?_
      refine hv_if_lt (pn := 62) (tgt := 78) X d_Md_release_59 (by decide) (fun hc => ?_) (fun hc => ?_)
      · rw [if_pos hc] at hf
        refine hv_drop (i := 3) (lo' := [some (.ref a0), some (.int x1), none, none, some (.int x4)]) ?_
        exact w_Md_release_j78_in28_in37 X N σ a0 x1 x4  _ hf E
      · rw [if_neg hc] at hf
        refine hv_aload_n (pn := 63) X d_Md_release_62 ?_
        refine hv_iload_n (pn := 64) X d_Md_release_63 ?_
        refine hv_iload (pn := 66) X d_Md_release_64 ?_
        obtain ⟨_, hr10, hf⟩ := bd_E hf
        obtain ⟨v11, hv11, hf⟩ := bd_E hf
        refine hv_callV (pn := 69) X d_Md_release_66 (c_Md_heldInterval _ _ N σ a0 x1 x4 _ hv11) cs_Md_268 q_5_124 rfl qs_Md_heldInterval hr10 (by decide) (by decide) ⟨Nat.le_refl _, Nat.le_refl _⟩ (Nat.le_of_ble_eq_true rfl) ?_
        refine hv_aload_n (pn := 70) X d_Md_release_69 ?_
        refine hv_iload_n (pn := 71) X d_Md_release_70 ?_
        refine hv_iload_n (pn := 72) X d_Md_release_71 ?_
        obtain ⟨_, hr12, hf⟩ := bd_E hf
        obtain ⟨v13, hv13, hf⟩ := bd_E hf
        refine hv_callV (pn := 75) X d_Md_release_72 (c_Md_heldInterval _ _ N σ a0 x1 x3 _ hv13) cs_Md_268 q_5_124 rfl qs_Md_heldInterval hr12 (by decide) (by decide) ⟨Nat.le_refl _, Nat.le_refl _⟩ (Nat.le_of_ble_eq_true rfl) ?_
        refine hv_icmp_ge (pn := 78) (tgt := 81) X d_Md_release_75 (by decide) (fun hc => ?_) (fun hc => ?_)
        · rw [if_pos hc] at hf
          exact w_Md_release_j81_in28_in37 X N σ a0 x1 x3 x4  _ hf E
        · rw [if_neg hc] at hf
          refine hv_drop (i := 3) (lo' := [some (.ref a0), some (.int x1), none, none, some (.int x4)]) ?_
          exact w_Md_release_j78_in28_in37 X N σ a0 x1 x4  _ hf E
set_option maxHeartbeats 4000000 in
set_option maxRecDepth 100000 in
theorem w_Md_release_j107_in28 {k : mk_T} (X : hv_X k b_Md_release y_Md_release.cls 5 6 142 none y_Md_release.name) (N : Nat) (σ : ho_H) (a0 : Nat) (x1 : Int32) (x2 : Int32)  (r : (ho_H × Int32) ⊕ (ho_H)) (hf : f_Md_release_j107_in28 k.2.1 N σ a0 x1 x2 = some r) (E : sm (fun s => hv_V k s.1 28 [some (.ref a0), some (.int x1), some (.int s.2), none, none] []) (fun s => hv_V k s 110 [some (.ref a0), none, none, none, none] []) r) : hv_V k σ 107 [some (.ref a0), some (.int x1), some (.int x2), none, none] [] := by
  unfold f_Md_release_j107_in28 at hf
  refine hv_goto (tgt := 28) X d_Md_release_107 (by decide) ?_
  cases hf
  exact E
set_option maxHeartbeats 4000000 in
set_option maxRecDepth 100000 in
theorem w_Md_release_j96_in28 {k : mk_T} (X : hv_X k b_Md_release y_Md_release.cls 5 6 142 none y_Md_release.name) (N : Nat) (σ : ho_H) (a0 : Nat) (x1 : Int32) (x3 : Int32) (y0 : Int32)  (r : (ho_H × Int32) ⊕ (ho_H)) (hf : f_Md_release_j96_in28 k.2.1 N σ a0 x1 x3 y0 = some r) (E : sm (fun s => hv_V k s.1 28 [some (.ref a0), some (.int x1), some (.int s.2), none, none] []) (fun s => hv_V k s 110 [some (.ref a0), none, none, none, none] []) r) : hv_V k σ 96 [some (.ref a0), some (.int x1), none, some (.int x3), none] [.int y0] := by
  unfold f_Md_release_j96_in28 at hf
  refine hv_istore_n (pn := 97) (i := 2) (lo' := [some (.ref a0), some (.int x1), some (.int y0), some (.int x3), none]) X d_Md_release_96 ?_
  refine hv_iload_n (pn := 98) X d_Md_release_97 ?_
  refine hv_if_eq (pn := 101) (tgt := 107) X d_Md_release_98 (by decide) (fun hc => ?_) (fun hc => ?_)
  · rw [if_pos hc] at hf
    refine hv_drop (i := 3) (lo' := [some (.ref a0), some (.int x1), some (.int y0), none, none]) ?_
    exact w_Md_release_j107_in28 X N σ a0 x1 y0  _ hf E
  · rw [if_neg hc] at hf
    refine hv_aload_n (pn := 102) X d_Md_release_101 ?_
    refine hv_iload_n (pn := 103) X d_Md_release_102 ?_
    refine hv_iload_n (pn := 104) X d_Md_release_103 ?_
    obtain ⟨_, hr15, hf⟩ := bd_E hf
    obtain ⟨σ16, hσ16, hf⟩ := bd_E hf
    obtain ⟨hσ16, mσ16⟩ := ho_cv_E hσ16
    refine hv_callV (pn := 107) X d_Md_release_104 (c_Md_goOut _ _ N σ a0 x1 x3 _ hσ16) cs_Md_275 q_5_132 rfl qs_Md_goOut hr15 (by decide) (by decide) mσ16 (Nat.le_of_ble_eq_true rfl) ?_
    refine hv_drop (i := 3) (lo' := [some (.ref a0), some (.int x1), some (.int y0), none, none]) ?_
    exact w_Md_release_j107_in28 X N σ16 a0 x1 y0  _ hf E
set_option maxHeartbeats 4000000 in
set_option maxRecDepth 100000 in
theorem w_Md_release_l28 {k : mk_T} (X : hv_X k b_Md_release y_Md_release.cls 5 6 142 none y_Md_release.name) (N : Nat) (a0 : Nat) (x1 : Int32) (σ : ho_H) (x2 : Int32) (r : (ho_H × Int32) ⊕ (ho_H)) (hf : f_Md_release_l28 k.2.1 N a0 x1 (σ, x2) = some r) (E : sm (fun s => hv_V k s.1 28 [some (.ref a0), some (.int x1), some (.int s.2), none, none] []) (fun s => hv_V k s 110 [some (.ref a0), none, none, none, none] []) r) : hv_V k σ 28 [some (.ref a0), some (.int x1), some (.int x2), none, none] [] := by
  unfold f_Md_release_l28 at hf
  try dsimp only at hf
  refine hv_iload_n (pn := 29) X d_Md_release_28 ?_
  refine hv_if_eq (pn := 32) (tgt := 110) X d_Md_release_29 (by decide) (fun hc => ?_) (fun hc => ?_)
  · rw [if_pos hc] at hf
    refine hv_drop (i := 1) (lo' := [some (.ref a0), none, some (.int x2), none, none]) ?_
    refine hv_drop (i := 2) (lo' := [some (.ref a0), none, none, none, none]) ?_
    cases hf
    exact E
  · rw [if_neg hc] at hf
    refine hv_iconst (pn := 33) (v := (-1)) X d_Md_release_32 ?_
    refine hv_istore_n (pn := 34) (i := 3) (lo' := [some (.ref a0), some (.int x1), some (.int x2), some (.int (-1)), none]) X d_Md_release_33 ?_
    refine hv_iconst (pn := 35) (v := 0) X d_Md_release_34 ?_
    refine hv_istore (pn := 37) (i := 4) (lo' := [some (.ref a0), some (.int x1), some (.int x2), some (.int (-1)), some (.int 0)]) X d_Md_release_35 ?_
    refine hv_drop (i := 2) (lo' := [some (.ref a0), some (.int x1), none, some (.int (-1)), some (.int 0)]) ?_
    obtain ⟨x14, he18, hf⟩ := bd_E hf
    refine hv_loop (P := fun s => hv_V k σ 37 [some (.ref a0), some (.int x1), none, some (.int s.1), some (.int s.2)] []) (Z := fun s => hv_V k σ 87 [some (.ref a0), some (.int x1), none, some (.int s), none] []) (fun s r h1 h2 => by obtain ⟨x3, x4⟩ := s; exact w_Md_release_l37_in28 X N σ a0 x1 x3 x4 r h1 h2) N ((-1), 0) _ he18 ?_
    try dsimp only at hf ⊢
    refine hv_iload_n (pn := 88) X d_Md_release_87 ?_
    refine hv_if_lt (pn := 91) (tgt := 95) X d_Md_release_88 (by decide) (fun hc => ?_) (fun hc => ?_)
    · rw [if_pos hc] at hf
      refine hv_iconst (pn := 96) (v := 0) X d_Md_release_95 ?_
      exact w_Md_release_j96_in28 X N σ a0 x1 x14 0  _ hf E
    · rw [if_neg hc] at hf
      refine hv_iconst (pn := 92) (v := 1) X d_Md_release_91 ?_
      refine hv_goto (tgt := 96) X d_Md_release_92 (by decide) ?_
      exact w_Md_release_j96_in28 X N σ a0 x1 x14 1  _ hf E
set_option maxHeartbeats 4000000 in
set_option maxRecDepth 100000 in
theorem w_Md_release_l112 {k : mk_T} (X : hv_X k b_Md_release y_Md_release.cls 5 6 142 none y_Md_release.name) (N : Nat) (a0 : Nat) (σ : ho_H) (x3 : Int32) (r : (ho_H × Int32) ⊕ (ho_H)) (hf : f_Md_release_l112 k.2.1 N a0 (σ, x3) = some r) (E : sm (fun s => hv_V k s.1 112 [some (.ref a0), none, none, some (.int s.2), none] []) (fun s => hv_V k s 136 [none, none, none, none, none] []) r) : hv_V k σ 112 [some (.ref a0), none, none, some (.int x3), none] [] := by
  unfold f_Md_release_l112 at hf
  try dsimp only at hf
  refine hv_iload_n (pn := 113) X d_Md_release_112 ?_
  refine hv_bipush (pn := 115) (v := 68) X d_Md_release_113 ?_
  refine hv_icmp_ge (pn := 118) (tgt := 136) X d_Md_release_115 (by decide) (fun hc => ?_) (fun hc => ?_)
  · rw [if_pos hc] at hf
    refine hv_drop (i := 0) (lo' := [none, none, none, some (.int x3), none]) ?_
    refine hv_drop (i := 3) (lo' := [none, none, none, none, none]) ?_
    cases hf
    exact E
  · rw [if_neg hc] at hf
    refine hv_aload_n (pn := 119) X d_Md_release_118 ?_
    obtain ⟨b20, hb20, hf⟩ := bd_E hf
    refine hv_getR (pn := 122) X d_Md_release_119 fa_Md_166 hb20 ?_
    refine hv_iload_n (pn := 123) X d_Md_release_122 ?_
    refine hv_aload_n (pn := 124) X d_Md_release_123 ?_
    obtain ⟨b21, hb21, hf⟩ := bd_E hf
    refine hv_getR (pn := 127) X d_Md_release_124 fa_Md_172 hb21 ?_
    refine hv_iload_n (pn := 128) X d_Md_release_127 ?_
    obtain ⟨v22, hv22, hf⟩ := bd_E hf
    refine hv_iald (pn := 129) X d_Md_release_128 hv22 ?_
    obtain ⟨σ23, hσ23, hf⟩ := bd_E hf
    refine hv_iast (pn := 130) X d_Md_release_129 hσ23 ?_
    refine hv_iinc (pn := 133) (i := 3) (v := x3 + 1) (lo' := [some (.ref a0), none, none, some (.int (x3 + 1)), none]) X d_Md_release_130 ?_
    refine hv_goto (tgt := 112) X d_Md_release_133 (by decide) ?_
    cases hf
    exact E
set_option maxHeartbeats 4000000 in
set_option maxRecDepth 100000 in
theorem c_Md_release (l : Launch) (G : ho_G) (N : Nat) (σ : ho_H) (a0 : Nat) (x1 : Int32) (σ' : ho_H) (hf : f_Md_release G N σ a0 x1 = some σ') : hv_C l G y_Md_release (Cond.code y_Md_release b_Md_release 5 none :: hv_ws) 6 142 [.ref a0, .int x1] σ σ' (none) := by
  refine hv_met [some (.ref a0), some (.int x1), none, none, none] (plainFor_of_name (by decide +kernel)) (by intro v hv; simp at hv; rcases hv with rfl | rfl <;> rfl) (Nat.le_of_ble_eq_true rfl) rfl ?_
  intro k X hkl hkG E
  subst hkl
  subst hkG
  unfold f_Md_release at hf
  refine hv_iconst (pn := 1) (v := 0) X d_Md_release_0 ?_
  refine hv_istore_n (pn := 2) (i := 2) (lo' := [some (.ref a0), some (.int x1), some (.int 0), none, none]) X d_Md_release_1 ?_
  obtain ⟨σ5, he30, hf⟩ := bd_E hf
  refine hv_loop (P := fun s => hv_V k s.1 2 [some (.ref a0), some (.int x1), some (.int s.2), none, none] []) (Z := fun s => hv_V k s 26 [some (.ref a0), some (.int x1), none, none, none] []) (fun s r h1 h2 => by obtain ⟨σ, x2⟩ := s; exact w_Md_release_l2 X N a0 x1 σ x2 r h1 h2) N (σ, 0) _ he30 ?_
  try dsimp only at hf ⊢
  refine hv_iconst (pn := 27) (v := 1) X d_Md_release_26 ?_
  refine hv_istore_n (pn := 28) (i := 2) (lo' := [some (.ref a0), some (.int x1), some (.int 1), none, none]) X d_Md_release_27 ?_
  obtain ⟨σ19, he28, hf⟩ := bd_E hf
  refine hv_loop (P := fun s => hv_V k s.1 28 [some (.ref a0), some (.int x1), some (.int s.2), none, none] []) (Z := fun s => hv_V k s 110 [some (.ref a0), none, none, none, none] []) (fun s r h1 h2 => by obtain ⟨σ, x2⟩ := s; exact w_Md_release_l28 X N a0 x1 σ x2 r h1 h2) N (σ5, 1) _ he28 ?_
  try dsimp only at hf ⊢
  refine hv_iconst (pn := 111) (v := 0) X d_Md_release_110 ?_
  refine hv_istore_n (pn := 112) (i := 3) (lo' := [some (.ref a0), none, none, some (.int 0), none]) X d_Md_release_111 ?_
  obtain ⟨σ24, he26, hf⟩ := bd_E hf
  refine hv_loop (P := fun s => hv_V k s.1 112 [some (.ref a0), none, none, some (.int s.2), none] []) (Z := fun s => hv_V k s 136 [none, none, none, none, none] []) (fun s r h1 h2 => by obtain ⟨σ, x3⟩ := s; exact w_Md_release_l112 X N a0 σ x3 r h1 h2) N (σ19, 0) _ he26 ?_
  try dsimp only at hf ⊢
  cases hf
  exact hv_vret X d_Md_release_136 E
set_option maxHeartbeats 4000000 in
set_option maxRecDepth 100000 in
theorem w_Md_isTwice_j114_in21_in62 {k : mk_T} (X : hv_X k b_Md_isTwice y_Md_isTwice.cls 9 2 45 (some (.boolean)) y_Md_isTwice.name) (N : Nat) (σ : ho_H) (a0 : Nat) (x1 : Int32) (x2 : Int32) (x3 : Int32) (x4 : Int32) (x5 : Int32) (x6 : Int32) (x8 : Int32) (y0 : Int32)  (r : (Int32 × Int32) ⊕ (Int32)) (hf : f_Md_isTwice_j114_in21_in62 k.2.1 N σ a0 x1 x2 x3 x4 x5 x6 x8 y0 = some r) (E : sm (fun s => hv_V k σ 62 [some (.ref a0), some (.int x1), some (.int x2), some (.int x3), some (.int x4), some (.int x5), some (.int x6), some (.int s.1), some (.int s.2)] []) (fun s => hv_V k σ 122 [some (.ref a0), some (.int x1), some (.int x2), some (.int x3), some (.int x4), some (.int x5), none, some (.int s), none] []) r) : hv_V k σ 114 [some (.ref a0), some (.int x1), some (.int x2), some (.int x3), some (.int x4), some (.int x5), some (.int x6), none, some (.int x8)] [.int y0] := by
  unfold f_Md_isTwice_j114_in21_in62 at hf
  refine hv_istore (pn := 116) (i := 7) (lo' := [some (.ref a0), some (.int x1), some (.int x2), some (.int x3), some (.int x4), some (.int x5), some (.int x6), some (.int y0), some (.int x8)]) X d_Md_isTwice_114 ?_
  refine hv_iinc (pn := 119) (i := 8) (v := x8 + 1) (lo' := [some (.ref a0), some (.int x1), some (.int x2), some (.int x3), some (.int x4), some (.int x5), some (.int x6), some (.int y0), some (.int (x8 + 1))]) X d_Md_isTwice_116 ?_
  refine hv_goto (tgt := 62) X d_Md_isTwice_119 (by decide) ?_
  cases hf
  exact E
set_option maxHeartbeats 4000000 in
set_option maxRecDepth 100000 in
theorem w_Md_isTwice_j113_in21_in62 {k : mk_T} (X : hv_X k b_Md_isTwice y_Md_isTwice.cls 9 2 45 (some (.boolean)) y_Md_isTwice.name) (N : Nat) (σ : ho_H) (a0 : Nat) (x1 : Int32) (x2 : Int32) (x3 : Int32) (x4 : Int32) (x5 : Int32) (x6 : Int32) (x8 : Int32)  (r : (Int32 × Int32) ⊕ (Int32)) (hf : f_Md_isTwice_j113_in21_in62 k.2.1 N σ a0 x1 x2 x3 x4 x5 x6 x8 = some r) (E : sm (fun s => hv_V k σ 62 [some (.ref a0), some (.int x1), some (.int x2), some (.int x3), some (.int x4), some (.int x5), some (.int x6), some (.int s.1), some (.int s.2)] []) (fun s => hv_V k σ 122 [some (.ref a0), some (.int x1), some (.int x2), some (.int x3), some (.int x4), some (.int x5), none, some (.int s), none] []) r) : hv_V k σ 113 [some (.ref a0), some (.int x1), some (.int x2), some (.int x3), some (.int x4), some (.int x5), some (.int x6), none, some (.int x8)] [] := by
  unfold f_Md_isTwice_j113_in21_in62 at hf
  refine hv_iconst (pn := 114) (v := 0) X d_Md_isTwice_113 ?_
  exact w_Md_isTwice_j114_in21_in62 X N σ a0 x1 x2 x3 x4 x5 x6 x8 0  _ hf E
set_option maxHeartbeats 4000000 in
set_option maxRecDepth 100000 in
theorem w_Md_isTwice_l62_in21 {k : mk_T} (X : hv_X k b_Md_isTwice y_Md_isTwice.cls 9 2 45 (some (.boolean)) y_Md_isTwice.name) (N : Nat) (σ : ho_H) (a0 : Nat) (x1 : Int32) (x2 : Int32) (x3 : Int32) (x4 : Int32) (x5 : Int32) (x6 : Int32) (x7 : Int32) (x8 : Int32) (r : (Int32 × Int32) ⊕ (Int32)) (hf : f_Md_isTwice_l62_in21 k.2.1 N σ a0 x1 x2 x3 x4 x5 x6 (x7, x8) = some r) (E : sm (fun s => hv_V k σ 62 [some (.ref a0), some (.int x1), some (.int x2), some (.int x3), some (.int x4), some (.int x5), some (.int x6), some (.int s.1), some (.int s.2)] []) (fun s => hv_V k σ 122 [some (.ref a0), some (.int x1), some (.int x2), some (.int x3), some (.int x4), some (.int x5), none, some (.int s), none] []) r) : hv_V k σ 62 [some (.ref a0), some (.int x1), some (.int x2), some (.int x3), some (.int x4), some (.int x5), some (.int x6), some (.int x7), some (.int x8)] [] := by
  unfold f_Md_isTwice_l62_in21 at hf
  try dsimp only at hf
  refine hv_iload (pn := 64) X d_Md_isTwice_62 ?_
  refine hv_bipush (pn := 66) (v := 10) X d_Md_isTwice_64 ?_
  refine hv_icmp_ge (pn := 69) (tgt := 122) X d_Md_isTwice_66 (by decide) (fun hc => ?_) (fun hc => ?_)
  · rw [if_pos hc] at hf
    refine hv_drop (i := 6) (lo' := [some (.ref a0), some (.int x1), some (.int x2), some (.int x3), some (.int x4), some (.int x5), none, some (.int x7), some (.int x8)]) ?_
    refine hv_drop (i := 8) (lo' := [some (.ref a0), some (.int x1), some (.int x2), some (.int x3), some (.int x4), some (.int x5), none, some (.int x7), none]) ?_
    cases hf
    exact E
  · rw [if_neg hc] at hf
    refine hv_iload (pn := 71) X d_Md_isTwice_69 ?_
    refine hv_if_eq (pn := 74) (tgt := 113) X d_Md_isTwice_71 (by decide) (fun hc => ?_) (fun hc => ?_)
    · rw [if_pos hc] at hf
      refine hv_drop (i := 7) (lo' := [some (.ref a0), some (.int x1), some (.int x2), some (.int x3), some (.int x4), some (.int x5), some (.int x6), none, some (.int x8)]) ?_
      exact w_Md_isTwice_j113_in21_in62 X N σ a0 x1 x2 x3 x4 x5 x6 x8  _ hf E
    · rw [if_neg hc] at hf
      refine hv_aload_n (pn := 75) X d_Md_isTwice_74 ?_
      obtain ⟨b11, hb11, hf⟩ := bd_E hf
      refine hv_getR (pn := 78) X d_Md_isTwice_75 fa_Md_146 hb11 ?_
      refine hv_iload (pn := 80) X d_Md_isTwice_78 ?_
      refine hv_bipush (pn := 82) (v := 6) X d_Md_isTwice_80 ?_
      refine hv_iadd (pn := 83) X d_Md_isTwice_82 ?_
      refine hv_aload_n (pn := 84) X d_Md_isTwice_83 ?_
      obtain ⟨b12, hb12, hf⟩ := bd_E hf
      refine hv_getR (pn := 87) X d_Md_isTwice_84 fa_Md_146 hb12 ?_
      refine hv_iload (pn := 89) X d_Md_isTwice_87 ?_
      refine hv_iconst (pn := 90) (v := 5) X d_Md_isTwice_89 ?_
      refine hv_iadd (pn := 91) X d_Md_isTwice_90 ?_
      obtain ⟨v13, hv13, hf⟩ := bd_E hf
      refine hv_iald (pn := 92) X d_Md_isTwice_91 hv13 ?_
      refine hv_iadd (pn := 93) X d_Md_isTwice_92 ?_
      refine hv_iload (pn := 95) X d_Md_isTwice_93 ?_
      refine hv_iadd (pn := 96) X d_Md_isTwice_95 ?_
      obtain ⟨v14, hv14, hf⟩ := bd_E hf
      refine hv_iald (pn := 97) X d_Md_isTwice_96 hv14 ?_
      refine hv_aload_n (pn := 98) X d_Md_isTwice_97 ?_
      obtain ⟨b15, hb15, hf⟩ := bd_E hf
      refine hv_getR (pn := 101) X d_Md_isTwice_98 fa_Md_166 hb15 ?_
      refine hv_iload_n (pn := 102) X d_Md_isTwice_101 ?_
      refine hv_iload (pn := 104) X d_Md_isTwice_102 ?_
      refine hv_iadd (pn := 105) X d_Md_isTwice_104 ?_
      obtain ⟨v16, hv16, hf⟩ := bd_E hf
      refine hv_iald (pn := 106) X d_Md_isTwice_105 hv16 ?_
      refine hv_icmp_ne (pn := 109) (tgt := 113) X d_Md_isTwice_106 (by decide) (fun hc => ?_) (fun hc => ?_)
      · rw [if_pos hc] at hf
        refine hv_drop (i := 7) (lo' := [some (.ref a0), some (.int x1), some (.int x2), some (.int x3), some (.int x4), some (.int x5), some (.int x6), none, some (.int x8)]) ?_
        exact w_Md_isTwice_j113_in21_in62 X N σ a0 x1 x2 x3 x4 x5 x6 x8  _ hf E
      · rw [if_neg hc] at hf
        refine hv_iconst (pn := 110) (v := 1) X d_Md_isTwice_109 ?_
        refine hv_goto (tgt := 114) X d_Md_isTwice_110 (by decide) ?_
        refine hv_drop (i := 7) (lo' := [some (.ref a0), some (.int x1), some (.int x2), some (.int x3), some (.int x4), some (.int x5), some (.int x6), none, some (.int x8)]) ?_
        exact w_Md_isTwice_j114_in21_in62 X N σ a0 x1 x2 x3 x4 x5 x6 x8 1  _ hf E
set_option maxHeartbeats 4000000 in
set_option maxRecDepth 100000 in
theorem w_Md_isTwice_j137_in21 {k : mk_T} (X : hv_X k b_Md_isTwice y_Md_isTwice.cls 9 2 45 (some (.boolean)) y_Md_isTwice.name) (N : Nat) (σ : ho_H) (a0 : Nat) (x1 : Int32) (x2 : Int32) (x3 : Int32) (x5 : Int32) (y0 : Int32)  (r : (Int32 × Int32) ⊕ (Int32)) (hf : f_Md_isTwice_j137_in21 k.2.1 N σ a0 x1 x2 x3 x5 y0 = some r) (E : sm (fun s => hv_V k σ 21 [some (.ref a0), some (.int x1), some (.int x2), some (.int x3), some (.int s.1), some (.int s.2), none, none, none] []) (fun s => hv_V k σ 145 [some (.ref a0), some (.int x1), some (.int x2), some (.int x3), some (.int s), none, none, none, none] []) r) : hv_V k σ 137 [some (.ref a0), some (.int x1), some (.int x2), some (.int x3), none, some (.int x5), none, none, none] [.int y0] := by
  unfold f_Md_isTwice_j137_in21 at hf
  refine hv_istore (pn := 139) (i := 4) (lo' := [some (.ref a0), some (.int x1), some (.int x2), some (.int x3), some (.int y0), some (.int x5), none, none, none]) X d_Md_isTwice_137 ?_
  refine hv_iinc (pn := 142) (i := 5) (v := x5 + 1) (lo' := [some (.ref a0), some (.int x1), some (.int x2), some (.int x3), some (.int y0), some (.int (x5 + 1)), none, none, none]) X d_Md_isTwice_139 ?_
  refine hv_goto (tgt := 21) X d_Md_isTwice_142 (by decide) ?_
  cases hf
  exact E
set_option maxHeartbeats 4000000 in
set_option maxRecDepth 100000 in
theorem w_Md_isTwice_j132_in21 {k : mk_T} (X : hv_X k b_Md_isTwice y_Md_isTwice.cls 9 2 45 (some (.boolean)) y_Md_isTwice.name) (N : Nat) (σ : ho_H) (a0 : Nat) (x1 : Int32) (x2 : Int32) (x3 : Int32) (x5 : Int32)  (r : (Int32 × Int32) ⊕ (Int32)) (hf : f_Md_isTwice_j132_in21 k.2.1 N σ a0 x1 x2 x3 x5 = some r) (E : sm (fun s => hv_V k σ 21 [some (.ref a0), some (.int x1), some (.int x2), some (.int x3), some (.int s.1), some (.int s.2), none, none, none] []) (fun s => hv_V k σ 145 [some (.ref a0), some (.int x1), some (.int x2), some (.int x3), some (.int s), none, none, none, none] []) r) : hv_V k σ 132 [some (.ref a0), some (.int x1), some (.int x2), some (.int x3), none, some (.int x5), none, none, none] [] := by
  unfold f_Md_isTwice_j132_in21 at hf
  refine hv_iconst (pn := 133) (v := 1) X d_Md_isTwice_132 ?_
  refine hv_goto (tgt := 137) X d_Md_isTwice_133 (by decide) ?_
  exact w_Md_isTwice_j137_in21 X N σ a0 x1 x2 x3 x5 1  _ hf E
set_option maxHeartbeats 4000000 in
set_option maxRecDepth 100000 in
theorem w_Md_isTwice_j57_in21 {k : mk_T} (X : hv_X k b_Md_isTwice y_Md_isTwice.cls 9 2 45 (some (.boolean)) y_Md_isTwice.name) (N : Nat) (σ : ho_H) (a0 : Nat) (x1 : Int32) (x2 : Int32) (x3 : Int32) (x4 : Int32) (x5 : Int32) (x6 : Int32) (y0 : Int32)  (r : (Int32 × Int32) ⊕ (Int32)) (hf : f_Md_isTwice_j57_in21 k.2.1 N σ a0 x1 x2 x3 x4 x5 x6 y0 = some r) (E : sm (fun s => hv_V k σ 21 [some (.ref a0), some (.int x1), some (.int x2), some (.int x3), some (.int s.1), some (.int s.2), none, none, none] []) (fun s => hv_V k σ 145 [some (.ref a0), some (.int x1), some (.int x2), some (.int x3), some (.int s), none, none, none, none] []) r) : hv_V k σ 57 [some (.ref a0), some (.int x1), some (.int x2), some (.int x3), some (.int x4), some (.int x5), some (.int x6), none, none] [.int y0] := by
  unfold f_Md_isTwice_j57_in21 at hf
  refine hv_istore (pn := 59) (i := 7) (lo' := [some (.ref a0), some (.int x1), some (.int x2), some (.int x3), some (.int x4), some (.int x5), some (.int x6), some (.int y0), none]) X d_Md_isTwice_57 ?_
  refine hv_iconst (pn := 60) (v := 0) X d_Md_isTwice_59 ?_
  refine hv_istore (pn := 62) (i := 8) (lo' := [some (.ref a0), some (.int x1), some (.int x2), some (.int x3), some (.int x4), some (.int x5), some (.int x6), some (.int y0), some (.int 0)]) X d_Md_isTwice_60 ?_
  obtain ⟨x17, he19, hf⟩ := bd_E hf
  refine hv_loop (P := fun s => hv_V k σ 62 [some (.ref a0), some (.int x1), some (.int x2), some (.int x3), some (.int x4), some (.int x5), some (.int x6), some (.int s.1), some (.int s.2)] []) (Z := fun s => hv_V k σ 122 [some (.ref a0), some (.int x1), some (.int x2), some (.int x3), some (.int x4), some (.int x5), none, some (.int s), none] []) (fun s r h1 h2 => by obtain ⟨x7, x8⟩ := s; exact w_Md_isTwice_l62_in21 X N σ a0 x1 x2 x3 x4 x5 x6 x7 x8 r h1 h2) N (y0, 0) _ he19 ?_
  try dsimp only at hf ⊢
  refine hv_iload (pn := 124) X d_Md_isTwice_122 ?_
  refine hv_if_ne (pn := 127) (tgt := 132) X d_Md_isTwice_124 (by decide) (fun hc => ?_) (fun hc => ?_)
  · rw [if_pos hc] at hf
    refine hv_drop (i := 4) (lo' := [some (.ref a0), some (.int x1), some (.int x2), some (.int x3), none, some (.int x5), none, some (.int x17), none]) ?_
    refine hv_drop (i := 7) (lo' := [some (.ref a0), some (.int x1), some (.int x2), some (.int x3), none, some (.int x5), none, none, none]) ?_
    exact w_Md_isTwice_j132_in21 X N σ a0 x1 x2 x3 x5  _ hf E
  · rw [if_neg hc] at hf
    refine hv_iload (pn := 129) X d_Md_isTwice_127 ?_
    refine hv_if_eq (pn := 132) (tgt := 136) X d_Md_isTwice_129 (by decide) (fun hc => ?_) (fun hc => ?_)
    · rw [if_pos hc] at hf
      refine hv_iconst (pn := 137) (v := 0) X d_Md_isTwice_136 ?_
      refine hv_drop (i := 4) (lo' := [some (.ref a0), some (.int x1), some (.int x2), some (.int x3), none, some (.int x5), none, some (.int x17), none]) ?_
      refine hv_drop (i := 7) (lo' := [some (.ref a0), some (.int x1), some (.int x2), some (.int x3), none, some (.int x5), none, none, none]) ?_
      exact w_Md_isTwice_j137_in21 X N σ a0 x1 x2 x3 x5 0  _ hf E
    · rw [if_neg hc] at hf
      refine hv_drop (i := 4) (lo' := [some (.ref a0), some (.int x1), some (.int x2), some (.int x3), none, some (.int x5), none, some (.int x17), none]) ?_
      refine hv_drop (i := 7) (lo' := [some (.ref a0), some (.int x1), some (.int x2), some (.int x3), none, some (.int x5), none, none, none]) ?_
      exact w_Md_isTwice_j132_in21 X N σ a0 x1 x2 x3 x5  _ hf E
set_option maxHeartbeats 4000000 in
set_option maxRecDepth 100000 in
theorem w_Md_isTwice_l21 {k : mk_T} (X : hv_X k b_Md_isTwice y_Md_isTwice.cls 9 2 45 (some (.boolean)) y_Md_isTwice.name) (N : Nat) (σ : ho_H) (a0 : Nat) (x1 : Int32) (x2 : Int32) (x3 : Int32) (x4 : Int32) (x5 : Int32) (r : (Int32 × Int32) ⊕ (Int32)) (hf : f_Md_isTwice_l21 k.2.1 N σ a0 x1 x2 x3 (x4, x5) = some r) (E : sm (fun s => hv_V k σ 21 [some (.ref a0), some (.int x1), some (.int x2), some (.int x3), some (.int s.1), some (.int s.2), none, none, none] []) (fun s => hv_V k σ 145 [some (.ref a0), some (.int x1), some (.int x2), some (.int x3), some (.int s), none, none, none, none] []) r) : hv_V k σ 21 [some (.ref a0), some (.int x1), some (.int x2), some (.int x3), some (.int x4), some (.int x5), none, none, none] [] := by
  unfold f_Md_isTwice_l21 at hf
  try dsimp only at hf
  refine hv_iload (pn := 23) X d_Md_isTwice_21 ?_
  refine hv_aload_n (pn := 24) X d_Md_isTwice_23 ?_
  obtain ⟨b5, hb5, hf⟩ := bd_E hf
  refine hv_getR (pn := 27) X d_Md_isTwice_24 fa_Md_140 hb5 ?_
  refine hv_iload_n (pn := 28) X d_Md_isTwice_27 ?_
  obtain ⟨v6, hv6, hf⟩ := bd_E hf
  refine hv_iald (pn := 29) X d_Md_isTwice_28 hv6 ?_
  refine hv_icmp_ge (pn := 32) (tgt := 145) X d_Md_isTwice_29 (by decide) (fun hc => ?_) (fun hc => ?_)
  · rw [if_pos hc] at hf
    refine hv_drop (i := 5) (lo' := [some (.ref a0), some (.int x1), some (.int x2), some (.int x3), some (.int x4), none, none, none, none]) ?_
    cases hf
    exact E
  · rw [if_neg hc] at hf
    refine hv_aload_n (pn := 33) X d_Md_isTwice_32 ?_
    refine hv_iload_n (pn := 34) X d_Md_isTwice_33 ?_
    refine hv_iload (pn := 36) X d_Md_isTwice_34 ?_
    obtain ⟨_, hr7, hf⟩ := bd_E hf
    obtain ⟨v8, hv8, hf⟩ := bd_E hf
    refine hv_callV (pn := 39) X d_Md_isTwice_36 (c_Md_heldAt _ _ N σ a0 x1 x5 _ hv8) cs_Md_265 q_5_128 rfl qs_Md_heldAt hr7 (by decide) (by decide) ⟨Nat.le_refl _, Nat.le_refl _⟩ (Nat.le_of_ble_eq_true rfl) ?_
    refine hv_istore (pn := 41) (i := 6) (lo' := [some (.ref a0), some (.int x1), some (.int x2), some (.int x3), some (.int x4), some (.int x5), some (.int v8), none, none]) X d_Md_isTwice_39 ?_
    refine hv_aload_n (pn := 42) X d_Md_isTwice_41 ?_
    refine hv_iload_n (pn := 43) X d_Md_isTwice_42 ?_
    refine hv_iload (pn := 45) X d_Md_isTwice_43 ?_
    obtain ⟨_, hr9, hf⟩ := bd_E hf
    obtain ⟨v10, hv10, hf⟩ := bd_E hf
    refine hv_callV (pn := 48) X d_Md_isTwice_45 (c_Md_heldInterval _ _ N σ a0 x1 x5 _ hv10) cs_Md_268 q_5_124 rfl qs_Md_heldInterval hr9 (by decide) (by decide) ⟨Nat.le_refl _, Nat.le_refl _⟩ (Nat.le_of_ble_eq_true rfl) ?_
    refine hv_iload_n (pn := 49) X d_Md_isTwice_48 ?_
    refine hv_icmp_ne (pn := 52) (tgt := 56) X d_Md_isTwice_49 (by decide) (fun hc => ?_) (fun hc => ?_)
    · rw [if_pos hc] at hf
      refine hv_iconst (pn := 57) (v := 0) X d_Md_isTwice_56 ?_
      exact w_Md_isTwice_j57_in21 X N σ a0 x1 x2 x3 x4 x5 v8 0  _ hf E
    · rw [if_neg hc] at hf
      refine hv_iconst (pn := 53) (v := 1) X d_Md_isTwice_52 ?_
      refine hv_goto (tgt := 57) X d_Md_isTwice_53 (by decide) ?_
      exact w_Md_isTwice_j57_in21 X N σ a0 x1 x2 x3 x4 x5 v8 1  _ hf E
set_option maxHeartbeats 4000000 in
set_option maxRecDepth 100000 in
theorem w_Md_isTwice_j232_in152_in190 {k : mk_T} (X : hv_X k b_Md_isTwice y_Md_isTwice.cls 9 2 45 (some (.boolean)) y_Md_isTwice.name) (N : Nat) (σ : ho_H) (a0 : Nat) (x1 : Int32) (x2 : Int32) (x3 : Int32) (x4 : Int32) (x5 : Int32) (x7 : Int32) (y0 : Int32)  (r : (Int32 × Int32) ⊕ (Int32)) (hf : f_Md_isTwice_j232_in152_in190 k.2.1 N σ a0 x1 x2 x3 x4 x5 x7 y0 = some r) (E : sm (fun s => hv_V k σ 190 [some (.ref a0), some (.int x1), some (.int x2), some (.int x3), some (.int x4), some (.int x5), some (.int s.1), some (.int s.2), none] []) (fun s => hv_V k σ 240 [some (.ref a0), some (.int x1), some (.int x2), some (.int x3), some (.int x4), some (.int x5), some (.int s), none, none] []) r) : hv_V k σ 232 [some (.ref a0), some (.int x1), some (.int x2), some (.int x3), some (.int x4), some (.int x5), none, some (.int x7), none] [.int y0] := by
  unfold f_Md_isTwice_j232_in152_in190 at hf
  refine hv_istore (pn := 234) (i := 6) (lo' := [some (.ref a0), some (.int x1), some (.int x2), some (.int x3), some (.int x4), some (.int x5), some (.int y0), some (.int x7), none]) X d_Md_isTwice_232 ?_
  refine hv_iinc (pn := 237) (i := 7) (v := x7 + 1) (lo' := [some (.ref a0), some (.int x1), some (.int x2), some (.int x3), some (.int x4), some (.int x5), some (.int y0), some (.int (x7 + 1)), none]) X d_Md_isTwice_234 ?_
  refine hv_goto (tgt := 190) X d_Md_isTwice_237 (by decide) ?_
  cases hf
  exact E
set_option maxHeartbeats 4000000 in
set_option maxRecDepth 100000 in
theorem w_Md_isTwice_j231_in152_in190 {k : mk_T} (X : hv_X k b_Md_isTwice y_Md_isTwice.cls 9 2 45 (some (.boolean)) y_Md_isTwice.name) (N : Nat) (σ : ho_H) (a0 : Nat) (x1 : Int32) (x2 : Int32) (x3 : Int32) (x4 : Int32) (x5 : Int32) (x7 : Int32)  (r : (Int32 × Int32) ⊕ (Int32)) (hf : f_Md_isTwice_j231_in152_in190 k.2.1 N σ a0 x1 x2 x3 x4 x5 x7 = some r) (E : sm (fun s => hv_V k σ 190 [some (.ref a0), some (.int x1), some (.int x2), some (.int x3), some (.int x4), some (.int x5), some (.int s.1), some (.int s.2), none] []) (fun s => hv_V k σ 240 [some (.ref a0), some (.int x1), some (.int x2), some (.int x3), some (.int x4), some (.int x5), some (.int s), none, none] []) r) : hv_V k σ 231 [some (.ref a0), some (.int x1), some (.int x2), some (.int x3), some (.int x4), some (.int x5), none, some (.int x7), none] [] := by
  unfold f_Md_isTwice_j231_in152_in190 at hf
  refine hv_iconst (pn := 232) (v := 0) X d_Md_isTwice_231 ?_
  exact w_Md_isTwice_j232_in152_in190 X N σ a0 x1 x2 x3 x4 x5 x7 0  _ hf E
set_option maxHeartbeats 4000000 in
set_option maxRecDepth 100000 in
theorem w_Md_isTwice_l190_in152 {k : mk_T} (X : hv_X k b_Md_isTwice y_Md_isTwice.cls 9 2 45 (some (.boolean)) y_Md_isTwice.name) (N : Nat) (σ : ho_H) (a0 : Nat) (x1 : Int32) (x2 : Int32) (x3 : Int32) (x4 : Int32) (x5 : Int32) (x6 : Int32) (x7 : Int32) (r : (Int32 × Int32) ⊕ (Int32)) (hf : f_Md_isTwice_l190_in152 k.2.1 N σ a0 x1 x2 x3 x4 x5 (x6, x7) = some r) (E : sm (fun s => hv_V k σ 190 [some (.ref a0), some (.int x1), some (.int x2), some (.int x3), some (.int x4), some (.int x5), some (.int s.1), some (.int s.2), none] []) (fun s => hv_V k σ 240 [some (.ref a0), some (.int x1), some (.int x2), some (.int x3), some (.int x4), some (.int x5), some (.int s), none, none] []) r) : hv_V k σ 190 [some (.ref a0), some (.int x1), some (.int x2), some (.int x3), some (.int x4), some (.int x5), some (.int x6), some (.int x7), none] [] := by
  unfold f_Md_isTwice_l190_in152 at hf
  try dsimp only at hf
  refine hv_iload (pn := 192) X d_Md_isTwice_190 ?_
  refine hv_bipush (pn := 194) (v := 10) X d_Md_isTwice_192 ?_
  refine hv_icmp_ge (pn := 197) (tgt := 240) X d_Md_isTwice_194 (by decide) (fun hc => ?_) (fun hc => ?_)
  · rw [if_pos hc] at hf
    refine hv_drop (i := 7) (lo' := [some (.ref a0), some (.int x1), some (.int x2), some (.int x3), some (.int x4), some (.int x5), some (.int x6), none, none]) ?_
    cases hf
    exact E
  · rw [if_neg hc] at hf
    refine hv_iload (pn := 199) X d_Md_isTwice_197 ?_
    refine hv_if_eq (pn := 202) (tgt := 231) X d_Md_isTwice_199 (by decide) (fun hc => ?_) (fun hc => ?_)
    · rw [if_pos hc] at hf
      refine hv_drop (i := 6) (lo' := [some (.ref a0), some (.int x1), some (.int x2), some (.int x3), some (.int x4), some (.int x5), none, some (.int x7), none]) ?_
      exact w_Md_isTwice_j231_in152_in190 X N σ a0 x1 x2 x3 x4 x5 x7  _ hf E
    · rw [if_neg hc] at hf
      refine hv_aload_n (pn := 203) X d_Md_isTwice_202 ?_
      obtain ⟨b25, hb25, hf⟩ := bd_E hf
      refine hv_getR (pn := 206) X d_Md_isTwice_203 fa_Md_156 hb25 ?_
      refine hv_bipush (pn := 208) (v := 10) X d_Md_isTwice_206 ?_
      refine hv_iload (pn := 210) X d_Md_isTwice_208 ?_
      refine hv_imul (pn := 211) X d_Md_isTwice_210 ?_
      refine hv_iload (pn := 213) X d_Md_isTwice_211 ?_
      refine hv_iadd (pn := 214) X d_Md_isTwice_213 ?_
      obtain ⟨v26, hv26, hf⟩ := bd_E hf
      refine hv_iald (pn := 215) X d_Md_isTwice_214 hv26 ?_
      refine hv_aload_n (pn := 216) X d_Md_isTwice_215 ?_
      obtain ⟨b27, hb27, hf⟩ := bd_E hf
      refine hv_getR (pn := 219) X d_Md_isTwice_216 fa_Md_166 hb27 ?_
      refine hv_iload_n (pn := 220) X d_Md_isTwice_219 ?_
      refine hv_iload (pn := 222) X d_Md_isTwice_220 ?_
      refine hv_iadd (pn := 223) X d_Md_isTwice_222 ?_
      obtain ⟨v28, hv28, hf⟩ := bd_E hf
      refine hv_iald (pn := 224) X d_Md_isTwice_223 hv28 ?_
      refine hv_icmp_ne (pn := 227) (tgt := 231) X d_Md_isTwice_224 (by decide) (fun hc => ?_) (fun hc => ?_)
      · rw [if_pos hc] at hf
        refine hv_drop (i := 6) (lo' := [some (.ref a0), some (.int x1), some (.int x2), some (.int x3), some (.int x4), some (.int x5), none, some (.int x7), none]) ?_
        exact w_Md_isTwice_j231_in152_in190 X N σ a0 x1 x2 x3 x4 x5 x7  _ hf E
      · rw [if_neg hc] at hf
        refine hv_iconst (pn := 228) (v := 1) X d_Md_isTwice_227 ?_
        refine hv_goto (tgt := 232) X d_Md_isTwice_228 (by decide) ?_
        refine hv_drop (i := 6) (lo' := [some (.ref a0), some (.int x1), some (.int x2), some (.int x3), some (.int x4), some (.int x5), none, some (.int x7), none]) ?_
        exact w_Md_isTwice_j232_in152_in190 X N σ a0 x1 x2 x3 x4 x5 x7 1  _ hf E
set_option maxHeartbeats 4000000 in
set_option maxRecDepth 100000 in
theorem w_Md_isTwice_j255_in152 {k : mk_T} (X : hv_X k b_Md_isTwice y_Md_isTwice.cls 9 2 45 (some (.boolean)) y_Md_isTwice.name) (N : Nat) (σ : ho_H) (a0 : Nat) (x1 : Int32) (x2 : Int32) (x3 : Int32) (x5 : Int32) (y0 : Int32)  (r : (Int32 × Int32) ⊕ (Int32)) (hf : f_Md_isTwice_j255_in152 k.2.1 N σ a0 x1 x2 x3 x5 y0 = some r) (E : sm (fun s => hv_V k σ 152 [some (.ref a0), some (.int x1), some (.int x2), some (.int x3), some (.int s.1), some (.int s.2), none, none, none] []) (fun s => hv_V k σ 263 [none, none, none, none, some (.int s), none, none, none, none] []) r) : hv_V k σ 255 [some (.ref a0), some (.int x1), some (.int x2), some (.int x3), none, some (.int x5), none, none, none] [.int y0] := by
  unfold f_Md_isTwice_j255_in152 at hf
  refine hv_istore (pn := 257) (i := 4) (lo' := [some (.ref a0), some (.int x1), some (.int x2), some (.int x3), some (.int y0), some (.int x5), none, none, none]) X d_Md_isTwice_255 ?_
  refine hv_iinc (pn := 260) (i := 5) (v := x5 + 1) (lo' := [some (.ref a0), some (.int x1), some (.int x2), some (.int x3), some (.int y0), some (.int (x5 + 1)), none, none, none]) X d_Md_isTwice_257 ?_
  refine hv_goto (tgt := 152) X d_Md_isTwice_260 (by decide) ?_
  cases hf
  exact E
set_option maxHeartbeats 4000000 in
set_option maxRecDepth 100000 in
theorem w_Md_isTwice_j250_in152 {k : mk_T} (X : hv_X k b_Md_isTwice y_Md_isTwice.cls 9 2 45 (some (.boolean)) y_Md_isTwice.name) (N : Nat) (σ : ho_H) (a0 : Nat) (x1 : Int32) (x2 : Int32) (x3 : Int32) (x5 : Int32)  (r : (Int32 × Int32) ⊕ (Int32)) (hf : f_Md_isTwice_j250_in152 k.2.1 N σ a0 x1 x2 x3 x5 = some r) (E : sm (fun s => hv_V k σ 152 [some (.ref a0), some (.int x1), some (.int x2), some (.int x3), some (.int s.1), some (.int s.2), none, none, none] []) (fun s => hv_V k σ 263 [none, none, none, none, some (.int s), none, none, none, none] []) r) : hv_V k σ 250 [some (.ref a0), some (.int x1), some (.int x2), some (.int x3), none, some (.int x5), none, none, none] [] := by
  unfold f_Md_isTwice_j250_in152 at hf
  refine hv_iconst (pn := 251) (v := 1) X d_Md_isTwice_250 ?_
  refine hv_goto (tgt := 255) X d_Md_isTwice_251 (by decide) ?_
  exact w_Md_isTwice_j255_in152 X N σ a0 x1 x2 x3 x5 1  _ hf E
set_option maxHeartbeats 4000000 in
set_option maxRecDepth 100000 in
theorem w_Md_isTwice_j185_in152 {k : mk_T} (X : hv_X k b_Md_isTwice y_Md_isTwice.cls 9 2 45 (some (.boolean)) y_Md_isTwice.name) (N : Nat) (σ : ho_H) (a0 : Nat) (x1 : Int32) (x2 : Int32) (x3 : Int32) (x4 : Int32) (x5 : Int32) (y0 : Int32)  (r : (Int32 × Int32) ⊕ (Int32)) (hf : f_Md_isTwice_j185_in152 k.2.1 N σ a0 x1 x2 x3 x4 x5 y0 = some r) (E : sm (fun s => hv_V k σ 152 [some (.ref a0), some (.int x1), some (.int x2), some (.int x3), some (.int s.1), some (.int s.2), none, none, none] []) (fun s => hv_V k σ 263 [none, none, none, none, some (.int s), none, none, none, none] []) r) : hv_V k σ 185 [some (.ref a0), some (.int x1), some (.int x2), some (.int x3), some (.int x4), some (.int x5), none, none, none] [.int y0] := by
  unfold f_Md_isTwice_j185_in152 at hf
  refine hv_istore (pn := 187) (i := 6) (lo' := [some (.ref a0), some (.int x1), some (.int x2), some (.int x3), some (.int x4), some (.int x5), some (.int y0), none, none]) X d_Md_isTwice_185 ?_
  refine hv_iconst (pn := 188) (v := 0) X d_Md_isTwice_187 ?_
  refine hv_istore (pn := 190) (i := 7) (lo' := [some (.ref a0), some (.int x1), some (.int x2), some (.int x3), some (.int x4), some (.int x5), some (.int y0), some (.int 0), none]) X d_Md_isTwice_188 ?_
  obtain ⟨x29, he31, hf⟩ := bd_E hf
  refine hv_loop (P := fun s => hv_V k σ 190 [some (.ref a0), some (.int x1), some (.int x2), some (.int x3), some (.int x4), some (.int x5), some (.int s.1), some (.int s.2), none] []) (Z := fun s => hv_V k σ 240 [some (.ref a0), some (.int x1), some (.int x2), some (.int x3), some (.int x4), some (.int x5), some (.int s), none, none] []) (fun s r h1 h2 => by obtain ⟨x6, x7⟩ := s; exact w_Md_isTwice_l190_in152 X N σ a0 x1 x2 x3 x4 x5 x6 x7 r h1 h2) N (y0, 0) _ he31 ?_
  try dsimp only at hf ⊢
  refine hv_iload (pn := 242) X d_Md_isTwice_240 ?_
  refine hv_if_ne (pn := 245) (tgt := 250) X d_Md_isTwice_242 (by decide) (fun hc => ?_) (fun hc => ?_)
  · rw [if_pos hc] at hf
    refine hv_drop (i := 4) (lo' := [some (.ref a0), some (.int x1), some (.int x2), some (.int x3), none, some (.int x5), some (.int x29), none, none]) ?_
    refine hv_drop (i := 6) (lo' := [some (.ref a0), some (.int x1), some (.int x2), some (.int x3), none, some (.int x5), none, none, none]) ?_
    exact w_Md_isTwice_j250_in152 X N σ a0 x1 x2 x3 x5  _ hf E
  · rw [if_neg hc] at hf
    refine hv_iload (pn := 247) X d_Md_isTwice_245 ?_
    refine hv_if_eq (pn := 250) (tgt := 254) X d_Md_isTwice_247 (by decide) (fun hc => ?_) (fun hc => ?_)
    · rw [if_pos hc] at hf
      refine hv_iconst (pn := 255) (v := 0) X d_Md_isTwice_254 ?_
      refine hv_drop (i := 4) (lo' := [some (.ref a0), some (.int x1), some (.int x2), some (.int x3), none, some (.int x5), some (.int x29), none, none]) ?_
      refine hv_drop (i := 6) (lo' := [some (.ref a0), some (.int x1), some (.int x2), some (.int x3), none, some (.int x5), none, none, none]) ?_
      exact w_Md_isTwice_j255_in152 X N σ a0 x1 x2 x3 x5 0  _ hf E
    · rw [if_neg hc] at hf
      refine hv_drop (i := 4) (lo' := [some (.ref a0), some (.int x1), some (.int x2), some (.int x3), none, some (.int x5), some (.int x29), none, none]) ?_
      refine hv_drop (i := 6) (lo' := [some (.ref a0), some (.int x1), some (.int x2), some (.int x3), none, some (.int x5), none, none, none]) ?_
      exact w_Md_isTwice_j250_in152 X N σ a0 x1 x2 x3 x5  _ hf E
set_option maxHeartbeats 4000000 in
set_option maxRecDepth 100000 in
theorem w_Md_isTwice_l152 {k : mk_T} (X : hv_X k b_Md_isTwice y_Md_isTwice.cls 9 2 45 (some (.boolean)) y_Md_isTwice.name) (N : Nat) (σ : ho_H) (a0 : Nat) (x1 : Int32) (x2 : Int32) (x3 : Int32) (x4 : Int32) (x5 : Int32) (r : (Int32 × Int32) ⊕ (Int32)) (hf : f_Md_isTwice_l152 k.2.1 N σ a0 x1 x2 x3 (x4, x5) = some r) (E : sm (fun s => hv_V k σ 152 [some (.ref a0), some (.int x1), some (.int x2), some (.int x3), some (.int s.1), some (.int s.2), none, none, none] []) (fun s => hv_V k σ 263 [none, none, none, none, some (.int s), none, none, none, none] []) r) : hv_V k σ 152 [some (.ref a0), some (.int x1), some (.int x2), some (.int x3), some (.int x4), some (.int x5), none, none, none] [] := by
  unfold f_Md_isTwice_l152 at hf
  try dsimp only at hf
  refine hv_iload (pn := 154) X d_Md_isTwice_152 ?_
  refine hv_sipush (pn := 157) (v := 1024) X d_Md_isTwice_154 ?_
  refine hv_iload_n (pn := 158) X d_Md_isTwice_157 ?_
  refine hv_imul (pn := 159) X d_Md_isTwice_158 ?_
  refine hv_aload_n (pn := 160) X d_Md_isTwice_159 ?_
  obtain ⟨b21, hb21, hf⟩ := bd_E hf
  refine hv_getR (pn := 163) X d_Md_isTwice_160 fa_Md_149 hb21 ?_
  refine hv_iload_n (pn := 164) X d_Md_isTwice_163 ?_
  obtain ⟨v22, hv22, hf⟩ := bd_E hf
  refine hv_iald (pn := 165) X d_Md_isTwice_164 hv22 ?_
  refine hv_iadd (pn := 166) X d_Md_isTwice_165 ?_
  refine hv_icmp_ge (pn := 169) (tgt := 263) X d_Md_isTwice_166 (by decide) (fun hc => ?_) (fun hc => ?_)
  · rw [if_pos hc] at hf
    refine hv_drop (i := 0) (lo' := [none, some (.int x1), some (.int x2), some (.int x3), some (.int x4), some (.int x5), none, none, none]) ?_
    refine hv_drop (i := 1) (lo' := [none, none, some (.int x2), some (.int x3), some (.int x4), some (.int x5), none, none, none]) ?_
    refine hv_drop (i := 2) (lo' := [none, none, none, some (.int x3), some (.int x4), some (.int x5), none, none, none]) ?_
    refine hv_drop (i := 3) (lo' := [none, none, none, none, some (.int x4), some (.int x5), none, none, none]) ?_
    refine hv_drop (i := 5) (lo' := [none, none, none, none, some (.int x4), none, none, none, none]) ?_
    cases hf
    exact E
  · rw [if_neg hc] at hf
    refine hv_aload_n (pn := 170) X d_Md_isTwice_169 ?_
    obtain ⟨b23, hb23, hf⟩ := bd_E hf
    refine hv_getR (pn := 173) X d_Md_isTwice_170 fa_Md_152 hb23 ?_
    refine hv_iload (pn := 175) X d_Md_isTwice_173 ?_
    obtain ⟨v24, hv24, hf⟩ := bd_E hf
    refine hv_iald (pn := 176) X d_Md_isTwice_175 hv24 ?_
    refine hv_iload_n (pn := 177) X d_Md_isTwice_176 ?_
    refine hv_icmp_ne (pn := 180) (tgt := 184) X d_Md_isTwice_177 (by decide) (fun hc => ?_) (fun hc => ?_)
    · rw [if_pos hc] at hf
      refine hv_iconst (pn := 185) (v := 0) X d_Md_isTwice_184 ?_
      exact w_Md_isTwice_j185_in152 X N σ a0 x1 x2 x3 x4 x5 0  _ hf E
    · rw [if_neg hc] at hf
      refine hv_iconst (pn := 181) (v := 1) X d_Md_isTwice_180 ?_
      refine hv_goto (tgt := 185) X d_Md_isTwice_181 (by decide) ?_
      exact w_Md_isTwice_j185_in152 X N σ a0 x1 x2 x3 x4 x5 1  _ hf E
set_option maxHeartbeats 4000000 in
set_option maxRecDepth 100000 in
theorem c_Md_isTwice (l : Launch) (G : ho_G) (N : Nat) (σ : ho_H) (a0 : Nat) (x1 : Int32) (r : Int32) (hf : f_Md_isTwice G N σ a0 x1 = some r) : hv_C l G y_Md_isTwice (Cond.code y_Md_isTwice b_Md_isTwice 9 (some (.boolean)) :: hv_ws) 2 45 [.ref a0, .int x1] σ σ (some (.int r)) := by
  refine hv_met [some (.ref a0), some (.int x1), none, none, none, none, none, none, none] (plainFor_of_name (by decide +kernel)) (by intro v hv; simp at hv; rcases hv with rfl | rfl <;> rfl) (Nat.le_of_ble_eq_true rfl) rfl ?_
  intro k X hkl hkG E
  subst hkl
  subst hkG
  unfold f_Md_isTwice at hf
  refine hv_aload_n (pn := 1) X d_Md_isTwice_0 ?_
  obtain ⟨_, hr1, hf⟩ := bd_E hf
  obtain ⟨v2, hv2, hf⟩ := bd_E hf
  refine hv_callV (pn := 4) X d_Md_isTwice_1 (c_Md_intervalOfCopy _ _ N σ a0 _ hv2) cs_Md_259 q_5_104 rfl qs_Md_intervalOfCopy hr1 (by decide) (by decide) ⟨Nat.le_refl _, Nat.le_refl _⟩ (Nat.le_of_ble_eq_true rfl) ?_
  refine hv_istore_n (pn := 5) (i := 2) (lo' := [some (.ref a0), some (.int x1), some (.int v2), none, none, none, none, none, none]) X d_Md_isTwice_4 ?_
  refine hv_bipush (pn := 7) (v := 6) X d_Md_isTwice_5 ?_
  refine hv_aload_n (pn := 8) X d_Md_isTwice_7 ?_
  obtain ⟨b3, hb3, hf⟩ := bd_E hf
  refine hv_getR (pn := 11) X d_Md_isTwice_8 fa_Md_166 hb3 ?_
  refine hv_iconst (pn := 12) (v := 5) X d_Md_isTwice_11 ?_
  obtain ⟨v4, hv4, hf⟩ := bd_E hf
  refine hv_iald (pn := 13) X d_Md_isTwice_12 hv4 ?_
  refine hv_iadd (pn := 14) X d_Md_isTwice_13 ?_
  refine hv_istore_n (pn := 15) (i := 3) (lo' := [some (.ref a0), some (.int x1), some (.int v2), some (.int (6 + v4)), none, none, none, none, none]) X d_Md_isTwice_14 ?_
  refine hv_iconst (pn := 16) (v := 0) X d_Md_isTwice_15 ?_
  refine hv_istore (pn := 18) (i := 4) (lo' := [some (.ref a0), some (.int x1), some (.int v2), some (.int (6 + v4)), some (.int 0), none, none, none, none]) X d_Md_isTwice_16 ?_
  refine hv_iconst (pn := 19) (v := 0) X d_Md_isTwice_18 ?_
  refine hv_istore (pn := 21) (i := 5) (lo' := [some (.ref a0), some (.int x1), some (.int v2), some (.int (6 + v4)), some (.int 0), some (.int 0), none, none, none]) X d_Md_isTwice_19 ?_
  obtain ⟨x20, he36, hf⟩ := bd_E hf
  refine hv_loop (P := fun s => hv_V k σ 21 [some (.ref a0), some (.int x1), some (.int v2), some (.int (6 + v4)), some (.int s.1), some (.int s.2), none, none, none] []) (Z := fun s => hv_V k σ 145 [some (.ref a0), some (.int x1), some (.int v2), some (.int (6 + v4)), some (.int s), none, none, none, none] []) (fun s r h1 h2 => by obtain ⟨x4, x5⟩ := s; exact w_Md_isTwice_l21 X N σ a0 x1 v2 (6 + v4) x4 x5 r h1 h2) N (0, 0) _ he36 ?_
  try dsimp only at hf ⊢
  refine hv_sipush (pn := 148) (v := 1024) X d_Md_isTwice_145 ?_
  refine hv_iload_n (pn := 149) X d_Md_isTwice_148 ?_
  refine hv_imul (pn := 150) X d_Md_isTwice_149 ?_
  refine hv_istore (pn := 152) (i := 5) (lo' := [some (.ref a0), some (.int x1), some (.int v2), some (.int (6 + v4)), some (.int x20), some (.int (1024 * x1)), none, none, none]) X d_Md_isTwice_150 ?_
  obtain ⟨x32, he34, hf⟩ := bd_E hf
  refine hv_loop (P := fun s => hv_V k σ 152 [some (.ref a0), some (.int x1), some (.int v2), some (.int (6 + v4)), some (.int s.1), some (.int s.2), none, none, none] []) (Z := fun s => hv_V k σ 263 [none, none, none, none, some (.int s), none, none, none, none] []) (fun s r h1 h2 => by obtain ⟨x4, x5⟩ := s; exact w_Md_isTwice_l152 X N σ a0 x1 v2 (6 + v4) x4 x5 r h1 h2) N (x20, 1024 * x1) _ he34 ?_
  try dsimp only at hf ⊢
  refine hv_iload (pn := 265) X d_Md_isTwice_263 ?_
  obtain ⟨_, hz, hf⟩ := bd_E hf
  cases hf
  exact hv_zret X d_Md_isTwice_265 (ho_bz_E hz) E
